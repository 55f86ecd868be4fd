theorem tw_all {ws : List Cond} (is : List Nat) (h : is.filterMap (fun i => lw_tbl[i]?) = ws) (hg : ws.all goodWord = true) : ∀ w ∈ ws, w ∈ TW := by
  intro w hw
  have h1 := List.all_eq_true.mp hg w hw
  rw [← h] at hw
  obtain ⟨i, -, hi⟩ := List.mem_filterMap.mp hw
  exact tw_mem i hi (by rw [h1]; rfl)
set_option maxRecDepth 100000 in
theorem tw0 : Cond.selects RX5 yX5_endAt yX5_endAt ∈ TW := tw_mem 0 rfl rfl
set_option maxRecDepth 100000 in
theorem tw1 : Cond.selects "java/lang/Throwable" ⟨"java/lang/Throwable", "fillInStackTrace", "(I)Ljava/lang/Throwable;"⟩ ⟨"java/lang/Throwable", "fillInStackTrace", "(I)Ljava/lang/Throwable;"⟩ ∈ TW := tw_mem 1 rfl rfl
set_option maxRecDepth 100000 in
theorem tw2 : Cond.selects RX0 yX0_change yX0_change ∈ TW := tw_mem 2 rfl rfl
set_option maxRecDepth 100000 in
theorem tw3 : Cond.selects RX0 yX0_speak yX0_speak ∈ TW := tw_mem 3 rfl rfl
set_option maxRecDepth 100000 in
theorem tw4 : Cond.selects RX0 yX0_composeRequest yX0_composeRequest ∈ TW := tw_mem 4 rfl rfl
set_option maxRecDepth 100000 in
theorem tw5 : Cond.selects RX0 yX0_transmit yX0_transmit ∈ TW := tw_mem 5 rfl rfl
set_option maxRecDepth 100000 in
theorem tw6 : Cond.selects RX3 yX3_checkOf yX3_checkOf ∈ TW := tw_mem 6 rfl rfl
set_option maxRecDepth 100000 in
theorem tw7 : Cond.selects RX0 yX0_spendTry yX0_spendTry ∈ TW := tw_mem 7 rfl rfl
set_option maxRecDepth 100000 in
theorem tw8 : Cond.selects RX5 yX5_lineAt yX5_lineAt ∈ TW := tw_mem 8 rfl rfl
set_option maxRecDepth 100000 in
theorem tw9 : Cond.selects RX3 yX3_hasWholeOptions yX3_hasWholeOptions ∈ TW := tw_mem 9 rfl rfl
set_option maxRecDepth 100000 in
theorem tw10 : Cond.selects RX3 yX3_hasTypeAhead yX3_hasTypeAhead ∈ TW := tw_mem 10 rfl rfl
set_option maxRecDepth 100000 in
theorem tw11 : Cond.selects RX0 yX0_isRight yX0_isRight ∈ TW := tw_mem 11 rfl rfl
set_option maxRecDepth 100000 in
theorem tw12 : Cond.selects RX0 yX0_learn yX0_learn ∈ TW := tw_mem 12 rfl rfl
set_option maxRecDepth 100000 in
theorem tw13 : Cond.selects RX0 yX0_suspect yX0_suspect ∈ TW := tw_mem 13 rfl rfl
set_option maxRecDepth 100000 in
theorem tw14 : Cond.selects RX0 yX0_learnOption yX0_learnOption ∈ TW := tw_mem 14 rfl rfl
set_option maxRecDepth 100000 in
theorem tw15 : Cond.selects RX0 yX0_learnSize yX0_learnSize ∈ TW := tw_mem 15 rfl rfl
set_option maxRecDepth 100000 in
theorem tw16 : Cond.selects RX0 yX0_learnNumber yX0_learnNumber ∈ TW := tw_mem 16 rfl rfl
set_option maxRecDepth 100000 in
theorem tw17 : Cond.selects RX0 yX0_eventOfPacket yX0_eventOfPacket ∈ TW := tw_mem 17 rfl rfl
set_option maxRecDepth 100000 in
theorem tw18 : Cond.selects RX0 yX0_composeAnswer yX0_composeAnswer ∈ TW := tw_mem 18 rfl rfl
set_option maxRecDepth 100000 in
theorem tw19 : Cond.selects RX0 yX0_answerCode yX0_answerCode ∈ TW := tw_mem 19 rfl rfl
set_option maxRecDepth 100000 in
theorem tw20 : Cond.selects RX0 yX0_optionAnswer yX0_optionAnswer ∈ TW := tw_mem 20 rfl rfl
set_option maxRecDepth 100000 in
theorem tw21 : Cond.selects RX0 yX0_answerOption yX0_answerOption ∈ TW := tw_mem 21 rfl rfl
set_option maxRecDepth 100000 in
theorem tw22 : Cond.selects RX0 yX0_refusesNegotiation yX0_refusesNegotiation ∈ TW := tw_mem 22 rfl rfl
set_option maxRecDepth 100000 in
theorem tw23 : Cond.selects RX6 yX6_happen yX6_happen ∈ TW := tw_mem 23 rfl rfl
set_option maxRecDepth 100000 in
theorem tw24 : Cond.selects RX6 yX6_act yX6_act ∈ TW := tw_mem 24 rfl rfl
set_option maxRecDepth 100000 in
theorem tw25 : Cond.selects RX6 yX6_request yX6_request ∈ TW := tw_mem 25 rfl rfl
set_option maxRecDepth 100000 in
theorem tw26 : Cond.selects RX6 yX6_nextId yX6_nextId ∈ TW := tw_mem 26 rfl rfl
set_option maxRecDepth 100000 in
theorem tw27 : Cond.selects RX6 yX6_begin yX6_begin ∈ TW := tw_mem 27 rfl rfl
set_option maxRecDepth 100000 in
theorem tw28 : Cond.selects RX6 yX6_add yX6_add ∈ TW := tw_mem 28 rfl rfl
set_option maxRecDepth 100000 in
theorem tw29 : Cond.selects RX6 yX6_addInt yX6_addInt ∈ TW := tw_mem 29 rfl rfl
set_option maxRecDepth 100000 in
theorem tw30 : Cond.selects RX6 yX6_ship yX6_ship ∈ TW := tw_mem 30 rfl rfl
set_option maxRecDepth 100000 in
theorem tw31 : Cond.selects RX6 yX6_tally yX6_tally ∈ TW := tw_mem 31 rfl rfl
set_option maxRecDepth 100000 in
theorem tw32 : Cond.selects RX6 yX6_lay yX6_lay ∈ TW := tw_mem 32 rfl rfl
set_option maxRecDepth 100000 in
theorem tw33 : Cond.selects RX6 yX6_reply yX6_reply ∈ TW := tw_mem 33 rfl rfl
set_option maxRecDepth 100000 in
theorem tw34 : Cond.selects RX6 yX6_take yX6_take ∈ TW := tw_mem 34 rfl rfl
set_option maxRecDepth 100000 in
theorem tw35 : Cond.selects RX6 yX6_receive yX6_receive ∈ TW := tw_mem 35 rfl rfl
set_option maxRecDepth 100000 in
theorem tw36 : Cond.selects RX6 yX6_whole yX6_whole ∈ TW := tw_mem 36 rfl rfl
set_option maxRecDepth 100000 in
theorem tw37 : Cond.selects RX6 yX6_at yX6_at ∈ TW := tw_mem 37 rfl rfl
set_option maxRecDepth 100000 in
theorem tw38 : Cond.selects RX6 yX6_keepData yX6_keepData ∈ TW := tw_mem 38 rfl rfl
set_option maxRecDepth 100000 in
theorem tw39 : Cond.selects RX6 yX6_isControl yX6_isControl ∈ TW := tw_mem 39 rfl rfl
set_option maxRecDepth 100000 in
theorem tw40 : Cond.selects RX6 yX6_areOptions yX6_areOptions ∈ TW := tw_mem 40 rfl rfl
set_option maxRecDepth 100000 in
theorem tw41 : Cond.selects RX6 yX6_control yX6_control ∈ TW := tw_mem 41 rfl rfl
set_option maxRecDepth 100000 in
theorem tw42 : Cond.selects RX6 yX6_isRight yX6_isRight ∈ TW := tw_mem 42 rfl rfl
set_option maxRecDepth 100000 in
theorem tw43 : Cond.selects RX6 yX6_weigh yX6_weigh ∈ TW := tw_mem 43 rfl rfl
set_option maxRecDepth 100000 in
theorem tw44 : Cond.selects RX6 yX6_judge yX6_judge ∈ TW := tw_mem 44 rfl rfl
set_option maxRecDepth 100000 in
theorem tw45 : Cond.selects RX6 yX6_intAt yX6_intAt ∈ TW := tw_mem 45 rfl rfl
set_option maxRecDepth 100000 in
theorem tw46 : Cond.selects RX6 yX6_answerWith yX6_answerWith ∈ TW := tw_mem 46 rfl rfl
set_option maxRecDepth 100000 in
theorem tw47 : Cond.selects RX6 yX6_answerInt yX6_answerInt ∈ TW := tw_mem 47 rfl rfl
set_option maxRecDepth 100000 in
theorem tw48 : Cond.selects RX6 yX6_change yX6_change ∈ TW := tw_mem 48 rfl rfl
set_option maxRecDepth 100000 in
theorem tw49 : Cond.selects RX6 yX6_isByte yX6_isByte ∈ TW := tw_mem 49 rfl rfl
set_option maxRecDepth 100000 in
theorem tw50 : Cond.selects RX6 yX6_asks yX6_asks ∈ TW := tw_mem 50 rfl rfl
set_option maxRecDepth 100000 in
theorem tw51 : Cond.initialized RL ∈ TW := tw_mem 51 rfl rfl
set_option maxRecDepth 100000 in
theorem tw52 : Cond.initialized RX5 ∈ TW := tw_mem 52 rfl rfl
set_option maxRecDepth 100000 in
theorem tw53 : Cond.initialized RX2 ∈ TW := tw_mem 53 rfl rfl
set_option maxRecDepth 100000 in
theorem tw54 : Cond.initialized RX0 ∈ TW := tw_mem 54 rfl rfl
set_option maxRecDepth 100000 in
theorem tw55 : Cond.initialized RX4 ∈ TW := tw_mem 55 rfl rfl
set_option maxRecDepth 100000 in
theorem tw56 : Cond.initialized RX3 ∈ TW := tw_mem 56 rfl rfl
set_option maxRecDepth 100000 in
theorem tw57 : Cond.initialized RX6 ∈ TW := tw_mem 57 rfl rfl
set_option maxRecDepth 100000 in
theorem tw58 : Cond.initialized "java/lang/Throwable" ∈ TW := tw_mem 58 rfl rfl
set_option maxRecDepth 100000 in
theorem tw59 : Cond.initialized "java/lang/Exception" ∈ TW := tw_mem 59 rfl rfl
set_option maxRecDepth 100000 in
theorem tw60 : Cond.initialized "java/lang/RuntimeException" ∈ TW := tw_mem 60 rfl rfl
set_option maxRecDepth 100000 in
theorem tw61 : Cond.initialized "java/lang/IndexOutOfBoundsException" ∈ TW := tw_mem 61 rfl rfl
set_option maxRecDepth 100000 in
theorem tw62 : Cond.initialized "java/lang/IllegalArgumentException" ∈ TW := tw_mem 62 rfl rfl
set_option maxRecDepth 100000 in
theorem tw63 : Cond.initialized "java/lang/IllegalStateException" ∈ TW := tw_mem 63 rfl rfl
set_option maxRecDepth 100000 in
theorem tw64 : Cond.initialized RJx29ce0 ∈ TW := tw_mem 64 rfl rfl
set_option maxRecDepth 100000 in
theorem tw65 : Cond.initialized RX1 ∈ TW := tw_mem 65 rfl rfl
set_option maxRecDepth 100000 in
theorem tw66 : Cond.initialized RJ0 ∈ TW := tw_mem 66 rfl rfl
set_option maxRecDepth 100000 in
theorem tw67 : Cond.initialized RJ1 ∈ TW := tw_mem 67 rfl rfl
set_option maxRecDepth 100000 in
theorem tw68 : Cond.initialized RJ3 ∈ TW := tw_mem 68 rfl rfl
set_option maxRecDepth 100000 in
theorem tw69 : Cond.initialized RJ2 ∈ TW := tw_mem 69 rfl rfl
set_option maxRecDepth 100000 in
theorem tw70 : Cond.initialized RJ9 ∈ TW := tw_mem 70 rfl rfl
set_option maxRecDepth 100000 in
theorem tw71 : Cond.classLink RL 8 RX5 ∈ TW := tw_mem 71 rfl rfl
set_option maxRecDepth 100000 in
theorem tw72 : Cond.instantiable RX5 4 ∈ TW := tw_mem 72 rfl rfl
set_option maxRecDepth 100000 in
theorem tw73 : Cond.methodLink RL 62 yX5_init ∈ TW := tw_mem 73 rfl rfl
set_option maxRecDepth 100000 in
theorem tw74 : Cond.instanceMethod yX5_init ∈ TW := tw_mem 74 rfl rfl
set_option maxRecDepth 100000 in
theorem tw75 : Cond.code yX5_init cX5_init 1 none ∈ TW := tw_mem 75 rfl rfl
set_option maxRecDepth 100000 in
theorem tw76 : Cond.methodLink RX5 1 ⟨"java/lang/Object", "<init>", "()V"⟩ ∈ TW := tw_mem 76 rfl rfl
set_option maxRecDepth 100000 in
theorem tw77 : Cond.instanceMethod ⟨"java/lang/Object", "<init>", "()V"⟩ ∈ TW := tw_mem 77 rfl rfl
set_option maxRecDepth 100000 in
theorem tw78 : Cond.code ⟨"java/lang/Object", "<init>", "()V"⟩ object_method_1_code 1 none ∈ TW := tw_mem 78 rfl rfl
set_option maxRecDepth 100000 in
theorem tw79 : Cond.classLink RX5 7 RX2 ∈ TW := tw_mem 79 rfl rfl
set_option maxRecDepth 100000 in
theorem tw80 : Cond.instantiable RX2 4 ∈ TW := tw_mem 80 rfl rfl
set_option maxRecDepth 100000 in
theorem tw81 : Cond.methodLinkNest RX5 9 yX2_init RX5 ∈ TW := tw_mem 81 rfl rfl
set_option maxRecDepth 100000 in
theorem tw82 : Cond.instanceMethod yX2_init ∈ TW := tw_mem 82 rfl rfl
set_option maxRecDepth 100000 in
theorem tw83 : Cond.code yX2_init cX2_init 1 none ∈ TW := tw_mem 83 rfl rfl
set_option maxRecDepth 100000 in
theorem tw84 : Cond.methodLink RX2 3 ⟨"java/lang/Object", "<init>", "()V"⟩ ∈ TW := tw_mem 84 rfl rfl
set_option maxRecDepth 100000 in
theorem tw85 : Cond.fieldLink RX2 9 "LineTalk$Line" "bytes" "[I" ∈ TW := tw_mem 85 rfl rfl
set_option maxRecDepth 100000 in
theorem tw86 : Cond.fieldLink RX2 19 "LineTalk$Line" "first" "I" ∈ TW := tw_mem 86 rfl rfl
set_option maxRecDepth 100000 in
theorem tw87 : Cond.fieldLink RX2 15 "LineTalk$Line" "used" "I" ∈ TW := tw_mem 87 rfl rfl
set_option maxRecDepth 100000 in
theorem tw88 : Cond.fieldLinkNest RX5 85 "LineTalk$Line" "used" "I" RX5 ∈ TW := tw_mem 88 rfl rfl
set_option maxRecDepth 100000 in
theorem tw89 : Cond.fieldLinkNest RX0 100 "LineTalk$Line" "used" "I" RX5 ∈ TW := tw_mem 89 rfl rfl
set_option maxRecDepth 100000 in
theorem tw90 : Cond.fieldLinkNest RX5 81 "LineTalk$Line" "loops" "Z" RX5 ∈ TW := tw_mem 90 rfl rfl
set_option maxRecDepth 100000 in
theorem tw100 : Cond.arrayClass .int ∈ TW := tw_mem 100 rfl rfl
set_option maxRecDepth 100000 in
theorem tw101 : Cond.classLink RX5 19 RX0 ∈ TW := tw_mem 101 rfl rfl
set_option maxRecDepth 100000 in
theorem tw102 : Cond.instantiable RX0 17 ∈ TW := tw_mem 102 rfl rfl
set_option maxRecDepth 100000 in
theorem tw103 : Cond.methodLink RX5 21 yX0_init ∈ TW := tw_mem 103 rfl rfl
set_option maxRecDepth 100000 in
theorem tw104 : Cond.instanceMethod yX0_init ∈ TW := tw_mem 104 rfl rfl
set_option maxRecDepth 100000 in
theorem tw105 : Cond.code yX0_init cX0_init 2 none ∈ TW := tw_mem 105 rfl rfl
set_option maxRecDepth 100000 in
theorem tw106 : Cond.methodLink RX0 3 ⟨"java/lang/Object", "<init>", "()V"⟩ ∈ TW := tw_mem 106 rfl rfl
set_option maxRecDepth 100000 in
theorem tw107 : Cond.classLink RX0 9 RX4 ∈ TW := tw_mem 107 rfl rfl
set_option maxRecDepth 100000 in
theorem tw108 : Cond.instantiable RX4 3 ∈ TW := tw_mem 108 rfl rfl
set_option maxRecDepth 100000 in
theorem tw109 : Cond.methodLinkNest RX0 11 yX4_init RX5 ∈ TW := tw_mem 109 rfl rfl
set_option maxRecDepth 100000 in
theorem tw110 : Cond.instanceMethod yX4_init ∈ TW := tw_mem 110 rfl rfl
set_option maxRecDepth 100000 in
theorem tw111 : Cond.code yX4_init cX4_init 1 none ∈ TW := tw_mem 111 rfl rfl
set_option maxRecDepth 100000 in
theorem tw112 : Cond.methodLink RX4 3 ⟨"java/lang/Object", "<init>", "()V"⟩ ∈ TW := tw_mem 112 rfl rfl
set_option maxRecDepth 100000 in
theorem tw113 : Cond.classLink RX4 9 RX3 ∈ TW := tw_mem 113 rfl rfl
set_option maxRecDepth 100000 in
theorem tw114 : Cond.instantiable RX3 2 ∈ TW := tw_mem 114 rfl rfl
set_option maxRecDepth 100000 in
theorem tw115 : Cond.methodLink RX4 11 yX3_init ∈ TW := tw_mem 115 rfl rfl
set_option maxRecDepth 100000 in
theorem tw116 : Cond.instanceMethod yX3_init ∈ TW := tw_mem 116 rfl rfl
set_option maxRecDepth 100000 in
theorem tw117 : Cond.code yX3_init cX3_init 2 none ∈ TW := tw_mem 117 rfl rfl
set_option maxRecDepth 100000 in
theorem tw118 : Cond.methodLink RX3 3 ⟨"java/lang/Object", "<init>", "()V"⟩ ∈ TW := tw_mem 118 rfl rfl
set_option maxRecDepth 100000 in
theorem tw119 : Cond.fieldLink RX3 9 "LineTalk$Packet" "bytes" "[I" ∈ TW := tw_mem 119 rfl rfl
set_option maxRecDepth 100000 in
theorem tw120 : Cond.fieldLinkNest RX2 32 "LineTalk$Packet" "bytes" "[I" RX5 ∈ TW := tw_mem 120 rfl rfl
set_option maxRecDepth 100000 in
theorem tw121 : Cond.fieldLinkNest RX4 24 "LineTalk$Packet" "used" "I" RX5 ∈ TW := tw_mem 121 rfl rfl
set_option maxRecDepth 100000 in
theorem tw122 : Cond.fieldLinkNest RX0 70 "LineTalk$Packet" "used" "I" RX5 ∈ TW := tw_mem 122 rfl rfl
set_option maxRecDepth 100000 in
theorem tw123 : Cond.fieldLink RX3 15 "LineTalk$Packet" "used" "I" ∈ TW := tw_mem 123 rfl rfl
set_option maxRecDepth 100000 in
theorem tw124 : Cond.fieldLinkNest RX2 29 "LineTalk$Packet" "used" "I" RX5 ∈ TW := tw_mem 124 rfl rfl
set_option maxRecDepth 100000 in
theorem tw125 : Cond.fieldLinkNest RX5 174 "LineTalk$Packet" "used" "I" RX5 ∈ TW := tw_mem 125 rfl rfl
set_option maxRecDepth 100000 in
theorem tw131 : Cond.fieldLink RX4 14 "LineTalk$Receiver" "gathered" "LLineTalk$Packet;" ∈ TW := tw_mem 131 rfl rfl
set_option maxRecDepth 100000 in
theorem tw132 : Cond.fieldLinkNest RX0 18 "LineTalk$Receiver" "gathered" "LLineTalk$Packet;" RX5 ∈ TW := tw_mem 132 rfl rfl
set_option maxRecDepth 100000 in
theorem tw133 : Cond.fieldLinkNest RX5 171 "LineTalk$Receiver" "gathered" "LLineTalk$Packet;" RX5 ∈ TW := tw_mem 133 rfl rfl
set_option maxRecDepth 100000 in
theorem tw134 : Cond.fieldLink RX4 20 "LineTalk$Receiver" "escaped" "Z" ∈ TW := tw_mem 134 rfl rfl
set_option maxRecDepth 100000 in
theorem tw135 : Cond.fieldLink RX4 28 "LineTalk$Receiver" "overfull" "Z" ∈ TW := tw_mem 135 rfl rfl
set_option maxRecDepth 100000 in
theorem tw143 : Cond.classLink RX0 25 RX3 ∈ TW := tw_mem 143 rfl rfl
set_option maxRecDepth 100000 in
theorem tw144 : Cond.methodLink RX0 27 yX3_init ∈ TW := tw_mem 144 rfl rfl
set_option maxRecDepth 100000 in
theorem tw145 : Cond.fieldLink RX0 63 "LineTalk$End" "line" "LLineTalk$Line;" ∈ TW := tw_mem 145 rfl rfl
set_option maxRecDepth 100000 in
theorem tw146 : Cond.fieldLinkNest RX5 137 "LineTalk$End" "line" "LLineTalk$Line;" RX5 ∈ TW := tw_mem 146 rfl rfl
set_option maxRecDepth 100000 in
theorem tw147 : Cond.fieldLink RX0 12 "LineTalk$End" "receiver" "LLineTalk$Receiver;" ∈ TW := tw_mem 147 rfl rfl
set_option maxRecDepth 100000 in
theorem tw148 : Cond.fieldLinkNest RX5 92 "LineTalk$End" "receiver" "LLineTalk$Receiver;" RX5 ∈ TW := tw_mem 148 rfl rfl
set_option maxRecDepth 100000 in
theorem tw149 : Cond.fieldLink RX0 22 "LineTalk$End" "came" "LLineTalk$Packet;" ∈ TW := tw_mem 149 rfl rfl
set_option maxRecDepth 100000 in
theorem tw150 : Cond.fieldLink RX0 30 "LineTalk$End" "kept" "LLineTalk$Packet;" ∈ TW := tw_mem 150 rfl rfl
set_option maxRecDepth 100000 in
theorem tw151 : Cond.fieldLinkNest RX5 146 "LineTalk$End" "kept" "LLineTalk$Packet;" RX5 ∈ TW := tw_mem 151 rfl rfl
set_option maxRecDepth 100000 in
theorem tw152 : Cond.fieldLink RX0 33 "LineTalk$End" "asked" "LLineTalk$Packet;" ∈ TW := tw_mem 152 rfl rfl
set_option maxRecDepth 100000 in
theorem tw153 : Cond.fieldLink RX0 36 "LineTalk$End" "answer" "LLineTalk$Packet;" ∈ TW := tw_mem 153 rfl rfl
set_option maxRecDepth 100000 in
theorem tw154 : Cond.fieldLink RX0 39 "LineTalk$End" "draft" "LLineTalk$Packet;" ∈ TW := tw_mem 154 rfl rfl
set_option maxRecDepth 100000 in
theorem tw155 : Cond.fieldLink RX0 42 "LineTalk$End" "counts" "[I" ∈ TW := tw_mem 155 rfl rfl
set_option maxRecDepth 100000 in
theorem tw156 : Cond.fieldLinkNest RX5 175 "LineTalk$End" "counts" "[I" RX5 ∈ TW := tw_mem 156 rfl rfl
set_option maxRecDepth 100000 in
theorem tw157 : Cond.fieldLink RX0 46 "LineTalk$End" "size" "I" ∈ TW := tw_mem 157 rfl rfl
set_option maxRecDepth 100000 in
theorem tw158 : Cond.fieldLinkNest RX5 49 "LineTalk$End" "size" "I" RX5 ∈ TW := tw_mem 158 rfl rfl
set_option maxRecDepth 100000 in
theorem tw159 : Cond.fieldLink RX0 50 "LineTalk$End" "least" "I" ∈ TW := tw_mem 159 rfl rfl
set_option maxRecDepth 100000 in
theorem tw160 : Cond.fieldLinkNest RX5 52 "LineTalk$End" "least" "I" RX5 ∈ TW := tw_mem 160 rfl rfl
set_option maxRecDepth 100000 in
theorem tw161 : Cond.fieldLinkNest RX5 55 "LineTalk$End" "number" "I" RX5 ∈ TW := tw_mem 161 rfl rfl
set_option maxRecDepth 100000 in
theorem tw162 : Cond.fieldLink RX0 88 "LineTalk$End" "number" "I" ∈ TW := tw_mem 162 rfl rfl
set_option maxRecDepth 100000 in
theorem tw163 : Cond.fieldLink RX0 53 "LineTalk$End" "asksSize" "Z" ∈ TW := tw_mem 163 rfl rfl
set_option maxRecDepth 100000 in
theorem tw164 : Cond.fieldLinkNest RX5 165 "LineTalk$End" "asksSize" "Z" RX5 ∈ TW := tw_mem 164 rfl rfl
set_option maxRecDepth 100000 in
theorem tw165 : Cond.fieldLink RX0 57 "LineTalk$End" "asksNumber" "Z" ∈ TW := tw_mem 165 rfl rfl
set_option maxRecDepth 100000 in
theorem tw166 : Cond.fieldLinkNest RX5 168 "LineTalk$End" "asksNumber" "Z" RX5 ∈ TW := tw_mem 166 rfl rfl
set_option maxRecDepth 100000 in
theorem tw167 : Cond.fieldLink RX0 60 "LineTalk$End" "state" "I" ∈ TW := tw_mem 167 rfl rfl
set_option maxRecDepth 100000 in
theorem tw168 : Cond.fieldLinkNest RX5 42 "LineTalk$End" "state" "I" RX5 ∈ TW := tw_mem 168 rfl rfl
set_option maxRecDepth 100000 in
theorem tw169 : Cond.fieldLink RX0 67 "LineTalk$End" "latestId" "I" ∈ TW := tw_mem 169 rfl rfl
set_option maxRecDepth 100000 in
theorem tw170 : Cond.fieldLinkNest RX5 143 "LineTalk$End" "latestId" "I" RX5 ∈ TW := tw_mem 170 rfl rfl
set_option maxRecDepth 100000 in
theorem tw171 : Cond.fieldLink RX0 109 "LineTalk$End" "triesLeft" "I" ∈ TW := tw_mem 171 rfl rfl
set_option maxRecDepth 100000 in
theorem tw172 : Cond.fieldLinkNest RX5 159 "LineTalk$End" "triesLeft" "I" RX5 ∈ TW := tw_mem 172 rfl rfl
set_option maxRecDepth 100000 in
theorem tw173 : Cond.fieldLink RX0 106 "LineTalk$End" "timer" "I" ∈ TW := tw_mem 173 rfl rfl
set_option maxRecDepth 100000 in
theorem tw174 : Cond.fieldLinkNest RX5 162 "LineTalk$End" "timer" "I" RX5 ∈ TW := tw_mem 174 rfl rfl
set_option maxRecDepth 100000 in
theorem tw210 : Cond.fieldLink RX5 10 "LineTalk" "line0" "LLineTalk$Line;" ∈ TW := tw_mem 210 rfl rfl
set_option maxRecDepth 100000 in
theorem tw211 : Cond.fieldLink RX5 16 "LineTalk" "line1" "LLineTalk$Line;" ∈ TW := tw_mem 211 rfl rfl
set_option maxRecDepth 100000 in
theorem tw212 : Cond.fieldLink RX5 24 "LineTalk" "end0" "LLineTalk$End;" ∈ TW := tw_mem 212 rfl rfl
set_option maxRecDepth 100000 in
theorem tw213 : Cond.fieldLink RX5 28 "LineTalk" "end1" "LLineTalk$End;" ∈ TW := tw_mem 213 rfl rfl
set_option maxRecDepth 100000 in
theorem tw223 : Cond.methodLink RL 119 yX5_noise ∈ TW := tw_mem 223 rfl rfl
set_option maxRecDepth 100000 in
theorem tw224 : Cond.instanceMethod yX5_noise ∈ TW := tw_mem 224 rfl rfl
set_option maxRecDepth 100000 in
theorem tw225 : Cond.selects RX5 yX5_noise yX5_noise ∈ TW := tw_mem 225 rfl rfl
set_option maxRecDepth 100000 in
theorem tw226 : Cond.code yX5_noise cX5_noise 3 (some .float) ∈ TW := tw_mem 226 rfl rfl
set_option maxRecDepth 100000 in
theorem tw227 : Cond.methodLink RL 66 yL_set ∈ TW := tw_mem 227 rfl rfl
set_option maxRecDepth 100000 in
theorem tw228 : Cond.static yL_set ∈ TW := tw_mem 228 rfl rfl
set_option maxRecDepth 100000 in
theorem tw230 : Cond.classLink RL 13 "java/lang/IndexOutOfBoundsException" ∈ TW := tw_mem 230 rfl rfl
set_option maxRecDepth 100000 in
theorem tw231 : Cond.classLink RL 15 "java/lang/IllegalArgumentException" ∈ TW := tw_mem 231 rfl rfl
set_option maxRecDepth 100000 in
theorem tw232 : Cond.classLink RL 17 "java/lang/IllegalStateException" ∈ TW := tw_mem 232 rfl rfl
set_option maxRecDepth 100000 in
theorem tw233 : Cond.methodLink RL 7 yX5_set ∈ TW := tw_mem 233 rfl rfl
set_option maxRecDepth 100000 in
theorem tw234 : Cond.instanceMethod yX5_set ∈ TW := tw_mem 234 rfl rfl
set_option maxRecDepth 100000 in
theorem tw235 : Cond.selects RX5 yX5_set yX5_set ∈ TW := tw_mem 235 rfl rfl
set_option maxRecDepth 100000 in
theorem tw236 : Cond.code yX5_set cX5_set 6 none ∈ TW := tw_mem 236 rfl rfl
set_option maxRecDepth 100000 in
theorem tw237 : Cond.methodLink RX5 31 yX5_endAt ∈ TW := tw_mem 237 rfl rfl
set_option maxRecDepth 100000 in
theorem tw239 : Cond.instanceMethod yX5_endAt ∈ TW := tw_mem 239 rfl rfl
set_option maxRecDepth 100000 in
theorem tw240 : Cond.code yX5_endAt cX5_endAt 2 (some (.object "LineTalk$End")) ∈ TW := tw_mem 240 rfl rfl
set_option maxRecDepth 100000 in
theorem tw241 : Cond.classLink RX5 118 "java/lang/IndexOutOfBoundsException" ∈ TW := tw_mem 241 rfl rfl
set_option maxRecDepth 100000 in
theorem tw242 : Cond.instantiable "java/lang/IndexOutOfBoundsException" 6 ∈ TW := tw_mem 242 rfl rfl
set_option maxRecDepth 100000 in
theorem tw250 : Cond.selects "java/lang/IndexOutOfBoundsException" ⟨"java/lang/Throwable", "fillInStackTrace", "(I)Ljava/lang/Throwable;"⟩ ⟨"java/lang/Throwable", "fillInStackTrace", "(I)Ljava/lang/Throwable;"⟩ ∈ TW := tw_mem 250 rfl rfl
set_option maxRecDepth 100000 in
theorem tw251 : Cond.selects "java/lang/IndexOutOfBoundsException" ⟨"java/lang/Throwable", "fillInStackTrace", "()Ljava/lang/Throwable;"⟩ ⟨"java/lang/Throwable", "fillInStackTrace", "()Ljava/lang/Throwable;"⟩ ∈ TW := tw_mem 251 rfl rfl
set_option maxRecDepth 100000 in
theorem tw264 : Cond.instanceMethod ⟨"java/lang/Throwable", "<init>", "()V"⟩ ∈ TW := tw_mem 264 rfl rfl
set_option maxRecDepth 100000 in
theorem tw265 : Cond.code ⟨"java/lang/Throwable", "<init>", "()V"⟩ prog_19_method_1_code 1 none ∈ TW := tw_mem 265 rfl rfl
set_option maxRecDepth 100000 in
theorem tw266 : Cond.methodLink "java/lang/Throwable" 1 ⟨"java/lang/Object", "<init>", "()V"⟩ ∈ TW := tw_mem 266 rfl rfl
set_option maxRecDepth 100000 in
theorem tw267 : Cond.fieldLink "java/lang/Throwable" 13 "java/lang/Throwable" "UNASSIGNED_STACK" "[Ljava/lang/StackTraceElement;" ∈ TW := tw_mem 267 rfl rfl
set_option maxRecDepth 100000 in
theorem tw269 : Cond.fieldLink "java/lang/Throwable" 20 "java/lang/Throwable" "SUPPRESSED_SENTINEL" "Ljava/util/List;" ∈ TW := tw_mem 269 rfl rfl
set_option maxRecDepth 100000 in
theorem tw271 : Cond.methodLink "java/lang/Throwable" 27 ⟨"java/lang/Throwable", "fillInStackTrace", "()Ljava/lang/Throwable;"⟩ ∈ TW := tw_mem 271 rfl rfl
set_option maxRecDepth 100000 in
theorem tw272 : Cond.instanceMethod ⟨"java/lang/Throwable", "fillInStackTrace", "()Ljava/lang/Throwable;"⟩ ∈ TW := tw_mem 272 rfl rfl
set_option maxRecDepth 100000 in
theorem tw274 : Cond.selects "java/lang/IllegalArgumentException" ⟨"java/lang/Throwable", "fillInStackTrace", "()Ljava/lang/Throwable;"⟩ ⟨"java/lang/Throwable", "fillInStackTrace", "()Ljava/lang/Throwable;"⟩ ∈ TW := tw_mem 274 rfl rfl
set_option maxRecDepth 100000 in
theorem tw275 : Cond.selects "java/lang/IllegalStateException" ⟨"java/lang/Throwable", "fillInStackTrace", "()Ljava/lang/Throwable;"⟩ ⟨"java/lang/Throwable", "fillInStackTrace", "()Ljava/lang/Throwable;"⟩ ∈ TW := tw_mem 275 rfl rfl
set_option maxRecDepth 100000 in
theorem tw277 : Cond.methodLink "java/lang/Throwable" 202 ⟨"java/lang/Throwable", "fillInStackTrace", "(I)Ljava/lang/Throwable;"⟩ ∈ TW := tw_mem 277 rfl rfl
set_option maxRecDepth 100000 in
theorem tw279 : Cond.instanceMethod ⟨"java/lang/Throwable", "fillInStackTrace", "(I)Ljava/lang/Throwable;"⟩ ∈ TW := tw_mem 279 rfl rfl
set_option maxRecDepth 100000 in
theorem tw280 : Cond.instantiable "java/lang/Throwable" 6 ∈ TW := tw_mem 280 rfl rfl
set_option maxRecDepth 100000 in
theorem tw282 : Cond.methodLink RX5 120 ⟨"java/lang/IndexOutOfBoundsException", "<init>", "()V"⟩ ∈ TW := tw_mem 282 rfl rfl
set_option maxRecDepth 100000 in
theorem tw283 : Cond.instanceMethod ⟨"java/lang/IndexOutOfBoundsException", "<init>", "()V"⟩ ∈ TW := tw_mem 283 rfl rfl
set_option maxRecDepth 100000 in
theorem tw284 : Cond.code ⟨"java/lang/IndexOutOfBoundsException", "<init>", "()V"⟩ prog_13_method_1_code 1 none ∈ TW := tw_mem 284 rfl rfl
set_option maxRecDepth 100000 in
theorem tw285 : Cond.methodLink "java/lang/IndexOutOfBoundsException" 1 ⟨"java/lang/RuntimeException", "<init>", "()V"⟩ ∈ TW := tw_mem 285 rfl rfl
set_option maxRecDepth 100000 in
theorem tw286 : Cond.instanceMethod ⟨"java/lang/RuntimeException", "<init>", "()V"⟩ ∈ TW := tw_mem 286 rfl rfl
set_option maxRecDepth 100000 in
theorem tw287 : Cond.code ⟨"java/lang/RuntimeException", "<init>", "()V"⟩ prog_15_method_1_code 1 none ∈ TW := tw_mem 287 rfl rfl
set_option maxRecDepth 100000 in
theorem tw288 : Cond.methodLink "java/lang/RuntimeException" 1 ⟨"java/lang/Exception", "<init>", "()V"⟩ ∈ TW := tw_mem 288 rfl rfl
set_option maxRecDepth 100000 in
theorem tw289 : Cond.instanceMethod ⟨"java/lang/Exception", "<init>", "()V"⟩ ∈ TW := tw_mem 289 rfl rfl
set_option maxRecDepth 100000 in
theorem tw290 : Cond.code ⟨"java/lang/Exception", "<init>", "()V"⟩ prog_10_method_1_code 1 none ∈ TW := tw_mem 290 rfl rfl
set_option maxRecDepth 100000 in
theorem tw291 : Cond.methodLink "java/lang/Exception" 1 ⟨"java/lang/Throwable", "<init>", "()V"⟩ ∈ TW := tw_mem 291 rfl rfl
set_option maxRecDepth 100000 in
theorem tw292 : Cond.fieldLink "java/lang/Throwable" 198 "java/lang/Throwable" "backtrace" "Ljava/lang/Object;" ∈ TW := tw_mem 292 rfl rfl
set_option maxRecDepth 100000 in
theorem tw293 : Cond.fieldLink "java/lang/Throwable" 7 "java/lang/Throwable" "cause" "Ljava/lang/Throwable;" ∈ TW := tw_mem 293 rfl rfl
set_option maxRecDepth 100000 in
theorem tw294 : Cond.fieldLink "java/lang/Throwable" 17 "java/lang/Throwable" "stackTrace" "[Ljava/lang/StackTraceElement;" ∈ TW := tw_mem 294 rfl rfl
set_option maxRecDepth 100000 in
theorem tw295 : Cond.fieldLink "java/lang/Throwable" 24 "java/lang/Throwable" "suppressedExceptions" "Ljava/util/List;" ∈ TW := tw_mem 295 rfl rfl
set_option maxRecDepth 100000 in
theorem tw304 : Cond.methodLink RX5 35 yX5_isSize ∈ TW := tw_mem 304 rfl rfl
set_option maxRecDepth 100000 in
theorem tw305 : Cond.static yX5_isSize ∈ TW := tw_mem 305 rfl rfl
set_option maxRecDepth 100000 in
theorem tw306 : Cond.code yX5_isSize cX5_isSize 1 (some .boolean) ∈ TW := tw_mem 306 rfl rfl
set_option maxRecDepth 100000 in
theorem tw307 : Cond.classLink RX5 39 "java/lang/IllegalArgumentException" ∈ TW := tw_mem 307 rfl rfl
set_option maxRecDepth 100000 in
theorem tw308 : Cond.instantiable "java/lang/IllegalArgumentException" 6 ∈ TW := tw_mem 308 rfl rfl
set_option maxRecDepth 100000 in
theorem tw310 : Cond.selects "java/lang/IllegalArgumentException" ⟨"java/lang/Throwable", "fillInStackTrace", "(I)Ljava/lang/Throwable;"⟩ ⟨"java/lang/Throwable", "fillInStackTrace", "(I)Ljava/lang/Throwable;"⟩ ∈ TW := tw_mem 310 rfl rfl
set_option maxRecDepth 100000 in
theorem tw316 : Cond.methodLink RX5 41 ⟨"java/lang/IllegalArgumentException", "<init>", "()V"⟩ ∈ TW := tw_mem 316 rfl rfl
set_option maxRecDepth 100000 in
theorem tw317 : Cond.instanceMethod ⟨"java/lang/IllegalArgumentException", "<init>", "()V"⟩ ∈ TW := tw_mem 317 rfl rfl
set_option maxRecDepth 100000 in
theorem tw318 : Cond.code ⟨"java/lang/IllegalArgumentException", "<init>", "()V"⟩ prog_11_method_1_code 1 none ∈ TW := tw_mem 318 rfl rfl
set_option maxRecDepth 100000 in
theorem tw319 : Cond.methodLink "java/lang/IllegalArgumentException" 1 ⟨"java/lang/RuntimeException", "<init>", "()V"⟩ ∈ TW := tw_mem 319 rfl rfl
set_option maxRecDepth 100000 in
theorem tw322 : Cond.classLink RX5 46 "java/lang/IllegalStateException" ∈ TW := tw_mem 322 rfl rfl
set_option maxRecDepth 100000 in
theorem tw323 : Cond.instantiable "java/lang/IllegalStateException" 6 ∈ TW := tw_mem 323 rfl rfl
set_option maxRecDepth 100000 in
theorem tw325 : Cond.selects "java/lang/IllegalStateException" ⟨"java/lang/Throwable", "fillInStackTrace", "(I)Ljava/lang/Throwable;"⟩ ⟨"java/lang/Throwable", "fillInStackTrace", "(I)Ljava/lang/Throwable;"⟩ ∈ TW := tw_mem 325 rfl rfl
set_option maxRecDepth 100000 in
theorem tw331 : Cond.methodLink RX5 48 ⟨"java/lang/IllegalStateException", "<init>", "()V"⟩ ∈ TW := tw_mem 331 rfl rfl
set_option maxRecDepth 100000 in
theorem tw332 : Cond.instanceMethod ⟨"java/lang/IllegalStateException", "<init>", "()V"⟩ ∈ TW := tw_mem 332 rfl rfl
set_option maxRecDepth 100000 in
theorem tw333 : Cond.code ⟨"java/lang/IllegalStateException", "<init>", "()V"⟩ prog_12_method_1_code 1 none ∈ TW := tw_mem 333 rfl rfl
set_option maxRecDepth 100000 in
theorem tw334 : Cond.methodLink "java/lang/IllegalStateException" 1 ⟨"java/lang/RuntimeException", "<init>", "()V"⟩ ∈ TW := tw_mem 334 rfl rfl
set_option maxRecDepth 100000 in
theorem tw337 : Cond.methodLink RL 76 yL_event ∈ TW := tw_mem 337 rfl rfl
set_option maxRecDepth 100000 in
theorem tw338 : Cond.static yL_event ∈ TW := tw_mem 338 rfl rfl
set_option maxRecDepth 100000 in
theorem tw340 : Cond.methodLink RL 19 yX5_event ∈ TW := tw_mem 340 rfl rfl
set_option maxRecDepth 100000 in
theorem tw341 : Cond.instanceMethod yX5_event ∈ TW := tw_mem 341 rfl rfl
set_option maxRecDepth 100000 in
theorem tw342 : Cond.selects RX5 yX5_event yX5_event ∈ TW := tw_mem 342 rfl rfl
set_option maxRecDepth 100000 in
theorem tw343 : Cond.code yX5_event cX5_event 4 (some .int) ∈ TW := tw_mem 343 rfl rfl
set_option maxRecDepth 100000 in
theorem tw344 : Cond.fieldLink RX5 58 "LineTalk$Event" "UP" "LLineTalk$Event;" ∈ TW := tw_mem 344 rfl rfl
set_option maxRecDepth 100000 in
theorem tw346 : Cond.methodLink RX5 64 yX0_happen ∈ TW := tw_mem 346 rfl rfl
set_option maxRecDepth 100000 in
theorem tw347 : Cond.instanceMethod yX0_happen ∈ TW := tw_mem 347 rfl rfl
set_option maxRecDepth 100000 in
theorem tw348 : Cond.selects RX0 yX0_happen yX0_happen ∈ TW := tw_mem 348 rfl rfl
set_option maxRecDepth 100000 in
theorem tw349 : Cond.code yX0_happen cX0_happen 7 none ∈ TW := tw_mem 349 rfl rfl
set_option maxRecDepth 100000 in
theorem tw350 : Cond.methodLink RX0 255 yJ0_length_8abf5 ∈ TW := tw_mem 350 rfl rfl
set_option maxRecDepth 100000 in
theorem tw351 : Cond.instanceMethod yJ0_length_8abf5 ∈ TW := tw_mem 351 rfl rfl
set_option maxRecDepth 100000 in
theorem tw352 : Cond.selects RJ0 yJ0_length_8abf5 yJ0_length_8abf5 ∈ TW := tw_mem 352 rfl rfl
set_option maxRecDepth 100000 in
theorem tw353 : Cond.code yJ0_length_8abf5 cJ0_length_8abf5 1 (some .int) ∈ TW := tw_mem 353 rfl rfl
set_option maxRecDepth 100000 in
theorem tw354 : Cond.methodLink RJ0 335 yJ0_coder_7d493 ∈ TW := tw_mem 354 rfl rfl
set_option maxRecDepth 100000 in
theorem tw355 : Cond.instanceMethod yJ0_coder_7d493 ∈ TW := tw_mem 355 rfl rfl
set_option maxRecDepth 100000 in
theorem tw356 : Cond.selects RJ0 yJ0_coder_7d493 yJ0_coder_7d493 ∈ TW := tw_mem 356 rfl rfl
set_option maxRecDepth 100000 in
theorem tw357 : Cond.code yJ0_coder_7d493 cJ0_coder_7d493 1 (some .byte) ∈ TW := tw_mem 357 rfl rfl
set_option maxRecDepth 100000 in
theorem tw358 : Cond.fieldLink RJ0 38 "java/lang/String" "COMPACT_STRINGS" "Z" ∈ TW := tw_mem 358 rfl rfl
set_option maxRecDepth 100000 in
theorem tw360 : Cond.methodLink RX0 260 yJ0_charAt_5068e ∈ TW := tw_mem 360 rfl rfl
set_option maxRecDepth 100000 in
theorem tw361 : Cond.instanceMethod yJ0_charAt_5068e ∈ TW := tw_mem 361 rfl rfl
set_option maxRecDepth 100000 in
theorem tw362 : Cond.selects RJ0 yJ0_charAt_5068e yJ0_charAt_5068e ∈ TW := tw_mem 362 rfl rfl
set_option maxRecDepth 100000 in
theorem tw363 : Cond.code yJ0_charAt_5068e cJ0_charAt_5068e 2 (some .char) ∈ TW := tw_mem 363 rfl rfl
set_option maxRecDepth 100000 in
theorem tw364 : Cond.methodLink RJ0 492 yJ0_isLatin1_aae02 ∈ TW := tw_mem 364 rfl rfl
set_option maxRecDepth 100000 in
theorem tw365 : Cond.instanceMethod yJ0_isLatin1_aae02 ∈ TW := tw_mem 365 rfl rfl
set_option maxRecDepth 100000 in
theorem tw366 : Cond.selects RJ0 yJ0_isLatin1_aae02 yJ0_isLatin1_aae02 ∈ TW := tw_mem 366 rfl rfl
set_option maxRecDepth 100000 in
theorem tw367 : Cond.code yJ0_isLatin1_aae02 cJ0_isLatin1_aae02 1 (some .boolean) ∈ TW := tw_mem 367 rfl rfl
set_option maxRecDepth 100000 in
theorem tw368 : Cond.methodLink RJ0 495 yJ1_charAt_3b067 ∈ TW := tw_mem 368 rfl rfl
set_option maxRecDepth 100000 in
theorem tw369 : Cond.static yJ1_charAt_3b067 ∈ TW := tw_mem 369 rfl rfl
set_option maxRecDepth 100000 in
theorem tw370 : Cond.code yJ1_charAt_3b067 cJ1_charAt_3b067 2 (some .char) ∈ TW := tw_mem 370 rfl rfl
set_option maxRecDepth 100000 in
theorem tw371 : Cond.methodLink RJ1 9 yJ0_checkIndex_df160 ∈ TW := tw_mem 371 rfl rfl
set_option maxRecDepth 100000 in
theorem tw372 : Cond.static yJ0_checkIndex_df160 ∈ TW := tw_mem 372 rfl rfl
set_option maxRecDepth 100000 in
theorem tw373 : Cond.code yJ0_checkIndex_df160 cJ0_checkIndex_df160 2 none ∈ TW := tw_mem 373 rfl rfl
set_option maxRecDepth 100000 in
theorem tw374 : Cond.fieldLink RJ0 1053 "jdk/internal/util/Preconditions" "SIOOBE_FORMATTER" "Ljava/util/function/BiFunction;" ∈ TW := tw_mem 374 rfl rfl
set_option maxRecDepth 100000 in
theorem tw376 : Cond.methodLink RJ0 1059 yJ3_checkIndex_8e157 ∈ TW := tw_mem 376 rfl rfl
set_option maxRecDepth 100000 in
theorem tw377 : Cond.static yJ3_checkIndex_8e157 ∈ TW := tw_mem 377 rfl rfl
set_option maxRecDepth 100000 in
theorem tw378 : Cond.code yJ3_checkIndex_8e157 cJ3_checkIndex_8e157 3 (some .int) ∈ TW := tw_mem 378 rfl rfl
set_option maxRecDepth 100000 in
theorem tw379 : Cond.methodLink RJ0 498 yJ2_charAt_3b067 ∈ TW := tw_mem 379 rfl rfl
set_option maxRecDepth 100000 in
theorem tw380 : Cond.static yJ2_charAt_3b067 ∈ TW := tw_mem 380 rfl rfl
set_option maxRecDepth 100000 in
theorem tw381 : Cond.code yJ2_charAt_3b067 cJ2_charAt_3b067 2 (some .char) ∈ TW := tw_mem 381 rfl rfl
set_option maxRecDepth 100000 in
theorem tw382 : Cond.methodLink RJ2 67 yJ2_checkIndex_2214a ∈ TW := tw_mem 382 rfl rfl
set_option maxRecDepth 100000 in
theorem tw383 : Cond.static yJ2_checkIndex_2214a ∈ TW := tw_mem 383 rfl rfl
set_option maxRecDepth 100000 in
theorem tw384 : Cond.code yJ2_checkIndex_2214a cJ2_checkIndex_2214a 2 none ∈ TW := tw_mem 384 rfl rfl
set_option maxRecDepth 100000 in
theorem tw385 : Cond.methodLink RJ2 48 yJ2_length_9d52b ∈ TW := tw_mem 385 rfl rfl
set_option maxRecDepth 100000 in
theorem tw386 : Cond.static yJ2_length_9d52b ∈ TW := tw_mem 386 rfl rfl
set_option maxRecDepth 100000 in
theorem tw387 : Cond.code yJ2_length_9d52b cJ2_length_9d52b 1 (some .int) ∈ TW := tw_mem 387 rfl rfl
set_option maxRecDepth 100000 in
theorem tw388 : Cond.methodLink RJ2 414 yJ0_checkIndex_df160 ∈ TW := tw_mem 388 rfl rfl
set_option maxRecDepth 100000 in
theorem tw389 : Cond.methodLink RJ2 71 yJ2_getChar_3b067 ∈ TW := tw_mem 389 rfl rfl
set_option maxRecDepth 100000 in
theorem tw390 : Cond.static yJ2_getChar_3b067 ∈ TW := tw_mem 390 rfl rfl
set_option maxRecDepth 100000 in
theorem tw391 : Cond.code yJ2_getChar_3b067 cJ2_getChar_3b067 2 (some .char) ∈ TW := tw_mem 391 rfl rfl
set_option maxRecDepth 100000 in
theorem tw392 : Cond.fieldLink RJ2 44 "java/lang/StringUTF16" "$assertionsDisabled" "Z" ∈ TW := tw_mem 392 rfl rfl
set_option maxRecDepth 100000 in
theorem tw394 : Cond.fieldLink RJ2 59 "java/lang/StringUTF16" "HI_BYTE_SHIFT" "I" ∈ TW := tw_mem 394 rfl rfl
set_option maxRecDepth 100000 in
theorem tw396 : Cond.fieldLink RJ2 63 "java/lang/StringUTF16" "LO_BYTE_SHIFT" "I" ∈ TW := tw_mem 396 rfl rfl
set_option maxRecDepth 100000 in
theorem tw398 : Cond.methodLink RX0 264 yX0_change ∈ TW := tw_mem 398 rfl rfl
set_option maxRecDepth 100000 in
theorem tw400 : Cond.instanceMethod yX0_change ∈ TW := tw_mem 400 rfl rfl
set_option maxRecDepth 100000 in
theorem tw401 : Cond.code yX0_change cX0_change 2 none ∈ TW := tw_mem 401 rfl rfl
set_option maxRecDepth 100000 in
theorem tw402 : Cond.methodLink RX0 270 yX3_copyFrom ∈ TW := tw_mem 402 rfl rfl
set_option maxRecDepth 100000 in
theorem tw403 : Cond.instanceMethod yX3_copyFrom ∈ TW := tw_mem 403 rfl rfl
set_option maxRecDepth 100000 in
theorem tw404 : Cond.selects RX3 yX3_copyFrom yX3_copyFrom ∈ TW := tw_mem 404 rfl rfl
set_option maxRecDepth 100000 in
theorem tw405 : Cond.code yX3_copyFrom cX3_copyFrom 3 none ∈ TW := tw_mem 405 rfl rfl
set_option maxRecDepth 100000 in
theorem tw406 : Cond.methodLink RX3 19 yX3_add ∈ TW := tw_mem 406 rfl rfl
set_option maxRecDepth 100000 in
theorem tw407 : Cond.instanceMethod yX3_add ∈ TW := tw_mem 407 rfl rfl
set_option maxRecDepth 100000 in
theorem tw408 : Cond.selects RX3 yX3_add yX3_add ∈ TW := tw_mem 408 rfl rfl
set_option maxRecDepth 100000 in
theorem tw409 : Cond.code yX3_add cX3_add 2 none ∈ TW := tw_mem 409 rfl rfl
set_option maxRecDepth 100000 in
theorem tw410 : Cond.methodLink RX0 267 yX0_speak ∈ TW := tw_mem 410 rfl rfl
set_option maxRecDepth 100000 in
theorem tw412 : Cond.instanceMethod yX0_speak ∈ TW := tw_mem 412 rfl rfl
set_option maxRecDepth 100000 in
theorem tw413 : Cond.code yX0_speak cX0_speak 2 none ∈ TW := tw_mem 413 rfl rfl
set_option maxRecDepth 100000 in
theorem tw414 : Cond.methodLink RX0 273 yX0_composeRequest ∈ TW := tw_mem 414 rfl rfl
set_option maxRecDepth 100000 in
theorem tw416 : Cond.instanceMethod yX0_composeRequest ∈ TW := tw_mem 416 rfl rfl
set_option maxRecDepth 100000 in
theorem tw417 : Cond.code yX0_composeRequest cX0_composeRequest 1 none ∈ TW := tw_mem 417 rfl rfl
set_option maxRecDepth 100000 in
theorem tw418 : Cond.methodLink RX0 80 yX0_nextId ∈ TW := tw_mem 418 rfl rfl
set_option maxRecDepth 100000 in
theorem tw419 : Cond.instanceMethod yX0_nextId ∈ TW := tw_mem 419 rfl rfl
set_option maxRecDepth 100000 in
theorem tw420 : Cond.selects RX0 yX0_nextId yX0_nextId ∈ TW := tw_mem 420 rfl rfl
set_option maxRecDepth 100000 in
theorem tw421 : Cond.code yX0_nextId cX0_nextId 1 (some .int) ∈ TW := tw_mem 421 rfl rfl
set_option maxRecDepth 100000 in
theorem tw422 : Cond.methodLink RX0 84 yX3_start ∈ TW := tw_mem 422 rfl rfl
set_option maxRecDepth 100000 in
theorem tw423 : Cond.instanceMethod yX3_start ∈ TW := tw_mem 423 rfl rfl
set_option maxRecDepth 100000 in
theorem tw424 : Cond.selects RX3 yX3_start yX3_start ∈ TW := tw_mem 424 rfl rfl
set_option maxRecDepth 100000 in
theorem tw425 : Cond.code yX3_start cX3_start 3 none ∈ TW := tw_mem 425 rfl rfl
set_option maxRecDepth 100000 in
theorem tw426 : Cond.methodLink RX0 247 yX3_addSizeOption ∈ TW := tw_mem 426 rfl rfl
set_option maxRecDepth 100000 in
theorem tw427 : Cond.instanceMethod yX3_addSizeOption ∈ TW := tw_mem 427 rfl rfl
set_option maxRecDepth 100000 in
theorem tw428 : Cond.selects RX3 yX3_addSizeOption yX3_addSizeOption ∈ TW := tw_mem 428 rfl rfl
set_option maxRecDepth 100000 in
theorem tw429 : Cond.code yX3_addSizeOption cX3_addSizeOption 2 none ∈ TW := tw_mem 429 rfl rfl
set_option maxRecDepth 100000 in
theorem tw430 : Cond.methodLink RX0 73 yX3_add ∈ TW := tw_mem 430 rfl rfl
set_option maxRecDepth 100000 in
theorem tw431 : Cond.methodLink RX0 91 yX3_addNumber ∈ TW := tw_mem 431 rfl rfl
set_option maxRecDepth 100000 in
theorem tw432 : Cond.instanceMethod yX3_addNumber ∈ TW := tw_mem 432 rfl rfl
set_option maxRecDepth 100000 in
theorem tw433 : Cond.selects RX3 yX3_addNumber yX3_addNumber ∈ TW := tw_mem 433 rfl rfl
set_option maxRecDepth 100000 in
theorem tw434 : Cond.code yX3_addNumber cX3_addNumber 2 none ∈ TW := tw_mem 434 rfl rfl
set_option maxRecDepth 100000 in
theorem tw435 : Cond.methodLink RX0 76 yX0_transmit ∈ TW := tw_mem 435 rfl rfl
set_option maxRecDepth 100000 in
theorem tw437 : Cond.instanceMethod yX0_transmit ∈ TW := tw_mem 437 rfl rfl
set_option maxRecDepth 100000 in
theorem tw438 : Cond.code yX0_transmit cX0_transmit 2 none ∈ TW := tw_mem 438 rfl rfl
set_option maxRecDepth 100000 in
theorem tw439 : Cond.methodLink RX0 94 yX3_seal ∈ TW := tw_mem 439 rfl rfl
set_option maxRecDepth 100000 in
theorem tw440 : Cond.instanceMethod yX3_seal ∈ TW := tw_mem 440 rfl rfl
set_option maxRecDepth 100000 in
theorem tw441 : Cond.selects RX3 yX3_seal yX3_seal ∈ TW := tw_mem 441 rfl rfl
set_option maxRecDepth 100000 in
theorem tw442 : Cond.code yX3_seal cX3_seal 2 none ∈ TW := tw_mem 442 rfl rfl
set_option maxRecDepth 100000 in
theorem tw443 : Cond.methodLink RX3 27 yX3_checkOf ∈ TW := tw_mem 443 rfl rfl
set_option maxRecDepth 100000 in
theorem tw445 : Cond.instanceMethod yX3_checkOf ∈ TW := tw_mem 445 rfl rfl
set_option maxRecDepth 100000 in
theorem tw446 : Cond.code yX3_checkOf cX3_checkOf 5 (some .int) ∈ TW := tw_mem 446 rfl rfl
set_option maxRecDepth 100000 in
theorem tw447 : Cond.constant RX3 34 65535 ∈ TW := tw_mem 447 rfl rfl
set_option maxRecDepth 100000 in
theorem tw448 : Cond.constant RX3 35 33800 ∈ TW := tw_mem 448 rfl rfl
set_option maxRecDepth 100000 in
theorem tw449 : Cond.methodLink RX0 97 yX3_frameLength ∈ TW := tw_mem 449 rfl rfl
set_option maxRecDepth 100000 in
theorem tw450 : Cond.instanceMethod yX3_frameLength ∈ TW := tw_mem 450 rfl rfl
set_option maxRecDepth 100000 in
theorem tw451 : Cond.selects RX3 yX3_frameLength yX3_frameLength ∈ TW := tw_mem 451 rfl rfl
set_option maxRecDepth 100000 in
theorem tw452 : Cond.code yX3_frameLength cX3_frameLength 3 (some .int) ∈ TW := tw_mem 452 rfl rfl
set_option maxRecDepth 100000 in
theorem tw453 : Cond.methodLink RX3 36 yX3_needsEscape ∈ TW := tw_mem 453 rfl rfl
set_option maxRecDepth 100000 in
theorem tw454 : Cond.static yX3_needsEscape ∈ TW := tw_mem 454 rfl rfl
set_option maxRecDepth 100000 in
theorem tw455 : Cond.code yX3_needsEscape cX3_needsEscape 1 (some .boolean) ∈ TW := tw_mem 455 rfl rfl
set_option maxRecDepth 100000 in
theorem tw456 : Cond.methodLink RX0 103 yX2_carry ∈ TW := tw_mem 456 rfl rfl
set_option maxRecDepth 100000 in
theorem tw457 : Cond.instanceMethod yX2_carry ∈ TW := tw_mem 457 rfl rfl
set_option maxRecDepth 100000 in
theorem tw458 : Cond.selects RX2 yX2_carry yX2_carry ∈ TW := tw_mem 458 rfl rfl
set_option maxRecDepth 100000 in
theorem tw459 : Cond.code yX2_carry cX2_carry 4 none ∈ TW := tw_mem 459 rfl rfl
set_option maxRecDepth 100000 in
theorem tw460 : Cond.methodLink RX2 26 yX2_append ∈ TW := tw_mem 460 rfl rfl
set_option maxRecDepth 100000 in
theorem tw461 : Cond.instanceMethod yX2_append ∈ TW := tw_mem 461 rfl rfl
set_option maxRecDepth 100000 in
theorem tw462 : Cond.selects RX2 yX2_append yX2_append ∈ TW := tw_mem 462 rfl rfl
set_option maxRecDepth 100000 in
theorem tw463 : Cond.code yX2_append cX2_append 2 none ∈ TW := tw_mem 463 rfl rfl
set_option maxRecDepth 100000 in
theorem tw464 : Cond.methodLink RX2 33 yX3_needsEscape ∈ TW := tw_mem 464 rfl rfl
set_option maxRecDepth 100000 in
theorem tw465 : Cond.methodLink RX0 276 yX0_spendTry ∈ TW := tw_mem 465 rfl rfl
set_option maxRecDepth 100000 in
theorem tw467 : Cond.instanceMethod yX0_spendTry ∈ TW := tw_mem 467 rfl rfl
set_option maxRecDepth 100000 in
theorem tw468 : Cond.code yX0_spendTry cX0_spendTry 1 none ∈ TW := tw_mem 468 rfl rfl
set_option maxRecDepth 100000 in
theorem tw469 : Cond.methodLink RX0 155 yX3_id ∈ TW := tw_mem 469 rfl rfl
set_option maxRecDepth 100000 in
theorem tw470 : Cond.instanceMethod yX3_id ∈ TW := tw_mem 470 rfl rfl
set_option maxRecDepth 100000 in
theorem tw471 : Cond.selects RX3 yX3_id yX3_id ∈ TW := tw_mem 471 rfl rfl
set_option maxRecDepth 100000 in
theorem tw472 : Cond.code yX3_id cX3_id 1 (some .int) ∈ TW := tw_mem 472 rfl rfl
set_option maxRecDepth 100000 in
theorem tw473 : Cond.methodLink RX3 23 yX3_at ∈ TW := tw_mem 473 rfl rfl
set_option maxRecDepth 100000 in
theorem tw474 : Cond.instanceMethod yX3_at ∈ TW := tw_mem 474 rfl rfl
set_option maxRecDepth 100000 in
theorem tw475 : Cond.selects RX3 yX3_at yX3_at ∈ TW := tw_mem 475 rfl rfl
set_option maxRecDepth 100000 in
theorem tw476 : Cond.code yX3_at cX3_at 2 (some .int) ∈ TW := tw_mem 476 rfl rfl
set_option maxRecDepth 100000 in
theorem tw477 : Cond.methodLink RX0 148 yX3_code ∈ TW := tw_mem 477 rfl rfl
set_option maxRecDepth 100000 in
theorem tw478 : Cond.instanceMethod yX3_code ∈ TW := tw_mem 478 rfl rfl
set_option maxRecDepth 100000 in
theorem tw479 : Cond.selects RX3 yX3_code yX3_code ∈ TW := tw_mem 479 rfl rfl
set_option maxRecDepth 100000 in
theorem tw480 : Cond.code yX3_code cX3_code 1 (some .int) ∈ TW := tw_mem 480 rfl rfl
set_option maxRecDepth 100000 in
theorem tw481 : Cond.fieldLink RX5 68 "LineTalk$Event" "DOWN" "LLineTalk$Event;" ∈ TW := tw_mem 481 rfl rfl
set_option maxRecDepth 100000 in
theorem tw483 : Cond.fieldLink RX5 71 "LineTalk$Event" "OPEN" "LLineTalk$Event;" ∈ TW := tw_mem 483 rfl rfl
set_option maxRecDepth 100000 in
theorem tw485 : Cond.fieldLink RX5 74 "LineTalk$Event" "CLOSE" "LLineTalk$Event;" ∈ TW := tw_mem 485 rfl rfl
set_option maxRecDepth 100000 in
theorem tw487 : Cond.methodLink RL 80 yL_pass ∈ TW := tw_mem 487 rfl rfl
set_option maxRecDepth 100000 in
theorem tw488 : Cond.static yL_pass ∈ TW := tw_mem 488 rfl rfl
set_option maxRecDepth 100000 in
theorem tw490 : Cond.methodLink RL 23 yX5_pass ∈ TW := tw_mem 490 rfl rfl
set_option maxRecDepth 100000 in
theorem tw491 : Cond.instanceMethod yX5_pass ∈ TW := tw_mem 491 rfl rfl
set_option maxRecDepth 100000 in
theorem tw492 : Cond.selects RX5 yX5_pass yX5_pass ∈ TW := tw_mem 492 rfl rfl
set_option maxRecDepth 100000 in
theorem tw493 : Cond.code yX5_pass cX5_pass 8 (some .int) ∈ TW := tw_mem 493 rfl rfl
set_option maxRecDepth 100000 in
theorem tw494 : Cond.methodLink RX5 77 yX5_lineAt ∈ TW := tw_mem 494 rfl rfl
set_option maxRecDepth 100000 in
theorem tw496 : Cond.instanceMethod yX5_lineAt ∈ TW := tw_mem 496 rfl rfl
set_option maxRecDepth 100000 in
theorem tw497 : Cond.code yX5_lineAt cX5_lineAt 2 (some (.object "LineTalk$Line")) ∈ TW := tw_mem 497 rfl rfl
set_option maxRecDepth 100000 in
theorem tw498 : Cond.methodLink RX5 88 yX2_takeFirst ∈ TW := tw_mem 498 rfl rfl
set_option maxRecDepth 100000 in
theorem tw499 : Cond.instanceMethod yX2_takeFirst ∈ TW := tw_mem 499 rfl rfl
set_option maxRecDepth 100000 in
theorem tw500 : Cond.selects RX2 yX2_takeFirst yX2_takeFirst ∈ TW := tw_mem 500 rfl rfl
set_option maxRecDepth 100000 in
theorem tw501 : Cond.code yX2_takeFirst cX2_takeFirst 2 (some .int) ∈ TW := tw_mem 501 rfl rfl
set_option maxRecDepth 100000 in
theorem tw502 : Cond.methodLink RX2 22 yX2_drop ∈ TW := tw_mem 502 rfl rfl
set_option maxRecDepth 100000 in
theorem tw503 : Cond.instanceMethod yX2_drop ∈ TW := tw_mem 503 rfl rfl
set_option maxRecDepth 100000 in
theorem tw504 : Cond.selects RX2 yX2_drop yX2_drop ∈ TW := tw_mem 504 rfl rfl
set_option maxRecDepth 100000 in
theorem tw505 : Cond.code yX2_drop cX2_drop 2 none ∈ TW := tw_mem 505 rfl rfl
set_option maxRecDepth 100000 in
theorem tw506 : Cond.methodLink RX5 96 yX4_gather ∈ TW := tw_mem 506 rfl rfl
set_option maxRecDepth 100000 in
theorem tw507 : Cond.instanceMethod yX4_gather ∈ TW := tw_mem 507 rfl rfl
set_option maxRecDepth 100000 in
theorem tw508 : Cond.selects RX4 yX4_gather yX4_gather ∈ TW := tw_mem 508 rfl rfl
set_option maxRecDepth 100000 in
theorem tw509 : Cond.code yX4_gather cX4_gather 2 none ∈ TW := tw_mem 509 rfl rfl
set_option maxRecDepth 100000 in
theorem tw510 : Cond.methodLink RX4 31 yX3_add ∈ TW := tw_mem 510 rfl rfl
set_option maxRecDepth 100000 in
theorem tw511 : Cond.methodLink RX5 102 yX0_frameCame ∈ TW := tw_mem 511 rfl rfl
set_option maxRecDepth 100000 in
theorem tw512 : Cond.instanceMethod yX0_frameCame ∈ TW := tw_mem 512 rfl rfl
set_option maxRecDepth 100000 in
theorem tw513 : Cond.selects RX0 yX0_frameCame yX0_frameCame ∈ TW := tw_mem 513 rfl rfl
set_option maxRecDepth 100000 in
theorem tw514 : Cond.code yX0_frameCame cX0_frameCame 2 (some .boolean) ∈ TW := tw_mem 514 rfl rfl
set_option maxRecDepth 100000 in
theorem tw515 : Cond.methodLink RX0 125 yX4_isEmpty ∈ TW := tw_mem 515 rfl rfl
set_option maxRecDepth 100000 in
theorem tw516 : Cond.instanceMethod yX4_isEmpty ∈ TW := tw_mem 516 rfl rfl
set_option maxRecDepth 100000 in
theorem tw517 : Cond.selects RX4 yX4_isEmpty yX4_isEmpty ∈ TW := tw_mem 517 rfl rfl
set_option maxRecDepth 100000 in
theorem tw518 : Cond.code yX4_isEmpty cX4_isEmpty 1 (some .boolean) ∈ TW := tw_mem 518 rfl rfl
set_option maxRecDepth 100000 in
theorem tw519 : Cond.methodLink RX0 129 yX4_holdsPacket ∈ TW := tw_mem 519 rfl rfl
set_option maxRecDepth 100000 in
theorem tw520 : Cond.instanceMethod yX4_holdsPacket ∈ TW := tw_mem 520 rfl rfl
set_option maxRecDepth 100000 in
theorem tw521 : Cond.selects RX4 yX4_holdsPacket yX4_holdsPacket ∈ TW := tw_mem 521 rfl rfl
set_option maxRecDepth 100000 in
theorem tw522 : Cond.code yX4_holdsPacket cX4_holdsPacket 1 (some .boolean) ∈ TW := tw_mem 522 rfl rfl
set_option maxRecDepth 100000 in
theorem tw523 : Cond.methodLink RX4 34 yX3_isSealed ∈ TW := tw_mem 523 rfl rfl
set_option maxRecDepth 100000 in
theorem tw524 : Cond.instanceMethod yX3_isSealed ∈ TW := tw_mem 524 rfl rfl
set_option maxRecDepth 100000 in
theorem tw525 : Cond.selects RX3 yX3_isSealed yX3_isSealed ∈ TW := tw_mem 525 rfl rfl
set_option maxRecDepth 100000 in
theorem tw526 : Cond.code yX3_isSealed cX3_isSealed 1 (some .boolean) ∈ TW := tw_mem 526 rfl rfl
set_option maxRecDepth 100000 in
theorem tw527 : Cond.methodLink RX3 30 yX3_end ∈ TW := tw_mem 527 rfl rfl
set_option maxRecDepth 100000 in
theorem tw528 : Cond.instanceMethod yX3_end ∈ TW := tw_mem 528 rfl rfl
set_option maxRecDepth 100000 in
theorem tw529 : Cond.selects RX3 yX3_end yX3_end ∈ TW := tw_mem 529 rfl rfl
set_option maxRecDepth 100000 in
theorem tw530 : Cond.code yX3_end cX3_end 1 (some .int) ∈ TW := tw_mem 530 rfl rfl
set_option maxRecDepth 100000 in
theorem tw531 : Cond.methodLink RX0 132 yX3_isWellFormed ∈ TW := tw_mem 531 rfl rfl
set_option maxRecDepth 100000 in
theorem tw532 : Cond.instanceMethod yX3_isWellFormed ∈ TW := tw_mem 532 rfl rfl
set_option maxRecDepth 100000 in
theorem tw533 : Cond.selects RX3 yX3_isWellFormed yX3_isWellFormed ∈ TW := tw_mem 533 rfl rfl
set_option maxRecDepth 100000 in
theorem tw534 : Cond.code yX3_isWellFormed cX3_isWellFormed 2 (some .boolean) ∈ TW := tw_mem 534 rfl rfl
set_option maxRecDepth 100000 in
theorem tw535 : Cond.methodLink RX3 40 yX3_hasWholeOptions ∈ TW := tw_mem 535 rfl rfl
set_option maxRecDepth 100000 in
theorem tw537 : Cond.instanceMethod yX3_hasWholeOptions ∈ TW := tw_mem 537 rfl rfl
set_option maxRecDepth 100000 in
theorem tw538 : Cond.code yX3_hasWholeOptions cX3_hasWholeOptions 2 (some .boolean) ∈ TW := tw_mem 538 rfl rfl
set_option maxRecDepth 100000 in
theorem tw539 : Cond.methodLink RX3 44 yX3_hasTypeAhead ∈ TW := tw_mem 539 rfl rfl
set_option maxRecDepth 100000 in
theorem tw541 : Cond.instanceMethod yX3_hasTypeAhead ∈ TW := tw_mem 541 rfl rfl
set_option maxRecDepth 100000 in
theorem tw542 : Cond.code yX3_hasTypeAhead cX3_hasTypeAhead 3 (some .boolean) ∈ TW := tw_mem 542 rfl rfl
set_option maxRecDepth 100000 in
theorem tw543 : Cond.methodLink RX3 47 yX3_optionLength ∈ TW := tw_mem 543 rfl rfl
set_option maxRecDepth 100000 in
theorem tw544 : Cond.static yX3_optionLength ∈ TW := tw_mem 544 rfl rfl
set_option maxRecDepth 100000 in
theorem tw545 : Cond.code yX3_optionLength cX3_optionLength 1 (some .int) ∈ TW := tw_mem 545 rfl rfl
set_option maxRecDepth 100000 in
theorem tw546 : Cond.methodLink RX0 135 yX0_isRight ∈ TW := tw_mem 546 rfl rfl
set_option maxRecDepth 100000 in
theorem tw548 : Cond.instanceMethod yX0_isRight ∈ TW := tw_mem 548 rfl rfl
set_option maxRecDepth 100000 in
theorem tw549 : Cond.code yX0_isRight cX0_isRight 1 (some .boolean) ∈ TW := tw_mem 549 rfl rfl
set_option maxRecDepth 100000 in
theorem tw550 : Cond.methodLink RX0 151 yX3_hasIdAndContentsOf ∈ TW := tw_mem 550 rfl rfl
set_option maxRecDepth 100000 in
theorem tw551 : Cond.instanceMethod yX3_hasIdAndContentsOf ∈ TW := tw_mem 551 rfl rfl
set_option maxRecDepth 100000 in
theorem tw552 : Cond.selects RX3 yX3_hasIdAndContentsOf yX3_hasIdAndContentsOf ∈ TW := tw_mem 552 rfl rfl
set_option maxRecDepth 100000 in
theorem tw553 : Cond.code yX3_hasIdAndContentsOf cX3_hasIdAndContentsOf 3 (some .boolean) ∈ TW := tw_mem 553 rfl rfl
set_option maxRecDepth 100000 in
theorem tw554 : Cond.methodLink RX0 138 yX0_learn ∈ TW := tw_mem 554 rfl rfl
set_option maxRecDepth 100000 in
theorem tw556 : Cond.instanceMethod yX0_learn ∈ TW := tw_mem 556 rfl rfl
set_option maxRecDepth 100000 in
theorem tw557 : Cond.code yX0_learn cX0_learn 3 none ∈ TW := tw_mem 557 rfl rfl
set_option maxRecDepth 100000 in
theorem tw558 : Cond.methodLink RX0 158 yX3_numberAt ∈ TW := tw_mem 558 rfl rfl
set_option maxRecDepth 100000 in
theorem tw559 : Cond.instanceMethod yX3_numberAt ∈ TW := tw_mem 559 rfl rfl
set_option maxRecDepth 100000 in
theorem tw560 : Cond.selects RX3 yX3_numberAt yX3_numberAt ∈ TW := tw_mem 560 rfl rfl
set_option maxRecDepth 100000 in
theorem tw561 : Cond.code yX3_numberAt cX3_numberAt 2 (some .int) ∈ TW := tw_mem 561 rfl rfl
set_option maxRecDepth 100000 in
theorem tw562 : Cond.methodLink RX0 162 yX0_suspect ∈ TW := tw_mem 562 rfl rfl
set_option maxRecDepth 100000 in
theorem tw564 : Cond.instanceMethod yX0_suspect ∈ TW := tw_mem 564 rfl rfl
set_option maxRecDepth 100000 in
theorem tw565 : Cond.code yX0_suspect cX0_suspect 2 none ∈ TW := tw_mem 565 rfl rfl
set_option maxRecDepth 100000 in
theorem tw566 : Cond.methodLink RX0 165 yX3_end ∈ TW := tw_mem 566 rfl rfl
set_option maxRecDepth 100000 in
theorem tw567 : Cond.methodLink RX0 168 yX0_learnOption ∈ TW := tw_mem 567 rfl rfl
set_option maxRecDepth 100000 in
theorem tw569 : Cond.instanceMethod yX0_learnOption ∈ TW := tw_mem 569 rfl rfl
set_option maxRecDepth 100000 in
theorem tw570 : Cond.code yX0_learnOption cX0_learnOption 4 none ∈ TW := tw_mem 570 rfl rfl
set_option maxRecDepth 100000 in
theorem tw571 : Cond.methodLink RX0 171 yX3_at ∈ TW := tw_mem 571 rfl rfl
set_option maxRecDepth 100000 in
theorem tw572 : Cond.methodLink RX0 177 yX3_pairAt ∈ TW := tw_mem 572 rfl rfl
set_option maxRecDepth 100000 in
theorem tw573 : Cond.instanceMethod yX3_pairAt ∈ TW := tw_mem 573 rfl rfl
set_option maxRecDepth 100000 in
theorem tw574 : Cond.selects RX3 yX3_pairAt yX3_pairAt ∈ TW := tw_mem 574 rfl rfl
set_option maxRecDepth 100000 in
theorem tw575 : Cond.code yX3_pairAt cX3_pairAt 2 (some .int) ∈ TW := tw_mem 575 rfl rfl
set_option maxRecDepth 100000 in
theorem tw576 : Cond.methodLink RX0 180 yX0_learnSize ∈ TW := tw_mem 576 rfl rfl
set_option maxRecDepth 100000 in
theorem tw578 : Cond.instanceMethod yX0_learnSize ∈ TW := tw_mem 578 rfl rfl
set_option maxRecDepth 100000 in
theorem tw579 : Cond.code yX0_learnSize cX0_learnSize 3 none ∈ TW := tw_mem 579 rfl rfl
set_option maxRecDepth 100000 in
theorem tw580 : Cond.methodLinkNest RX0 186 yX5_isSize RX5 ∈ TW := tw_mem 580 rfl rfl
set_option maxRecDepth 100000 in
theorem tw581 : Cond.methodLink RX0 183 yX0_learnNumber ∈ TW := tw_mem 581 rfl rfl
set_option maxRecDepth 100000 in
theorem tw583 : Cond.instanceMethod yX0_learnNumber ∈ TW := tw_mem 583 rfl rfl
set_option maxRecDepth 100000 in
theorem tw584 : Cond.code yX0_learnNumber cX0_learnNumber 3 none ∈ TW := tw_mem 584 rfl rfl
set_option maxRecDepth 100000 in
theorem tw585 : Cond.methodLink RX0 174 yX3_optionLength ∈ TW := tw_mem 585 rfl rfl
set_option maxRecDepth 100000 in
theorem tw586 : Cond.methodLink RX0 141 yX0_eventOfPacket ∈ TW := tw_mem 586 rfl rfl
set_option maxRecDepth 100000 in
theorem tw588 : Cond.instanceMethod yX0_eventOfPacket ∈ TW := tw_mem 588 rfl rfl
set_option maxRecDepth 100000 in
theorem tw589 : Cond.code yX0_eventOfPacket cX0_eventOfPacket 1 (some (.object "LineTalk$Event")) ∈ TW := tw_mem 589 rfl rfl
set_option maxRecDepth 100000 in
theorem tw590 : Cond.fieldLink RX0 190 "LineTalk$Event" "DATA_CAME" "LLineTalk$Event;" ∈ TW := tw_mem 590 rfl rfl
set_option maxRecDepth 100000 in
theorem tw592 : Cond.methodLink RX0 193 yX0_composeAnswer ∈ TW := tw_mem 592 rfl rfl
set_option maxRecDepth 100000 in
theorem tw594 : Cond.instanceMethod yX0_composeAnswer ∈ TW := tw_mem 594 rfl rfl
set_option maxRecDepth 100000 in
theorem tw595 : Cond.code yX0_composeAnswer cX0_composeAnswer 3 none ∈ TW := tw_mem 595 rfl rfl
set_option maxRecDepth 100000 in
theorem tw596 : Cond.methodLink RX0 232 yX0_answerCode ∈ TW := tw_mem 596 rfl rfl
set_option maxRecDepth 100000 in
theorem tw598 : Cond.instanceMethod yX0_answerCode ∈ TW := tw_mem 598 rfl rfl
set_option maxRecDepth 100000 in
theorem tw599 : Cond.code yX0_answerCode cX0_answerCode 3 (some .int) ∈ TW := tw_mem 599 rfl rfl
set_option maxRecDepth 100000 in
theorem tw600 : Cond.methodLink RX0 235 yX0_optionAnswer ∈ TW := tw_mem 600 rfl rfl
set_option maxRecDepth 100000 in
theorem tw602 : Cond.instanceMethod yX0_optionAnswer ∈ TW := tw_mem 602 rfl rfl
set_option maxRecDepth 100000 in
theorem tw603 : Cond.code yX0_optionAnswer cX0_optionAnswer 4 (some .int) ∈ TW := tw_mem 603 rfl rfl
set_option maxRecDepth 100000 in
theorem tw604 : Cond.methodLink RX0 241 yJ9_max_7cf53 ∈ TW := tw_mem 604 rfl rfl
set_option maxRecDepth 100000 in
theorem tw605 : Cond.static yJ9_max_7cf53 ∈ TW := tw_mem 605 rfl rfl
set_option maxRecDepth 100000 in
theorem tw606 : Cond.code yJ9_max_7cf53 cJ9_max_7cf53 2 (some .int) ∈ TW := tw_mem 606 rfl rfl
set_option maxRecDepth 100000 in
theorem tw607 : Cond.methodLink RX0 238 yX0_answerOption ∈ TW := tw_mem 607 rfl rfl
set_option maxRecDepth 100000 in
theorem tw609 : Cond.instanceMethod yX0_answerOption ∈ TW := tw_mem 609 rfl rfl
set_option maxRecDepth 100000 in
theorem tw610 : Cond.code yX0_answerOption cX0_answerOption 5 none ∈ TW := tw_mem 610 rfl rfl
set_option maxRecDepth 100000 in
theorem tw611 : Cond.constant RX0 250 1103515245 ∈ TW := tw_mem 611 rfl rfl
set_option maxRecDepth 100000 in
theorem tw612 : Cond.fieldLink RX0 196 "LineTalk$Event" "GOOD_REQUEST" "LLineTalk$Event;" ∈ TW := tw_mem 612 rfl rfl
set_option maxRecDepth 100000 in
theorem tw614 : Cond.fieldLink RX0 199 "LineTalk$Event" "BAD_REQUEST" "LLineTalk$Event;" ∈ TW := tw_mem 614 rfl rfl
set_option maxRecDepth 100000 in
theorem tw616 : Cond.fieldLink RX0 202 "LineTalk$Event" "RIGHT_ACK" "LLineTalk$Event;" ∈ TW := tw_mem 616 rfl rfl
set_option maxRecDepth 100000 in
theorem tw618 : Cond.fieldLink RX0 205 "LineTalk$Event" "RIGHT_NAK_OR_REJECT" "LLineTalk$Event;" ∈ TW := tw_mem 618 rfl rfl
set_option maxRecDepth 100000 in
theorem tw620 : Cond.fieldLink RX0 208 "LineTalk$Event" "END_CAME" "LLineTalk$Event;" ∈ TW := tw_mem 620 rfl rfl
set_option maxRecDepth 100000 in
theorem tw622 : Cond.fieldLink RX0 211 "LineTalk$Event" "ENDED_CAME" "LLineTalk$Event;" ∈ TW := tw_mem 622 rfl rfl
set_option maxRecDepth 100000 in
theorem tw624 : Cond.methodLink RX0 214 yX0_refusesNegotiation ∈ TW := tw_mem 624 rfl rfl
set_option maxRecDepth 100000 in
theorem tw626 : Cond.instanceMethod yX0_refusesNegotiation ∈ TW := tw_mem 626 rfl rfl
set_option maxRecDepth 100000 in
theorem tw627 : Cond.code yX0_refusesNegotiation cX0_refusesNegotiation 2 (some .boolean) ∈ TW := tw_mem 627 rfl rfl
set_option maxRecDepth 100000 in
theorem tw628 : Cond.fieldLink RX0 217 "LineTalk$Event" "UNKNOWN_1_TO_6" "LLineTalk$Event;" ∈ TW := tw_mem 628 rfl rfl
set_option maxRecDepth 100000 in
theorem tw630 : Cond.fieldLink RX0 220 "LineTalk$Event" "UNKNOWN_CAME" "LLineTalk$Event;" ∈ TW := tw_mem 630 rfl rfl
set_option maxRecDepth 100000 in
theorem tw632 : Cond.fieldLink RX0 223 "LineTalk$Event" "ECHO_CAME" "LLineTalk$Event;" ∈ TW := tw_mem 632 rfl rfl
set_option maxRecDepth 100000 in
theorem tw634 : Cond.fieldLink RX0 226 "LineTalk$Event" "REPLY_CAME" "LLineTalk$Event;" ∈ TW := tw_mem 634 rfl rfl
set_option maxRecDepth 100000 in
theorem tw636 : Cond.fieldLink RX0 229 "LineTalk$Event" "OTHER_CODE" "LLineTalk$Event;" ∈ TW := tw_mem 636 rfl rfl
set_option maxRecDepth 100000 in
theorem tw638 : Cond.methodLink RX0 121 yX0_happen ∈ TW := tw_mem 638 rfl rfl
set_option maxRecDepth 100000 in
theorem tw639 : Cond.methodLink RX0 145 yX4_clear ∈ TW := tw_mem 639 rfl rfl
set_option maxRecDepth 100000 in
theorem tw640 : Cond.instanceMethod yX4_clear ∈ TW := tw_mem 640 rfl rfl
set_option maxRecDepth 100000 in
theorem tw641 : Cond.selects RX4 yX4_clear yX4_clear ∈ TW := tw_mem 641 rfl rfl
set_option maxRecDepth 100000 in
theorem tw642 : Cond.code yX4_clear cX4_clear 1 none ∈ TW := tw_mem 642 rfl rfl
set_option maxRecDepth 100000 in
theorem tw643 : Cond.methodLink RL 83 yL_tick ∈ TW := tw_mem 643 rfl rfl
set_option maxRecDepth 100000 in
theorem tw644 : Cond.static yL_tick ∈ TW := tw_mem 644 rfl rfl
set_option maxRecDepth 100000 in
theorem tw646 : Cond.methodLink RL 26 yX5_tick ∈ TW := tw_mem 646 rfl rfl
set_option maxRecDepth 100000 in
theorem tw647 : Cond.instanceMethod yX5_tick ∈ TW := tw_mem 647 rfl rfl
set_option maxRecDepth 100000 in
theorem tw648 : Cond.selects RX5 yX5_tick yX5_tick ∈ TW := tw_mem 648 rfl rfl
set_option maxRecDepth 100000 in
theorem tw649 : Cond.code yX5_tick cX5_tick 4 (some .int) ∈ TW := tw_mem 649 rfl rfl
set_option maxRecDepth 100000 in
theorem tw650 : Cond.methodLink RX5 106 yX0_timerIsOver ∈ TW := tw_mem 650 rfl rfl
set_option maxRecDepth 100000 in
theorem tw651 : Cond.instanceMethod yX0_timerIsOver ∈ TW := tw_mem 651 rfl rfl
set_option maxRecDepth 100000 in
theorem tw652 : Cond.selects RX0 yX0_timerIsOver yX0_timerIsOver ∈ TW := tw_mem 652 rfl rfl
set_option maxRecDepth 100000 in
theorem tw653 : Cond.code yX0_timerIsOver cX0_timerIsOver 1 (some .boolean) ∈ TW := tw_mem 653 rfl rfl
set_option maxRecDepth 100000 in
theorem tw654 : Cond.fieldLink RX0 112 "LineTalk$Event" "OVER_MORE" "LLineTalk$Event;" ∈ TW := tw_mem 654 rfl rfl
set_option maxRecDepth 100000 in
theorem tw656 : Cond.fieldLink RX0 118 "LineTalk$Event" "OVER_NONE" "LLineTalk$Event;" ∈ TW := tw_mem 656 rfl rfl
set_option maxRecDepth 100000 in
theorem tw658 : Cond.methodLink RL 87 yL_put ∈ TW := tw_mem 658 rfl rfl
set_option maxRecDepth 100000 in
theorem tw659 : Cond.static yL_put ∈ TW := tw_mem 659 rfl rfl
set_option maxRecDepth 100000 in
theorem tw661 : Cond.methodLink RL 30 yX5_put ∈ TW := tw_mem 661 rfl rfl
set_option maxRecDepth 100000 in
theorem tw662 : Cond.instanceMethod yX5_put ∈ TW := tw_mem 662 rfl rfl
set_option maxRecDepth 100000 in
theorem tw663 : Cond.selects RX5 yX5_put yX5_put ∈ TW := tw_mem 663 rfl rfl
set_option maxRecDepth 100000 in
theorem tw664 : Cond.code yX5_put cX5_put 4 (some .int) ∈ TW := tw_mem 664 rfl rfl
set_option maxRecDepth 100000 in
theorem tw665 : Cond.methodLink RX5 109 yX5_isByte ∈ TW := tw_mem 665 rfl rfl
set_option maxRecDepth 100000 in
theorem tw666 : Cond.static yX5_isByte ∈ TW := tw_mem 666 rfl rfl
set_option maxRecDepth 100000 in
theorem tw667 : Cond.code yX5_isByte cX5_isByte 1 (some .boolean) ∈ TW := tw_mem 667 rfl rfl
set_option maxRecDepth 100000 in
theorem tw668 : Cond.methodLink RX5 112 yX2_append ∈ TW := tw_mem 668 rfl rfl
set_option maxRecDepth 100000 in
theorem tw669 : Cond.methodLink RL 90 yL_damage ∈ TW := tw_mem 669 rfl rfl
set_option maxRecDepth 100000 in
theorem tw670 : Cond.static yL_damage ∈ TW := tw_mem 670 rfl rfl
set_option maxRecDepth 100000 in
theorem tw672 : Cond.methodLink RL 33 yX5_damage ∈ TW := tw_mem 672 rfl rfl
set_option maxRecDepth 100000 in
theorem tw673 : Cond.instanceMethod yX5_damage ∈ TW := tw_mem 673 rfl rfl
set_option maxRecDepth 100000 in
theorem tw674 : Cond.selects RX5 yX5_damage yX5_damage ∈ TW := tw_mem 674 rfl rfl
set_option maxRecDepth 100000 in
theorem tw675 : Cond.code yX5_damage cX5_damage 5 (some .int) ∈ TW := tw_mem 675 rfl rfl
set_option maxRecDepth 100000 in
theorem tw676 : Cond.methodLink RX5 115 yX2_has ∈ TW := tw_mem 676 rfl rfl
set_option maxRecDepth 100000 in
theorem tw677 : Cond.instanceMethod yX2_has ∈ TW := tw_mem 677 rfl rfl
set_option maxRecDepth 100000 in
theorem tw678 : Cond.selects RX2 yX2_has yX2_has ∈ TW := tw_mem 678 rfl rfl
set_option maxRecDepth 100000 in
theorem tw679 : Cond.code yX2_has cX2_has 2 (some .boolean) ∈ TW := tw_mem 679 rfl rfl
set_option maxRecDepth 100000 in
theorem tw680 : Cond.methodLink RX5 121 yX2_flip ∈ TW := tw_mem 680 rfl rfl
set_option maxRecDepth 100000 in
theorem tw681 : Cond.instanceMethod yX2_flip ∈ TW := tw_mem 681 rfl rfl
set_option maxRecDepth 100000 in
theorem tw682 : Cond.selects RX2 yX2_flip yX2_flip ∈ TW := tw_mem 682 rfl rfl
set_option maxRecDepth 100000 in
theorem tw683 : Cond.code yX2_flip cX2_flip 5 (some .int) ∈ TW := tw_mem 683 rfl rfl
set_option maxRecDepth 100000 in
theorem tw684 : Cond.methodLink RL 94 yL_lose ∈ TW := tw_mem 684 rfl rfl
set_option maxRecDepth 100000 in
theorem tw685 : Cond.static yL_lose ∈ TW := tw_mem 685 rfl rfl
set_option maxRecDepth 100000 in
theorem tw687 : Cond.methodLink RL 37 yX5_lose ∈ TW := tw_mem 687 rfl rfl
set_option maxRecDepth 100000 in
theorem tw688 : Cond.instanceMethod yX5_lose ∈ TW := tw_mem 688 rfl rfl
set_option maxRecDepth 100000 in
theorem tw689 : Cond.selects RX5 yX5_lose yX5_lose ∈ TW := tw_mem 689 rfl rfl
set_option maxRecDepth 100000 in
theorem tw690 : Cond.code yX5_lose cX5_lose 5 (some .int) ∈ TW := tw_mem 690 rfl rfl
set_option maxRecDepth 100000 in
theorem tw691 : Cond.methodLink RX5 125 yJ9_min_7cf53 ∈ TW := tw_mem 691 rfl rfl
set_option maxRecDepth 100000 in
theorem tw692 : Cond.static yJ9_min_7cf53 ∈ TW := tw_mem 692 rfl rfl
set_option maxRecDepth 100000 in
theorem tw693 : Cond.code yJ9_min_7cf53 cJ9_min_7cf53 2 (some .int) ∈ TW := tw_mem 693 rfl rfl
set_option maxRecDepth 100000 in
theorem tw694 : Cond.methodLink RX5 130 yX2_drop ∈ TW := tw_mem 694 rfl rfl
set_option maxRecDepth 100000 in
theorem tw695 : Cond.methodLink RL 97 yL_loop ∈ TW := tw_mem 695 rfl rfl
set_option maxRecDepth 100000 in
theorem tw696 : Cond.static yL_loop ∈ TW := tw_mem 696 rfl rfl
set_option maxRecDepth 100000 in
theorem tw698 : Cond.methodLink RL 40 yX5_loop ∈ TW := tw_mem 698 rfl rfl
set_option maxRecDepth 100000 in
theorem tw699 : Cond.instanceMethod yX5_loop ∈ TW := tw_mem 699 rfl rfl
set_option maxRecDepth 100000 in
theorem tw700 : Cond.selects RX5 yX5_loop yX5_loop ∈ TW := tw_mem 700 rfl rfl
set_option maxRecDepth 100000 in
theorem tw701 : Cond.code yX5_loop cX5_loop 5 (some .boolean) ∈ TW := tw_mem 701 rfl rfl
set_option maxRecDepth 100000 in
theorem tw702 : Cond.methodLink RL 101 yL_send ∈ TW := tw_mem 702 rfl rfl
set_option maxRecDepth 100000 in
theorem tw703 : Cond.static yL_send ∈ TW := tw_mem 703 rfl rfl
set_option maxRecDepth 100000 in
theorem tw705 : Cond.methodLink RL 44 yX5_send ∈ TW := tw_mem 705 rfl rfl
set_option maxRecDepth 100000 in
theorem tw706 : Cond.instanceMethod yX5_send ∈ TW := tw_mem 706 rfl rfl
set_option maxRecDepth 100000 in
theorem tw707 : Cond.selects RX5 yX5_send yX5_send ∈ TW := tw_mem 707 rfl rfl
set_option maxRecDepth 100000 in
theorem tw708 : Cond.code yX5_send cX5_send 5 (some .int) ∈ TW := tw_mem 708 rfl rfl
set_option maxRecDepth 100000 in
theorem tw709 : Cond.methodLink RX5 133 yX0_sendData ∈ TW := tw_mem 709 rfl rfl
set_option maxRecDepth 100000 in
theorem tw710 : Cond.instanceMethod yX0_sendData ∈ TW := tw_mem 710 rfl rfl
set_option maxRecDepth 100000 in
theorem tw711 : Cond.selects RX0 yX0_sendData yX0_sendData ∈ TW := tw_mem 711 rfl rfl
set_option maxRecDepth 100000 in
theorem tw712 : Cond.code yX0_sendData cX0_sendData 4 none ∈ TW := tw_mem 712 rfl rfl
set_option maxRecDepth 100000 in
theorem tw713 : Cond.methodLink RL 104 yL_echo ∈ TW := tw_mem 713 rfl rfl
set_option maxRecDepth 100000 in
theorem tw714 : Cond.static yL_echo ∈ TW := tw_mem 714 rfl rfl
set_option maxRecDepth 100000 in
theorem tw716 : Cond.methodLink RL 47 yX5_echo ∈ TW := tw_mem 716 rfl rfl
set_option maxRecDepth 100000 in
theorem tw717 : Cond.instanceMethod yX5_echo ∈ TW := tw_mem 717 rfl rfl
set_option maxRecDepth 100000 in
theorem tw718 : Cond.selects RX5 yX5_echo yX5_echo ∈ TW := tw_mem 718 rfl rfl
set_option maxRecDepth 100000 in
theorem tw719 : Cond.code yX5_echo cX5_echo 3 (some .int) ∈ TW := tw_mem 719 rfl rfl
set_option maxRecDepth 100000 in
theorem tw720 : Cond.methodLink RX5 140 yX0_sendEcho ∈ TW := tw_mem 720 rfl rfl
set_option maxRecDepth 100000 in
theorem tw721 : Cond.instanceMethod yX0_sendEcho ∈ TW := tw_mem 721 rfl rfl
set_option maxRecDepth 100000 in
theorem tw722 : Cond.selects RX0 yX0_sendEcho yX0_sendEcho ∈ TW := tw_mem 722 rfl rfl
set_option maxRecDepth 100000 in
theorem tw723 : Cond.code yX0_sendEcho cX0_sendEcho 1 none ∈ TW := tw_mem 723 rfl rfl
set_option maxRecDepth 100000 in
theorem tw724 : Cond.methodLink RL 107 yL_data ∈ TW := tw_mem 724 rfl rfl
set_option maxRecDepth 100000 in
theorem tw725 : Cond.static yL_data ∈ TW := tw_mem 725 rfl rfl
set_option maxRecDepth 100000 in
theorem tw727 : Cond.methodLink RL 50 yX5_data ∈ TW := tw_mem 727 rfl rfl
set_option maxRecDepth 100000 in
theorem tw728 : Cond.instanceMethod yX5_data ∈ TW := tw_mem 728 rfl rfl
set_option maxRecDepth 100000 in
theorem tw729 : Cond.selects RX5 yX5_data yX5_data ∈ TW := tw_mem 729 rfl rfl
set_option maxRecDepth 100000 in
theorem tw730 : Cond.code yX5_data cX5_data 4 (some .int) ∈ TW := tw_mem 730 rfl rfl
set_option maxRecDepth 100000 in
theorem tw731 : Cond.methodLink RX5 150 yX3_end ∈ TW := tw_mem 731 rfl rfl
set_option maxRecDepth 100000 in
theorem tw732 : Cond.methodLink RX5 155 yX3_at ∈ TW := tw_mem 732 rfl rfl
set_option maxRecDepth 100000 in
theorem tw733 : Cond.methodLink RL 110 yL_look ∈ TW := tw_mem 733 rfl rfl
set_option maxRecDepth 100000 in
theorem tw734 : Cond.static yL_look ∈ TW := tw_mem 734 rfl rfl
set_option maxRecDepth 100000 in
theorem tw736 : Cond.methodLink RL 53 yX5_look ∈ TW := tw_mem 736 rfl rfl
set_option maxRecDepth 100000 in
theorem tw737 : Cond.instanceMethod yX5_look ∈ TW := tw_mem 737 rfl rfl
set_option maxRecDepth 100000 in
theorem tw738 : Cond.selects RX5 yX5_look yX5_look ∈ TW := tw_mem 738 rfl rfl
set_option maxRecDepth 100000 in
theorem tw739 : Cond.code yX5_look cX5_look 4 (some .int) ∈ TW := tw_mem 739 rfl rfl
set_option maxRecDepth 100000 in
theorem tw740 : Cond.methodLink RL 113 yL_about ∈ TW := tw_mem 740 rfl rfl
set_option maxRecDepth 100000 in
theorem tw741 : Cond.static yL_about ∈ TW := tw_mem 741 rfl rfl
set_option maxRecDepth 100000 in
theorem tw743 : Cond.methodLink RL 56 yX5_about ∈ TW := tw_mem 743 rfl rfl
set_option maxRecDepth 100000 in
theorem tw744 : Cond.instanceMethod yX5_about ∈ TW := tw_mem 744 rfl rfl
set_option maxRecDepth 100000 in
theorem tw745 : Cond.selects RX5 yX5_about yX5_about ∈ TW := tw_mem 745 rfl rfl
set_option maxRecDepth 100000 in
theorem tw746 : Cond.code yX5_about cX5_about 4 (some .int) ∈ TW := tw_mem 746 rfl rfl
set_option maxRecDepth 100000 in
theorem tw747 : Cond.methodLink RL 116 yL_count ∈ TW := tw_mem 747 rfl rfl
set_option maxRecDepth 100000 in
theorem tw748 : Cond.static yL_count ∈ TW := tw_mem 748 rfl rfl
set_option maxRecDepth 100000 in
theorem tw750 : Cond.methodLink RL 59 yX5_count ∈ TW := tw_mem 750 rfl rfl
set_option maxRecDepth 100000 in
theorem tw751 : Cond.instanceMethod yX5_count ∈ TW := tw_mem 751 rfl rfl
set_option maxRecDepth 100000 in
theorem tw752 : Cond.selects RX5 yX5_count yX5_count ∈ TW := tw_mem 752 rfl rfl
set_option maxRecDepth 100000 in
theorem tw753 : Cond.code yX5_count cX5_count 4 (some .int) ∈ TW := tw_mem 753 rfl rfl
set_option maxRecDepth 100000 in
theorem tw754 : Cond.classLink RL 63 RX6 ∈ TW := tw_mem 754 rfl rfl
set_option maxRecDepth 100000 in
theorem tw755 : Cond.instantiable RX6 30 ∈ TW := tw_mem 755 rfl rfl
set_option maxRecDepth 100000 in
theorem tw756 : Cond.methodLink RL 65 yX6_init ∈ TW := tw_mem 756 rfl rfl
set_option maxRecDepth 100000 in
theorem tw757 : Cond.instanceMethod yX6_init ∈ TW := tw_mem 757 rfl rfl
set_option maxRecDepth 100000 in
theorem tw758 : Cond.code yX6_init cX6_init 2 none ∈ TW := tw_mem 758 rfl rfl
set_option maxRecDepth 100000 in
theorem tw759 : Cond.methodLink RX6 1 ⟨"java/lang/Object", "<init>", "()V"⟩ ∈ TW := tw_mem 759 rfl rfl
set_option maxRecDepth 100000 in
theorem tw760 : Cond.fieldLink RX6 7 "LineTalkModel" "rules" "[I" ∈ TW := tw_mem 760 rfl rfl
set_option maxRecDepth 100000 in
theorem tw761 : Cond.fieldLink RX6 83 "LineTalkModel" "thrown" "I" ∈ TW := tw_mem 761 rfl rfl
set_option maxRecDepth 100000 in
theorem tw762 : Cond.fieldLink RX6 13 "LineTalkModel" "state" "[I" ∈ TW := tw_mem 762 rfl rfl
set_option maxRecDepth 100000 in
theorem tw763 : Cond.fieldLink RX6 16 "LineTalkModel" "size" "[I" ∈ TW := tw_mem 763 rfl rfl
set_option maxRecDepth 100000 in
theorem tw764 : Cond.fieldLink RX6 19 "LineTalkModel" "least" "[I" ∈ TW := tw_mem 764 rfl rfl
set_option maxRecDepth 100000 in
theorem tw765 : Cond.fieldLink RX6 22 "LineTalkModel" "number" "[I" ∈ TW := tw_mem 765 rfl rfl
set_option maxRecDepth 100000 in
theorem tw766 : Cond.fieldLink RX6 25 "LineTalkModel" "id" "[I" ∈ TW := tw_mem 766 rfl rfl
set_option maxRecDepth 100000 in
theorem tw767 : Cond.fieldLink RX6 28 "LineTalkModel" "count" "[I" ∈ TW := tw_mem 767 rfl rfl
set_option maxRecDepth 100000 in
theorem tw768 : Cond.fieldLink RX6 31 "LineTalkModel" "timer" "[I" ∈ TW := tw_mem 768 rfl rfl
set_option maxRecDepth 100000 in
theorem tw769 : Cond.fieldLink RX6 34 "LineTalkModel" "asksSize" "[Z" ∈ TW := tw_mem 769 rfl rfl
set_option maxRecDepth 100000 in
theorem tw770 : Cond.fieldLink RX6 38 "LineTalkModel" "asksNumber" "[Z" ∈ TW := tw_mem 770 rfl rfl
set_option maxRecDepth 100000 in
theorem tw771 : Cond.fieldLink RX6 41 "LineTalkModel" "asked" "[I" ∈ TW := tw_mem 771 rfl rfl
set_option maxRecDepth 100000 in
theorem tw772 : Cond.fieldLink RX6 44 "LineTalkModel" "askedLength" "[I" ∈ TW := tw_mem 772 rfl rfl
set_option maxRecDepth 100000 in
theorem tw773 : Cond.fieldLink RX6 47 "LineTalkModel" "askedOptions" "[I" ∈ TW := tw_mem 773 rfl rfl
set_option maxRecDepth 100000 in
theorem tw774 : Cond.fieldLink RX6 50 "LineTalkModel" "onLine" "[I" ∈ TW := tw_mem 774 rfl rfl
set_option maxRecDepth 100000 in
theorem tw775 : Cond.fieldLink RX6 53 "LineTalkModel" "bytes" "[I" ∈ TW := tw_mem 775 rfl rfl
set_option maxRecDepth 100000 in
theorem tw776 : Cond.fieldLink RX6 56 "LineTalkModel" "looped" "[Z" ∈ TW := tw_mem 776 rfl rfl
set_option maxRecDepth 100000 in
theorem tw777 : Cond.fieldLink RX6 59 "LineTalkModel" "got" "[I" ∈ TW := tw_mem 777 rfl rfl
set_option maxRecDepth 100000 in
theorem tw778 : Cond.fieldLink RX6 62 "LineTalkModel" "gathered" "[I" ∈ TW := tw_mem 778 rfl rfl
set_option maxRecDepth 100000 in
theorem tw779 : Cond.fieldLink RX6 65 "LineTalkModel" "escaped" "[Z" ∈ TW := tw_mem 779 rfl rfl
set_option maxRecDepth 100000 in
theorem tw780 : Cond.fieldLink RX6 68 "LineTalkModel" "dataLength" "[I" ∈ TW := tw_mem 780 rfl rfl
set_option maxRecDepth 100000 in
theorem tw781 : Cond.fieldLink RX6 71 "LineTalkModel" "dataBytes" "[I" ∈ TW := tw_mem 781 rfl rfl
set_option maxRecDepth 100000 in
theorem tw782 : Cond.fieldLink RX6 74 "LineTalkModel" "counts" "[I" ∈ TW := tw_mem 782 rfl rfl
set_option maxRecDepth 100000 in
theorem tw783 : Cond.fieldLink RX6 92 "LineTalkModel" "length" "I" ∈ TW := tw_mem 783 rfl rfl
set_option maxRecDepth 100000 in
theorem tw784 : Cond.fieldLink RX6 77 "LineTalkModel" "packet" "[I" ∈ TW := tw_mem 784 rfl rfl
set_option maxRecDepth 100000 in
theorem tw785 : Cond.fieldLink RX6 128 "LineTalkModel" "answerCode" "I" ∈ TW := tw_mem 785 rfl rfl
set_option maxRecDepth 100000 in
theorem tw786 : Cond.fieldLink RX6 134 "LineTalkModel" "answerLength" "I" ∈ TW := tw_mem 786 rfl rfl
set_option maxRecDepth 100000 in
theorem tw787 : Cond.fieldLink RX6 80 "LineTalkModel" "answer" "[I" ∈ TW := tw_mem 787 rfl rfl
set_option maxRecDepth 100000 in
theorem tw788 : Cond.fieldLink RX6 131 "LineTalkModel" "cameId" "I" ∈ TW := tw_mem 788 rfl rfl
set_option maxRecDepth 100000 in
theorem tw789 : Cond.fieldLink RX6 143 "LineTalkModel" "cameCode" "I" ∈ TW := tw_mem 789 rfl rfl
set_option maxRecDepth 100000 in
theorem tw851 : Cond.arrayClass .boolean ∈ TW := tw_mem 851 rfl rfl
set_option maxRecDepth 100000 in
theorem tw852 : Cond.methodLink RL 72 yX6_thrown ∈ TW := tw_mem 852 rfl rfl
set_option maxRecDepth 100000 in
theorem tw853 : Cond.instanceMethod yX6_thrown ∈ TW := tw_mem 853 rfl rfl
set_option maxRecDepth 100000 in
theorem tw854 : Cond.selects RX6 yX6_thrown yX6_thrown ∈ TW := tw_mem 854 rfl rfl
set_option maxRecDepth 100000 in
theorem tw855 : Cond.code yX6_thrown cX6_thrown 1 (some .int) ∈ TW := tw_mem 855 rfl rfl
set_option maxRecDepth 100000 in
theorem tw856 : Cond.methodLink RL 71 yX6_set ∈ TW := tw_mem 856 rfl rfl
set_option maxRecDepth 100000 in
theorem tw857 : Cond.instanceMethod yX6_set ∈ TW := tw_mem 857 rfl rfl
set_option maxRecDepth 100000 in
theorem tw858 : Cond.selects RX6 yX6_set yX6_set ∈ TW := tw_mem 858 rfl rfl
set_option maxRecDepth 100000 in
theorem tw859 : Cond.code yX6_set cX6_set 5 none ∈ TW := tw_mem 859 rfl rfl
set_option maxRecDepth 100000 in
theorem tw860 : Cond.methodLink RX6 196 yX6_isEnd ∈ TW := tw_mem 860 rfl rfl
set_option maxRecDepth 100000 in
theorem tw861 : Cond.static yX6_isEnd ∈ TW := tw_mem 861 rfl rfl
set_option maxRecDepth 100000 in
theorem tw862 : Cond.code yX6_isEnd cX6_isEnd 1 (some .boolean) ∈ TW := tw_mem 862 rfl rfl
set_option maxRecDepth 100000 in
theorem tw863 : Cond.methodLink RX6 87 yX6_in ∈ TW := tw_mem 863 rfl rfl
set_option maxRecDepth 100000 in
theorem tw864 : Cond.static yX6_in ∈ TW := tw_mem 864 rfl rfl
set_option maxRecDepth 100000 in
theorem tw865 : Cond.code yX6_in cX6_in 3 (some .boolean) ∈ TW := tw_mem 865 rfl rfl
set_option maxRecDepth 100000 in
theorem tw866 : Cond.methodLink RL 79 yX6_event ∈ TW := tw_mem 866 rfl rfl
set_option maxRecDepth 100000 in
theorem tw867 : Cond.instanceMethod yX6_event ∈ TW := tw_mem 867 rfl rfl
set_option maxRecDepth 100000 in
theorem tw868 : Cond.selects RX6 yX6_event yX6_event ∈ TW := tw_mem 868 rfl rfl
set_option maxRecDepth 100000 in
theorem tw869 : Cond.code yX6_event cX6_event 3 (some .int) ∈ TW := tw_mem 869 rfl rfl
set_option maxRecDepth 100000 in
theorem tw870 : Cond.methodLink RX6 178 yX6_happen ∈ TW := tw_mem 870 rfl rfl
set_option maxRecDepth 100000 in
theorem tw872 : Cond.instanceMethod yX6_happen ∈ TW := tw_mem 872 rfl rfl
set_option maxRecDepth 100000 in
theorem tw873 : Cond.code yX6_happen cX6_happen 5 none ∈ TW := tw_mem 873 rfl rfl
set_option maxRecDepth 100000 in
theorem tw874 : Cond.methodLink RX6 146 yX6_act ∈ TW := tw_mem 874 rfl rfl
set_option maxRecDepth 100000 in
theorem tw876 : Cond.instanceMethod yX6_act ∈ TW := tw_mem 876 rfl rfl
set_option maxRecDepth 100000 in
theorem tw877 : Cond.code yX6_act cX6_act 3 none ∈ TW := tw_mem 877 rfl rfl
set_option maxRecDepth 100000 in
theorem tw878 : Cond.methodLink RX6 137 yX6_request ∈ TW := tw_mem 878 rfl rfl
set_option maxRecDepth 100000 in
theorem tw880 : Cond.instanceMethod yX6_request ∈ TW := tw_mem 880 rfl rfl
set_option maxRecDepth 100000 in
theorem tw881 : Cond.code yX6_request cX6_request 3 none ∈ TW := tw_mem 881 rfl rfl
set_option maxRecDepth 100000 in
theorem tw882 : Cond.methodLink RX6 115 yX6_nextId ∈ TW := tw_mem 882 rfl rfl
set_option maxRecDepth 100000 in
theorem tw884 : Cond.instanceMethod yX6_nextId ∈ TW := tw_mem 884 rfl rfl
set_option maxRecDepth 100000 in
theorem tw885 : Cond.code yX6_nextId cX6_nextId 2 (some .int) ∈ TW := tw_mem 885 rfl rfl
set_option maxRecDepth 100000 in
theorem tw886 : Cond.methodLink RX6 119 yX6_begin ∈ TW := tw_mem 886 rfl rfl
set_option maxRecDepth 100000 in
theorem tw888 : Cond.instanceMethod yX6_begin ∈ TW := tw_mem 888 rfl rfl
set_option maxRecDepth 100000 in
theorem tw889 : Cond.code yX6_begin cX6_begin 3 none ∈ TW := tw_mem 889 rfl rfl
set_option maxRecDepth 100000 in
theorem tw890 : Cond.methodLink RX6 95 yX6_add ∈ TW := tw_mem 890 rfl rfl
set_option maxRecDepth 100000 in
theorem tw892 : Cond.instanceMethod yX6_add ∈ TW := tw_mem 892 rfl rfl
set_option maxRecDepth 100000 in
theorem tw893 : Cond.code yX6_add cX6_add 2 none ∈ TW := tw_mem 893 rfl rfl
set_option maxRecDepth 100000 in
theorem tw894 : Cond.methodLink RX6 122 yX6_addInt ∈ TW := tw_mem 894 rfl rfl
set_option maxRecDepth 100000 in
theorem tw896 : Cond.instanceMethod yX6_addInt ∈ TW := tw_mem 896 rfl rfl
set_option maxRecDepth 100000 in
theorem tw897 : Cond.code yX6_addInt cX6_addInt 3 none ∈ TW := tw_mem 897 rfl rfl
set_option maxRecDepth 100000 in
theorem tw898 : Cond.methodLink RX6 125 yX6_ship ∈ TW := tw_mem 898 rfl rfl
set_option maxRecDepth 100000 in
theorem tw900 : Cond.instanceMethod yX6_ship ∈ TW := tw_mem 900 rfl rfl
set_option maxRecDepth 100000 in
theorem tw901 : Cond.code yX6_ship cX6_ship 5 none ∈ TW := tw_mem 901 rfl rfl
set_option maxRecDepth 100000 in
theorem tw902 : Cond.constant RX6 99 65535 ∈ TW := tw_mem 902 rfl rfl
set_option maxRecDepth 100000 in
theorem tw903 : Cond.methodLink RX6 100 yX6_check ∈ TW := tw_mem 903 rfl rfl
set_option maxRecDepth 100000 in
theorem tw904 : Cond.static yX6_check ∈ TW := tw_mem 904 rfl rfl
set_option maxRecDepth 100000 in
theorem tw905 : Cond.code yX6_check cX6_check 4 (some .int) ∈ TW := tw_mem 905 rfl rfl
set_option maxRecDepth 100000 in
theorem tw906 : Cond.constant RX6 91 33800 ∈ TW := tw_mem 906 rfl rfl
set_option maxRecDepth 100000 in
theorem tw907 : Cond.methodLink RX6 104 yX6_special ∈ TW := tw_mem 907 rfl rfl
set_option maxRecDepth 100000 in
theorem tw908 : Cond.static yX6_special ∈ TW := tw_mem 908 rfl rfl
set_option maxRecDepth 100000 in
theorem tw909 : Cond.code yX6_special cX6_special 1 (some .boolean) ∈ TW := tw_mem 909 rfl rfl
set_option maxRecDepth 100000 in
theorem tw910 : Cond.methodLink RX6 108 yX6_tally ∈ TW := tw_mem 910 rfl rfl
set_option maxRecDepth 100000 in
theorem tw912 : Cond.instanceMethod yX6_tally ∈ TW := tw_mem 912 rfl rfl
set_option maxRecDepth 100000 in
theorem tw913 : Cond.code yX6_tally cX6_tally 3 none ∈ TW := tw_mem 913 rfl rfl
set_option maxRecDepth 100000 in
theorem tw914 : Cond.methodLink RX6 112 yX6_lay ∈ TW := tw_mem 914 rfl rfl
set_option maxRecDepth 100000 in
theorem tw916 : Cond.instanceMethod yX6_lay ∈ TW := tw_mem 916 rfl rfl
set_option maxRecDepth 100000 in
theorem tw917 : Cond.code yX6_lay cX6_lay 3 none ∈ TW := tw_mem 917 rfl rfl
set_option maxRecDepth 100000 in
theorem tw918 : Cond.methodLink RX6 140 yX6_reply ∈ TW := tw_mem 918 rfl rfl
set_option maxRecDepth 100000 in
theorem tw920 : Cond.instanceMethod yX6_reply ∈ TW := tw_mem 920 rfl rfl
set_option maxRecDepth 100000 in
theorem tw921 : Cond.code yX6_reply cX6_reply 3 none ∈ TW := tw_mem 921 rfl rfl
set_option maxRecDepth 100000 in
theorem tw922 : Cond.methodLink RL 82 yX6_pass ∈ TW := tw_mem 922 rfl rfl
set_option maxRecDepth 100000 in
theorem tw923 : Cond.instanceMethod yX6_pass ∈ TW := tw_mem 923 rfl rfl
set_option maxRecDepth 100000 in
theorem tw924 : Cond.selects RX6 yX6_pass yX6_pass ∈ TW := tw_mem 924 rfl rfl
set_option maxRecDepth 100000 in
theorem tw925 : Cond.code yX6_pass cX6_pass 6 (some .int) ∈ TW := tw_mem 925 rfl rfl
set_option maxRecDepth 100000 in
theorem tw926 : Cond.methodLink RX6 199 yX6_take ∈ TW := tw_mem 926 rfl rfl
set_option maxRecDepth 100000 in
theorem tw928 : Cond.instanceMethod yX6_take ∈ TW := tw_mem 928 rfl rfl
set_option maxRecDepth 100000 in
theorem tw929 : Cond.code yX6_take cX6_take 4 (some .int) ∈ TW := tw_mem 929 rfl rfl
set_option maxRecDepth 100000 in
theorem tw930 : Cond.methodLink RX6 202 yX6_receive ∈ TW := tw_mem 930 rfl rfl
set_option maxRecDepth 100000 in
theorem tw932 : Cond.instanceMethod yX6_receive ∈ TW := tw_mem 932 rfl rfl
set_option maxRecDepth 100000 in
theorem tw933 : Cond.code yX6_receive cX6_receive 4 none ∈ TW := tw_mem 933 rfl rfl
set_option maxRecDepth 100000 in
theorem tw934 : Cond.methodLink RX6 193 yX6_whole ∈ TW := tw_mem 934 rfl rfl
set_option maxRecDepth 100000 in
theorem tw936 : Cond.instanceMethod yX6_whole ∈ TW := tw_mem 936 rfl rfl
set_option maxRecDepth 100000 in
theorem tw937 : Cond.code yX6_whole cX6_whole 7 none ∈ TW := tw_mem 937 rfl rfl
set_option maxRecDepth 100000 in
theorem tw938 : Cond.methodLink RX6 149 yX6_at ∈ TW := tw_mem 938 rfl rfl
set_option maxRecDepth 100000 in
theorem tw940 : Cond.instanceMethod yX6_at ∈ TW := tw_mem 940 rfl rfl
set_option maxRecDepth 100000 in
theorem tw941 : Cond.code yX6_at cX6_at 3 (some .int) ∈ TW := tw_mem 941 rfl rfl
set_option maxRecDepth 100000 in
theorem tw942 : Cond.methodLink RX6 184 yX6_keepData ∈ TW := tw_mem 942 rfl rfl
set_option maxRecDepth 100000 in
theorem tw944 : Cond.instanceMethod yX6_keepData ∈ TW := tw_mem 944 rfl rfl
set_option maxRecDepth 100000 in
theorem tw945 : Cond.code yX6_keepData cX6_keepData 4 none ∈ TW := tw_mem 945 rfl rfl
set_option maxRecDepth 100000 in
theorem tw946 : Cond.methodLink RX6 187 yX6_isControl ∈ TW := tw_mem 946 rfl rfl
set_option maxRecDepth 100000 in
theorem tw948 : Cond.instanceMethod yX6_isControl ∈ TW := tw_mem 948 rfl rfl
set_option maxRecDepth 100000 in
theorem tw949 : Cond.code yX6_isControl cX6_isControl 4 (some .boolean) ∈ TW := tw_mem 949 rfl rfl
set_option maxRecDepth 100000 in
theorem tw950 : Cond.methodLink RX6 155 yX6_areOptions ∈ TW := tw_mem 950 rfl rfl
set_option maxRecDepth 100000 in
theorem tw952 : Cond.instanceMethod yX6_areOptions ∈ TW := tw_mem 952 rfl rfl
set_option maxRecDepth 100000 in
theorem tw953 : Cond.code yX6_areOptions cX6_areOptions 7 (some .boolean) ∈ TW := tw_mem 953 rfl rfl
set_option maxRecDepth 100000 in
theorem tw954 : Cond.methodLink RX6 152 yX6_sizeOf ∈ TW := tw_mem 954 rfl rfl
set_option maxRecDepth 100000 in
theorem tw955 : Cond.static yX6_sizeOf ∈ TW := tw_mem 955 rfl rfl
set_option maxRecDepth 100000 in
theorem tw956 : Cond.code yX6_sizeOf cX6_sizeOf 1 (some .int) ∈ TW := tw_mem 956 rfl rfl
set_option maxRecDepth 100000 in
theorem tw957 : Cond.methodLink RX6 190 yX6_control ∈ TW := tw_mem 957 rfl rfl
set_option maxRecDepth 100000 in
theorem tw959 : Cond.instanceMethod yX6_control ∈ TW := tw_mem 959 rfl rfl
set_option maxRecDepth 100000 in
theorem tw960 : Cond.code yX6_control cX6_control 5 none ∈ TW := tw_mem 960 rfl rfl
set_option maxRecDepth 100000 in
theorem tw961 : Cond.methodLink RX6 172 yX6_isRight ∈ TW := tw_mem 961 rfl rfl
set_option maxRecDepth 100000 in
theorem tw963 : Cond.instanceMethod yX6_isRight ∈ TW := tw_mem 963 rfl rfl
set_option maxRecDepth 100000 in
theorem tw964 : Cond.code yX6_isRight cX6_isRight 5 (some .boolean) ∈ TW := tw_mem 964 rfl rfl
set_option maxRecDepth 100000 in
theorem tw965 : Cond.methodLink RX6 175 yX6_weigh ∈ TW := tw_mem 965 rfl rfl
set_option maxRecDepth 100000 in
theorem tw967 : Cond.instanceMethod yX6_weigh ∈ TW := tw_mem 967 rfl rfl
set_option maxRecDepth 100000 in
theorem tw968 : Cond.code yX6_weigh cX6_weigh 6 (some .boolean) ∈ TW := tw_mem 968 rfl rfl
set_option maxRecDepth 100000 in
theorem tw969 : Cond.methodLink RX6 165 yX6_judge ∈ TW := tw_mem 969 rfl rfl
set_option maxRecDepth 100000 in
theorem tw971 : Cond.instanceMethod yX6_judge ∈ TW := tw_mem 971 rfl rfl
set_option maxRecDepth 100000 in
theorem tw972 : Cond.code yX6_judge cX6_judge 5 (some .int) ∈ TW := tw_mem 972 rfl rfl
set_option maxRecDepth 100000 in
theorem tw973 : Cond.methodLink RX6 159 yX6_intAt ∈ TW := tw_mem 973 rfl rfl
set_option maxRecDepth 100000 in
theorem tw975 : Cond.instanceMethod yX6_intAt ∈ TW := tw_mem 975 rfl rfl
set_option maxRecDepth 100000 in
theorem tw976 : Cond.code yX6_intAt cX6_intAt 3 (some .int) ∈ TW := tw_mem 976 rfl rfl
set_option maxRecDepth 100000 in
theorem tw977 : Cond.methodLink RX6 162 yX6_answerWith ∈ TW := tw_mem 977 rfl rfl
set_option maxRecDepth 100000 in
theorem tw979 : Cond.instanceMethod yX6_answerWith ∈ TW := tw_mem 979 rfl rfl
set_option maxRecDepth 100000 in
theorem tw980 : Cond.code yX6_answerWith cX6_answerWith 2 none ∈ TW := tw_mem 980 rfl rfl
set_option maxRecDepth 100000 in
theorem tw981 : Cond.constant RX6 168 1103515245 ∈ TW := tw_mem 981 rfl rfl
set_option maxRecDepth 100000 in
theorem tw982 : Cond.methodLink RX6 169 yX6_answerInt ∈ TW := tw_mem 982 rfl rfl
set_option maxRecDepth 100000 in
theorem tw984 : Cond.instanceMethod yX6_answerInt ∈ TW := tw_mem 984 rfl rfl
set_option maxRecDepth 100000 in
theorem tw985 : Cond.code yX6_answerInt cX6_answerInt 3 none ∈ TW := tw_mem 985 rfl rfl
set_option maxRecDepth 100000 in
theorem tw986 : Cond.methodLink RX6 181 yX6_change ∈ TW := tw_mem 986 rfl rfl
set_option maxRecDepth 100000 in
theorem tw988 : Cond.instanceMethod yX6_change ∈ TW := tw_mem 988 rfl rfl
set_option maxRecDepth 100000 in
theorem tw989 : Cond.code yX6_change cX6_change 6 none ∈ TW := tw_mem 989 rfl rfl
set_option maxRecDepth 100000 in
theorem tw990 : Cond.methodLink RL 86 yX6_tick ∈ TW := tw_mem 990 rfl rfl
set_option maxRecDepth 100000 in
theorem tw991 : Cond.instanceMethod yX6_tick ∈ TW := tw_mem 991 rfl rfl
set_option maxRecDepth 100000 in
theorem tw992 : Cond.selects RX6 yX6_tick yX6_tick ∈ TW := tw_mem 992 rfl rfl
set_option maxRecDepth 100000 in
theorem tw993 : Cond.code yX6_tick cX6_tick 6 (some .int) ∈ TW := tw_mem 993 rfl rfl
set_option maxRecDepth 100000 in
theorem tw994 : Cond.methodLink RL 89 yX6_put ∈ TW := tw_mem 994 rfl rfl
set_option maxRecDepth 100000 in
theorem tw995 : Cond.instanceMethod yX6_put ∈ TW := tw_mem 995 rfl rfl
set_option maxRecDepth 100000 in
theorem tw996 : Cond.selects RX6 yX6_put yX6_put ∈ TW := tw_mem 996 rfl rfl
set_option maxRecDepth 100000 in
theorem tw997 : Cond.code yX6_put cX6_put 3 (some .int) ∈ TW := tw_mem 997 rfl rfl
set_option maxRecDepth 100000 in
theorem tw998 : Cond.methodLink RL 93 yX6_damage ∈ TW := tw_mem 998 rfl rfl
set_option maxRecDepth 100000 in
theorem tw999 : Cond.instanceMethod yX6_damage ∈ TW := tw_mem 999 rfl rfl
set_option maxRecDepth 100000 in
theorem tw1000 : Cond.selects RX6 yX6_damage yX6_damage ∈ TW := tw_mem 1000 rfl rfl
set_option maxRecDepth 100000 in
theorem tw1001 : Cond.code yX6_damage cX6_damage 5 (some .int) ∈ TW := tw_mem 1001 rfl rfl
set_option maxRecDepth 100000 in
theorem tw1002 : Cond.methodLink RX6 205 yX6_isByte ∈ TW := tw_mem 1002 rfl rfl
set_option maxRecDepth 100000 in
theorem tw1004 : Cond.instanceMethod yX6_isByte ∈ TW := tw_mem 1004 rfl rfl
set_option maxRecDepth 100000 in
theorem tw1005 : Cond.code yX6_isByte cX6_isByte 3 (some .boolean) ∈ TW := tw_mem 1005 rfl rfl
set_option maxRecDepth 100000 in
theorem tw1006 : Cond.methodLink RL 96 yX6_lose ∈ TW := tw_mem 1006 rfl rfl
set_option maxRecDepth 100000 in
theorem tw1007 : Cond.instanceMethod yX6_lose ∈ TW := tw_mem 1007 rfl rfl
set_option maxRecDepth 100000 in
theorem tw1008 : Cond.selects RX6 yX6_lose yX6_lose ∈ TW := tw_mem 1008 rfl rfl
set_option maxRecDepth 100000 in
theorem tw1009 : Cond.code yX6_lose cX6_lose 6 (some .int) ∈ TW := tw_mem 1009 rfl rfl
set_option maxRecDepth 100000 in
theorem tw1010 : Cond.methodLink RL 100 yX6_loop ∈ TW := tw_mem 1010 rfl rfl
set_option maxRecDepth 100000 in
theorem tw1011 : Cond.instanceMethod yX6_loop ∈ TW := tw_mem 1011 rfl rfl
set_option maxRecDepth 100000 in
theorem tw1012 : Cond.selects RX6 yX6_loop yX6_loop ∈ TW := tw_mem 1012 rfl rfl
set_option maxRecDepth 100000 in
theorem tw1013 : Cond.code yX6_loop cX6_loop 4 (some .boolean) ∈ TW := tw_mem 1013 rfl rfl
set_option maxRecDepth 100000 in
theorem tw1014 : Cond.methodLink RL 103 yX6_send ∈ TW := tw_mem 1014 rfl rfl
set_option maxRecDepth 100000 in
theorem tw1015 : Cond.instanceMethod yX6_send ∈ TW := tw_mem 1015 rfl rfl
set_option maxRecDepth 100000 in
theorem tw1016 : Cond.selects RX6 yX6_send yX6_send ∈ TW := tw_mem 1016 rfl rfl
set_option maxRecDepth 100000 in
theorem tw1017 : Cond.code yX6_send cX6_send 5 (some .int) ∈ TW := tw_mem 1017 rfl rfl
set_option maxRecDepth 100000 in
theorem tw1018 : Cond.methodLink RL 106 yX6_echo ∈ TW := tw_mem 1018 rfl rfl
set_option maxRecDepth 100000 in
theorem tw1019 : Cond.instanceMethod yX6_echo ∈ TW := tw_mem 1019 rfl rfl
set_option maxRecDepth 100000 in
theorem tw1020 : Cond.selects RX6 yX6_echo yX6_echo ∈ TW := tw_mem 1020 rfl rfl
set_option maxRecDepth 100000 in
theorem tw1021 : Cond.code yX6_echo cX6_echo 2 (some .int) ∈ TW := tw_mem 1021 rfl rfl
set_option maxRecDepth 100000 in
theorem tw1022 : Cond.methodLink RL 109 yX6_data ∈ TW := tw_mem 1022 rfl rfl
set_option maxRecDepth 100000 in
theorem tw1023 : Cond.instanceMethod yX6_data ∈ TW := tw_mem 1023 rfl rfl
set_option maxRecDepth 100000 in
theorem tw1024 : Cond.selects RX6 yX6_data yX6_data ∈ TW := tw_mem 1024 rfl rfl
set_option maxRecDepth 100000 in
theorem tw1025 : Cond.code yX6_data cX6_data 3 (some .int) ∈ TW := tw_mem 1025 rfl rfl
set_option maxRecDepth 100000 in
theorem tw1026 : Cond.methodLink RL 112 yX6_look ∈ TW := tw_mem 1026 rfl rfl
set_option maxRecDepth 100000 in
theorem tw1027 : Cond.instanceMethod yX6_look ∈ TW := tw_mem 1027 rfl rfl
set_option maxRecDepth 100000 in
theorem tw1028 : Cond.selects RX6 yX6_look yX6_look ∈ TW := tw_mem 1028 rfl rfl
set_option maxRecDepth 100000 in
theorem tw1029 : Cond.code yX6_look cX6_look 3 (some .int) ∈ TW := tw_mem 1029 rfl rfl
set_option maxRecDepth 100000 in
theorem tw1030 : Cond.methodLink RL 115 yX6_about ∈ TW := tw_mem 1030 rfl rfl
set_option maxRecDepth 100000 in
theorem tw1031 : Cond.instanceMethod yX6_about ∈ TW := tw_mem 1031 rfl rfl
set_option maxRecDepth 100000 in
theorem tw1032 : Cond.selects RX6 yX6_about yX6_about ∈ TW := tw_mem 1032 rfl rfl
set_option maxRecDepth 100000 in
theorem tw1033 : Cond.code yX6_about cX6_about 3 (some .int) ∈ TW := tw_mem 1033 rfl rfl
set_option maxRecDepth 100000 in
theorem tw1034 : Cond.methodLink RX6 208 yX6_asks ∈ TW := tw_mem 1034 rfl rfl
set_option maxRecDepth 100000 in
theorem tw1036 : Cond.instanceMethod yX6_asks ∈ TW := tw_mem 1036 rfl rfl
set_option maxRecDepth 100000 in
theorem tw1037 : Cond.code yX6_asks cX6_asks 2 (some .int) ∈ TW := tw_mem 1037 rfl rfl
set_option maxRecDepth 100000 in
theorem tw1038 : Cond.methodLink RL 118 yX6_count ∈ TW := tw_mem 1038 rfl rfl
set_option maxRecDepth 100000 in
theorem tw1039 : Cond.instanceMethod yX6_count ∈ TW := tw_mem 1039 rfl rfl
set_option maxRecDepth 100000 in
theorem tw1040 : Cond.selects RX6 yX6_count yX6_count ∈ TW := tw_mem 1040 rfl rfl
set_option maxRecDepth 100000 in
theorem tw1041 : Cond.code yX6_count cX6_count 3 (some .int) ∈ TW := tw_mem 1041 rfl rfl
set_option maxRecDepth 100000 in
theorem tw1042 : Cond.methodLink RL 123 yX6_noise ∈ TW := tw_mem 1042 rfl rfl
set_option maxRecDepth 100000 in
theorem tw1043 : Cond.instanceMethod yX6_noise ∈ TW := tw_mem 1043 rfl rfl
set_option maxRecDepth 100000 in
theorem tw1044 : Cond.selects RX6 yX6_noise yX6_noise ∈ TW := tw_mem 1044 rfl rfl
set_option maxRecDepth 100000 in
theorem tw1045 : Cond.code yX6_noise cX6_noise 5 (some .float) ∈ TW := tw_mem 1045 rfl rfl
set_option maxRecDepth 100000 in
theorem tw1046 : Cond.arrayClass .long ∈ TW := tw_mem 1046 rfl rfl
set_option maxRecDepth 100000 in
theorem tw1048 : Cond.fieldLinkNest RX0 251 "LineTalk$Event" "row" "Ljava/lang/String;" RX5 ∈ TW := tw_mem 1048 rfl rfl
set_option maxRecDepth 100000 in
theorem tw1049 : Cond.fieldLink RJ0 9 "java/lang/String" "value" "[B" ∈ TW := tw_mem 1049 rfl rfl
set_option maxRecDepth 100000 in
theorem tw1050 : Cond.fieldLink RJ0 15 "java/lang/String" "coder" "B" ∈ TW := tw_mem 1050 rfl rfl
set_option maxRecDepth 100000 in
theorem tw1052 : Cond.arrayClass .byte ∈ TW := tw_mem 1052 rfl rfl
set_option maxRecDepth 100000 in
theorem iX0 : ∀ w ∈ u_ws RX0 TX0 17, w ∈ TW := tw_all [175, 177, 179, 181, 183, 185, 187, 189, 191, 193, 195, 197, 199, 201, 203, 205, 207] rfl (by decide +kernel)
theorem ftX0 : FTk RX0 TX0 17 tyX0 := ⟨tyX0_ok, nmX0⟩
set_option maxRecDepth 100000 in
theorem iX2 : ∀ w ∈ u_ws RX2 TX2 4, w ∈ TW := tw_all [91, 93, 95, 97] rfl (by decide +kernel)
theorem ftX2 : FTk RX2 TX2 4 tyX2 := ⟨tyX2_ok, nmX2⟩
set_option maxRecDepth 100000 in
theorem iX3 : ∀ w ∈ u_ws RX3 TX3 2, w ∈ TW := tw_all [126, 128] rfl (by decide +kernel)
theorem ftX3 : FTk RX3 TX3 2 tyX3 := ⟨tyX3_ok, nmX3⟩
set_option maxRecDepth 100000 in
theorem iX4 : ∀ w ∈ u_ws RX4 TX4 3, w ∈ TW := tw_all [136, 138, 140] rfl (by decide +kernel)
theorem ftX4 : FTk RX4 TX4 3 tyX4 := ⟨tyX4_ok, nmX4⟩
set_option maxRecDepth 100000 in
theorem iX5 : ∀ w ∈ u_ws RX5 TX5 4, w ∈ TW := tw_all [214, 216, 218, 220] rfl (by decide +kernel)
theorem ftX5 : FTk RX5 TX5 4 tyX5 := ⟨tyX5_ok, nmX5⟩
set_option maxRecDepth 100000 in
theorem iX6 : ∀ w ∈ u_ws RX6 TX6 30, w ∈ TW := tw_all [790, 792, 794, 796, 798, 800, 802, 804, 806, 808, 810, 812, 814, 816, 818, 820, 822, 824, 826, 828, 830, 832, 834, 836, 838, 840, 842, 844, 846, 848] rfl (by decide +kernel)
theorem ftX6 : FTk RX6 TX6 30 tyX6 := ⟨tyX6_ok, nmX6⟩
theorem flX2_9 : FLk RX2 9 1 0 RX2 TX2 4 := ⟨rfl, iX2, by decide, Or.inl tw85⟩
theorem flX2_19 : FLk RX2 19 1 1 RX2 TX2 4 := ⟨rfl, iX2, by decide, Or.inl tw86⟩
theorem flX2_15 : FLk RX2 15 1 2 RX2 TX2 4 := ⟨rfl, iX2, by decide, Or.inl tw87⟩
theorem flX5_85 : FLk RX5 85 1 2 RX2 TX2 4 := ⟨rfl, iX2, by decide, Or.inr ⟨_, tw88⟩⟩
theorem flX0_100 : FLk RX0 100 1 2 RX2 TX2 4 := ⟨rfl, iX2, by decide, Or.inr ⟨_, tw89⟩⟩
theorem flX5_81 : FLk RX5 81 1 3 RX2 TX2 4 := ⟨rfl, iX2, by decide, Or.inr ⟨_, tw90⟩⟩
theorem flX3_9 : FLk RX3 9 2 0 RX3 TX3 2 := ⟨rfl, iX3, by decide, Or.inl tw119⟩
theorem flX2_32 : FLk RX2 32 2 0 RX3 TX3 2 := ⟨rfl, iX3, by decide, Or.inr ⟨_, tw120⟩⟩
theorem flX4_24 : FLk RX4 24 2 1 RX3 TX3 2 := ⟨rfl, iX3, by decide, Or.inr ⟨_, tw121⟩⟩
theorem flX0_70 : FLk RX0 70 2 1 RX3 TX3 2 := ⟨rfl, iX3, by decide, Or.inr ⟨_, tw122⟩⟩
theorem flX3_15 : FLk RX3 15 2 1 RX3 TX3 2 := ⟨rfl, iX3, by decide, Or.inl tw123⟩
theorem flX2_29 : FLk RX2 29 2 1 RX3 TX3 2 := ⟨rfl, iX3, by decide, Or.inr ⟨_, tw124⟩⟩
theorem flX5_174 : FLk RX5 174 2 1 RX3 TX3 2 := ⟨rfl, iX3, by decide, Or.inr ⟨_, tw125⟩⟩
theorem flX4_14 : FLk RX4 14 3 0 RX4 TX4 3 := ⟨rfl, iX4, by decide, Or.inl tw131⟩
theorem flX0_18 : FLk RX0 18 3 0 RX4 TX4 3 := ⟨rfl, iX4, by decide, Or.inr ⟨_, tw132⟩⟩
theorem flX5_171 : FLk RX5 171 3 0 RX4 TX4 3 := ⟨rfl, iX4, by decide, Or.inr ⟨_, tw133⟩⟩
theorem flX4_20 : FLk RX4 20 3 1 RX4 TX4 3 := ⟨rfl, iX4, by decide, Or.inl tw134⟩
theorem flX4_28 : FLk RX4 28 3 2 RX4 TX4 3 := ⟨rfl, iX4, by decide, Or.inl tw135⟩
theorem flX0_63 : FLk RX0 63 0 0 RX0 TX0 17 := ⟨rfl, iX0, by decide, Or.inl tw145⟩
theorem flX5_137 : FLk RX5 137 0 0 RX0 TX0 17 := ⟨rfl, iX0, by decide, Or.inr ⟨_, tw146⟩⟩
theorem flX0_12 : FLk RX0 12 0 1 RX0 TX0 17 := ⟨rfl, iX0, by decide, Or.inl tw147⟩
theorem flX5_92 : FLk RX5 92 0 1 RX0 TX0 17 := ⟨rfl, iX0, by decide, Or.inr ⟨_, tw148⟩⟩
theorem flX0_22 : FLk RX0 22 0 2 RX0 TX0 17 := ⟨rfl, iX0, by decide, Or.inl tw149⟩
theorem flX0_30 : FLk RX0 30 0 3 RX0 TX0 17 := ⟨rfl, iX0, by decide, Or.inl tw150⟩
theorem flX5_146 : FLk RX5 146 0 3 RX0 TX0 17 := ⟨rfl, iX0, by decide, Or.inr ⟨_, tw151⟩⟩
theorem flX0_33 : FLk RX0 33 0 4 RX0 TX0 17 := ⟨rfl, iX0, by decide, Or.inl tw152⟩
theorem flX0_36 : FLk RX0 36 0 5 RX0 TX0 17 := ⟨rfl, iX0, by decide, Or.inl tw153⟩
theorem flX0_39 : FLk RX0 39 0 6 RX0 TX0 17 := ⟨rfl, iX0, by decide, Or.inl tw154⟩
theorem flX0_42 : FLk RX0 42 0 7 RX0 TX0 17 := ⟨rfl, iX0, by decide, Or.inl tw155⟩
theorem flX5_175 : FLk RX5 175 0 7 RX0 TX0 17 := ⟨rfl, iX0, by decide, Or.inr ⟨_, tw156⟩⟩
theorem flX0_46 : FLk RX0 46 0 8 RX0 TX0 17 := ⟨rfl, iX0, by decide, Or.inl tw157⟩
theorem flX5_49 : FLk RX5 49 0 8 RX0 TX0 17 := ⟨rfl, iX0, by decide, Or.inr ⟨_, tw158⟩⟩
theorem flX0_50 : FLk RX0 50 0 9 RX0 TX0 17 := ⟨rfl, iX0, by decide, Or.inl tw159⟩
theorem flX5_52 : FLk RX5 52 0 9 RX0 TX0 17 := ⟨rfl, iX0, by decide, Or.inr ⟨_, tw160⟩⟩
theorem flX5_55 : FLk RX5 55 0 10 RX0 TX0 17 := ⟨rfl, iX0, by decide, Or.inr ⟨_, tw161⟩⟩
theorem flX0_88 : FLk RX0 88 0 10 RX0 TX0 17 := ⟨rfl, iX0, by decide, Or.inl tw162⟩
theorem flX0_53 : FLk RX0 53 0 11 RX0 TX0 17 := ⟨rfl, iX0, by decide, Or.inl tw163⟩
theorem flX5_165 : FLk RX5 165 0 11 RX0 TX0 17 := ⟨rfl, iX0, by decide, Or.inr ⟨_, tw164⟩⟩
theorem flX0_57 : FLk RX0 57 0 12 RX0 TX0 17 := ⟨rfl, iX0, by decide, Or.inl tw165⟩
theorem flX5_168 : FLk RX5 168 0 12 RX0 TX0 17 := ⟨rfl, iX0, by decide, Or.inr ⟨_, tw166⟩⟩
theorem flX0_60 : FLk RX0 60 0 13 RX0 TX0 17 := ⟨rfl, iX0, by decide, Or.inl tw167⟩
theorem flX5_42 : FLk RX5 42 0 13 RX0 TX0 17 := ⟨rfl, iX0, by decide, Or.inr ⟨_, tw168⟩⟩
theorem flX0_67 : FLk RX0 67 0 14 RX0 TX0 17 := ⟨rfl, iX0, by decide, Or.inl tw169⟩
theorem flX5_143 : FLk RX5 143 0 14 RX0 TX0 17 := ⟨rfl, iX0, by decide, Or.inr ⟨_, tw170⟩⟩
theorem flX0_109 : FLk RX0 109 0 15 RX0 TX0 17 := ⟨rfl, iX0, by decide, Or.inl tw171⟩
theorem flX5_159 : FLk RX5 159 0 15 RX0 TX0 17 := ⟨rfl, iX0, by decide, Or.inr ⟨_, tw172⟩⟩
theorem flX0_106 : FLk RX0 106 0 16 RX0 TX0 17 := ⟨rfl, iX0, by decide, Or.inl tw173⟩
theorem flX5_162 : FLk RX5 162 0 16 RX0 TX0 17 := ⟨rfl, iX0, by decide, Or.inr ⟨_, tw174⟩⟩
theorem flX5_10 : FLk RX5 10 4 0 RX5 TX5 4 := ⟨rfl, iX5, by decide, Or.inl tw210⟩
theorem flX5_16 : FLk RX5 16 4 1 RX5 TX5 4 := ⟨rfl, iX5, by decide, Or.inl tw211⟩
theorem flX5_24 : FLk RX5 24 4 2 RX5 TX5 4 := ⟨rfl, iX5, by decide, Or.inl tw212⟩
theorem flX5_28 : FLk RX5 28 4 3 RX5 TX5 4 := ⟨rfl, iX5, by decide, Or.inl tw213⟩
theorem flX6_7 : FLk RX6 7 5 0 RX6 TX6 30 := ⟨rfl, iX6, by decide, Or.inl tw760⟩
theorem flX6_83 : FLk RX6 83 5 1 RX6 TX6 30 := ⟨rfl, iX6, by decide, Or.inl tw761⟩
theorem flX6_13 : FLk RX6 13 5 2 RX6 TX6 30 := ⟨rfl, iX6, by decide, Or.inl tw762⟩
theorem flX6_16 : FLk RX6 16 5 3 RX6 TX6 30 := ⟨rfl, iX6, by decide, Or.inl tw763⟩
theorem flX6_19 : FLk RX6 19 5 4 RX6 TX6 30 := ⟨rfl, iX6, by decide, Or.inl tw764⟩
theorem flX6_22 : FLk RX6 22 5 5 RX6 TX6 30 := ⟨rfl, iX6, by decide, Or.inl tw765⟩
theorem flX6_25 : FLk RX6 25 5 6 RX6 TX6 30 := ⟨rfl, iX6, by decide, Or.inl tw766⟩
theorem flX6_28 : FLk RX6 28 5 7 RX6 TX6 30 := ⟨rfl, iX6, by decide, Or.inl tw767⟩
theorem flX6_31 : FLk RX6 31 5 8 RX6 TX6 30 := ⟨rfl, iX6, by decide, Or.inl tw768⟩
theorem flX6_34 : FLk RX6 34 5 9 RX6 TX6 30 := ⟨rfl, iX6, by decide, Or.inl tw769⟩
theorem flX6_38 : FLk RX6 38 5 10 RX6 TX6 30 := ⟨rfl, iX6, by decide, Or.inl tw770⟩
theorem flX6_41 : FLk RX6 41 5 11 RX6 TX6 30 := ⟨rfl, iX6, by decide, Or.inl tw771⟩
theorem flX6_44 : FLk RX6 44 5 12 RX6 TX6 30 := ⟨rfl, iX6, by decide, Or.inl tw772⟩
theorem flX6_47 : FLk RX6 47 5 13 RX6 TX6 30 := ⟨rfl, iX6, by decide, Or.inl tw773⟩
theorem flX6_50 : FLk RX6 50 5 14 RX6 TX6 30 := ⟨rfl, iX6, by decide, Or.inl tw774⟩
theorem flX6_53 : FLk RX6 53 5 15 RX6 TX6 30 := ⟨rfl, iX6, by decide, Or.inl tw775⟩
theorem flX6_56 : FLk RX6 56 5 16 RX6 TX6 30 := ⟨rfl, iX6, by decide, Or.inl tw776⟩
theorem flX6_59 : FLk RX6 59 5 17 RX6 TX6 30 := ⟨rfl, iX6, by decide, Or.inl tw777⟩
theorem flX6_62 : FLk RX6 62 5 18 RX6 TX6 30 := ⟨rfl, iX6, by decide, Or.inl tw778⟩
theorem flX6_65 : FLk RX6 65 5 19 RX6 TX6 30 := ⟨rfl, iX6, by decide, Or.inl tw779⟩
theorem flX6_68 : FLk RX6 68 5 20 RX6 TX6 30 := ⟨rfl, iX6, by decide, Or.inl tw780⟩
theorem flX6_71 : FLk RX6 71 5 21 RX6 TX6 30 := ⟨rfl, iX6, by decide, Or.inl tw781⟩
theorem flX6_74 : FLk RX6 74 5 22 RX6 TX6 30 := ⟨rfl, iX6, by decide, Or.inl tw782⟩
theorem flX6_92 : FLk RX6 92 5 23 RX6 TX6 30 := ⟨rfl, iX6, by decide, Or.inl tw783⟩
theorem flX6_77 : FLk RX6 77 5 24 RX6 TX6 30 := ⟨rfl, iX6, by decide, Or.inl tw784⟩
theorem flX6_128 : FLk RX6 128 5 25 RX6 TX6 30 := ⟨rfl, iX6, by decide, Or.inl tw785⟩
theorem flX6_134 : FLk RX6 134 5 26 RX6 TX6 30 := ⟨rfl, iX6, by decide, Or.inl tw786⟩
theorem flX6_80 : FLk RX6 80 5 27 RX6 TX6 30 := ⟨rfl, iX6, by decide, Or.inl tw787⟩
theorem flX6_131 : FLk RX6 131 5 28 RX6 TX6 30 := ⟨rfl, iX6, by decide, Or.inl tw788⟩
theorem flX6_143 : FLk RX6 143 5 29 RX6 TX6 30 := ⟨rfl, iX6, by decide, Or.inl tw789⟩
theorem mwL_119 : MWv RL 119 RX5 yX5_noise cX5_noise 3 (some .float) 0 := ⟨tw223, tw224, tw225, tw52, tw226, rfl, by decide +kernel, by decide +kernel⟩
theorem mwL_7 : MWv RL 7 RX5 yX5_set cX5_set 6 none 4 := ⟨tw233, tw234, tw235, tw52, tw236, rfl, by decide +kernel, by decide +kernel⟩
theorem mwX5_31 : MWv RX5 31 RX5 yX5_endAt cX5_endAt 2 (some (.object "LineTalk$End")) 1 := ⟨tw237, tw239, tw0, tw52, tw240, rfl, by decide +kernel, by decide +kernel⟩
theorem mwX5_35 : MWs RX5 35 yX5_isSize cX5_isSize 1 (some .boolean) 1 := ⟨tw304, tw305, tw52, tw306, by decide +kernel, by decide +kernel⟩
theorem mwL_19 : MWv RL 19 RX5 yX5_event cX5_event 4 (some .int) 2 := ⟨tw340, tw341, tw342, tw52, tw343, rfl, by decide +kernel, by decide +kernel⟩
theorem mwX5_64 : MWv RX5 64 RX0 yX0_happen cX0_happen 7 none 1 := ⟨tw346, tw347, tw348, tw54, tw349, rfl, by decide +kernel, by decide +kernel⟩
theorem mwX0_255 : MWv RX0 255 RJ0 yJ0_length_8abf5 cJ0_length_8abf5 1 (some .int) 0 := ⟨tw350, tw351, tw352, tw66, tw353, rfl, by decide +kernel, by decide +kernel⟩
theorem mwJ0_335 : MWv RJ0 335 RJ0 yJ0_coder_7d493 cJ0_coder_7d493 1 (some .byte) 0 := ⟨tw354, tw355, tw356, tw66, tw357, rfl, by decide +kernel, by decide +kernel⟩
theorem mwX0_260 : MWv RX0 260 RJ0 yJ0_charAt_5068e cJ0_charAt_5068e 2 (some .char) 1 := ⟨tw360, tw361, tw362, tw66, tw363, rfl, by decide +kernel, by decide +kernel⟩
theorem mwJ0_492 : MWv RJ0 492 RJ0 yJ0_isLatin1_aae02 cJ0_isLatin1_aae02 1 (some .boolean) 0 := ⟨tw364, tw365, tw366, tw66, tw367, rfl, by decide +kernel, by decide +kernel⟩
theorem mwJ0_495 : MWs RJ0 495 yJ1_charAt_3b067 cJ1_charAt_3b067 2 (some .char) 2 := ⟨tw368, tw369, tw67, tw370, by decide +kernel, by decide +kernel⟩
theorem mwJ1_9 : MWs RJ1 9 yJ0_checkIndex_df160 cJ0_checkIndex_df160 2 none 2 := ⟨tw371, tw372, tw66, tw373, by decide +kernel, by decide +kernel⟩
theorem mwJ0_1059 : MWs RJ0 1059 yJ3_checkIndex_8e157 cJ3_checkIndex_8e157 3 (some .int) 3 := ⟨tw376, tw377, tw68, tw378, by decide +kernel, by decide +kernel⟩
theorem mwJ0_498 : MWs RJ0 498 yJ2_charAt_3b067 cJ2_charAt_3b067 2 (some .char) 2 := ⟨tw379, tw380, tw69, tw381, by decide +kernel, by decide +kernel⟩
theorem mwJ2_67 : MWs RJ2 67 yJ2_checkIndex_2214a cJ2_checkIndex_2214a 2 none 2 := ⟨tw382, tw383, tw69, tw384, by decide +kernel, by decide +kernel⟩
theorem mwJ2_48 : MWs RJ2 48 yJ2_length_9d52b cJ2_length_9d52b 1 (some .int) 1 := ⟨tw385, tw386, tw69, tw387, by decide +kernel, by decide +kernel⟩
theorem mwJ2_414 : MWs RJ2 414 yJ0_checkIndex_df160 cJ0_checkIndex_df160 2 none 2 := ⟨tw388, tw372, tw66, tw373, by decide +kernel, by decide +kernel⟩
theorem mwJ2_71 : MWs RJ2 71 yJ2_getChar_3b067 cJ2_getChar_3b067 2 (some .char) 2 := ⟨tw389, tw390, tw69, tw391, by decide +kernel, by decide +kernel⟩
theorem mwX0_264 : MWv RX0 264 RX0 yX0_change cX0_change 2 none 1 := ⟨tw398, tw400, tw2, tw54, tw401, rfl, by decide +kernel, by decide +kernel⟩
theorem mwX0_270 : MWv RX0 270 RX3 yX3_copyFrom cX3_copyFrom 3 none 1 := ⟨tw402, tw403, tw404, tw56, tw405, rfl, by decide +kernel, by decide +kernel⟩
theorem mwX3_19 : MWv RX3 19 RX3 yX3_add cX3_add 2 none 1 := ⟨tw406, tw407, tw408, tw56, tw409, rfl, by decide +kernel, by decide +kernel⟩
theorem mwX0_267 : MWv RX0 267 RX0 yX0_speak cX0_speak 2 none 1 := ⟨tw410, tw412, tw3, tw54, tw413, rfl, by decide +kernel, by decide +kernel⟩
theorem mwX0_273 : MWv RX0 273 RX0 yX0_composeRequest cX0_composeRequest 1 none 0 := ⟨tw414, tw416, tw4, tw54, tw417, rfl, by decide +kernel, by decide +kernel⟩
theorem mwX0_80 : MWv RX0 80 RX0 yX0_nextId cX0_nextId 1 (some .int) 0 := ⟨tw418, tw419, tw420, tw54, tw421, rfl, by decide +kernel, by decide +kernel⟩
theorem mwX0_84 : MWv RX0 84 RX3 yX3_start cX3_start 3 none 2 := ⟨tw422, tw423, tw424, tw56, tw425, rfl, by decide +kernel, by decide +kernel⟩
theorem mwX0_247 : MWv RX0 247 RX3 yX3_addSizeOption cX3_addSizeOption 2 none 1 := ⟨tw426, tw427, tw428, tw56, tw429, rfl, by decide +kernel, by decide +kernel⟩
theorem mwX0_73 : MWv RX0 73 RX3 yX3_add cX3_add 2 none 1 := ⟨tw430, tw407, tw408, tw56, tw409, rfl, by decide +kernel, by decide +kernel⟩
theorem mwX0_91 : MWv RX0 91 RX3 yX3_addNumber cX3_addNumber 2 none 1 := ⟨tw431, tw432, tw433, tw56, tw434, rfl, by decide +kernel, by decide +kernel⟩
theorem mwX0_76 : MWv RX0 76 RX0 yX0_transmit cX0_transmit 2 none 1 := ⟨tw435, tw437, tw5, tw54, tw438, rfl, by decide +kernel, by decide +kernel⟩
theorem mwX0_94 : MWv RX0 94 RX3 yX3_seal cX3_seal 2 none 0 := ⟨tw439, tw440, tw441, tw56, tw442, rfl, by decide +kernel, by decide +kernel⟩
theorem mwX3_27 : MWv RX3 27 RX3 yX3_checkOf cX3_checkOf 5 (some .int) 1 := ⟨tw443, tw445, tw6, tw56, tw446, rfl, by decide +kernel, by decide +kernel⟩
theorem mwX0_97 : MWv RX0 97 RX3 yX3_frameLength cX3_frameLength 3 (some .int) 0 := ⟨tw449, tw450, tw451, tw56, tw452, rfl, by decide +kernel, by decide +kernel⟩
theorem mwX3_36 : MWs RX3 36 yX3_needsEscape cX3_needsEscape 1 (some .boolean) 1 := ⟨tw453, tw454, tw56, tw455, by decide +kernel, by decide +kernel⟩
theorem mwX0_103 : MWv RX0 103 RX2 yX2_carry cX2_carry 4 none 1 := ⟨tw456, tw457, tw458, tw53, tw459, rfl, by decide +kernel, by decide +kernel⟩
theorem mwX2_26 : MWv RX2 26 RX2 yX2_append cX2_append 2 none 1 := ⟨tw460, tw461, tw462, tw53, tw463, rfl, by decide +kernel, by decide +kernel⟩
theorem mwX2_33 : MWs RX2 33 yX3_needsEscape cX3_needsEscape 1 (some .boolean) 1 := ⟨tw464, tw454, tw56, tw455, by decide +kernel, by decide +kernel⟩
theorem mwX0_276 : MWv RX0 276 RX0 yX0_spendTry cX0_spendTry 1 none 0 := ⟨tw465, tw467, tw7, tw54, tw468, rfl, by decide +kernel, by decide +kernel⟩
theorem mwX0_155 : MWv RX0 155 RX3 yX3_id cX3_id 1 (some .int) 0 := ⟨tw469, tw470, tw471, tw56, tw472, rfl, by decide +kernel, by decide +kernel⟩
theorem mwX3_23 : MWv RX3 23 RX3 yX3_at cX3_at 2 (some .int) 1 := ⟨tw473, tw474, tw475, tw56, tw476, rfl, by decide +kernel, by decide +kernel⟩
theorem mwX0_148 : MWv RX0 148 RX3 yX3_code cX3_code 1 (some .int) 0 := ⟨tw477, tw478, tw479, tw56, tw480, rfl, by decide +kernel, by decide +kernel⟩
theorem mwL_23 : MWv RL 23 RX5 yX5_pass cX5_pass 8 (some .int) 2 := ⟨tw490, tw491, tw492, tw52, tw493, rfl, by decide +kernel, by decide +kernel⟩
theorem mwX5_77 : MWv RX5 77 RX5 yX5_lineAt cX5_lineAt 2 (some (.object "LineTalk$Line")) 1 := ⟨tw494, tw496, tw8, tw52, tw497, rfl, by decide +kernel, by decide +kernel⟩
theorem mwX5_88 : MWv RX5 88 RX2 yX2_takeFirst cX2_takeFirst 2 (some .int) 0 := ⟨tw498, tw499, tw500, tw53, tw501, rfl, by decide +kernel, by decide +kernel⟩
theorem mwX2_22 : MWv RX2 22 RX2 yX2_drop cX2_drop 2 none 1 := ⟨tw502, tw503, tw504, tw53, tw505, rfl, by decide +kernel, by decide +kernel⟩
theorem mwX5_96 : MWv RX5 96 RX4 yX4_gather cX4_gather 2 none 1 := ⟨tw506, tw507, tw508, tw55, tw509, rfl, by decide +kernel, by decide +kernel⟩
theorem mwX4_31 : MWv RX4 31 RX3 yX3_add cX3_add 2 none 1 := ⟨tw510, tw407, tw408, tw56, tw409, rfl, by decide +kernel, by decide +kernel⟩
theorem mwX5_102 : MWv RX5 102 RX0 yX0_frameCame cX0_frameCame 2 (some .boolean) 0 := ⟨tw511, tw512, tw513, tw54, tw514, rfl, by decide +kernel, by decide +kernel⟩
theorem mwX0_125 : MWv RX0 125 RX4 yX4_isEmpty cX4_isEmpty 1 (some .boolean) 0 := ⟨tw515, tw516, tw517, tw55, tw518, rfl, by decide +kernel, by decide +kernel⟩
theorem mwX0_129 : MWv RX0 129 RX4 yX4_holdsPacket cX4_holdsPacket 1 (some .boolean) 0 := ⟨tw519, tw520, tw521, tw55, tw522, rfl, by decide +kernel, by decide +kernel⟩
theorem mwX4_34 : MWv RX4 34 RX3 yX3_isSealed cX3_isSealed 1 (some .boolean) 0 := ⟨tw523, tw524, tw525, tw56, tw526, rfl, by decide +kernel, by decide +kernel⟩
theorem mwX3_30 : MWv RX3 30 RX3 yX3_end cX3_end 1 (some .int) 0 := ⟨tw527, tw528, tw529, tw56, tw530, rfl, by decide +kernel, by decide +kernel⟩
theorem mwX0_132 : MWv RX0 132 RX3 yX3_isWellFormed cX3_isWellFormed 2 (some .boolean) 0 := ⟨tw531, tw532, tw533, tw56, tw534, rfl, by decide +kernel, by decide +kernel⟩
theorem mwX3_40 : MWv RX3 40 RX3 yX3_hasWholeOptions cX3_hasWholeOptions 2 (some .boolean) 0 := ⟨tw535, tw537, tw9, tw56, tw538, rfl, by decide +kernel, by decide +kernel⟩
theorem mwX3_44 : MWv RX3 44 RX3 yX3_hasTypeAhead cX3_hasTypeAhead 3 (some .boolean) 1 := ⟨tw539, tw541, tw10, tw56, tw542, rfl, by decide +kernel, by decide +kernel⟩
theorem mwX3_47 : MWs RX3 47 yX3_optionLength cX3_optionLength 1 (some .int) 1 := ⟨tw543, tw544, tw56, tw545, by decide +kernel, by decide +kernel⟩
theorem mwX0_135 : MWv RX0 135 RX0 yX0_isRight cX0_isRight 1 (some .boolean) 0 := ⟨tw546, tw548, tw11, tw54, tw549, rfl, by decide +kernel, by decide +kernel⟩
theorem mwX0_151 : MWv RX0 151 RX3 yX3_hasIdAndContentsOf cX3_hasIdAndContentsOf 3 (some .boolean) 1 := ⟨tw550, tw551, tw552, tw56, tw553, rfl, by decide +kernel, by decide +kernel⟩
theorem mwX0_138 : MWv RX0 138 RX0 yX0_learn cX0_learn 3 none 0 := ⟨tw554, tw556, tw12, tw54, tw557, rfl, by decide +kernel, by decide +kernel⟩
theorem mwX0_158 : MWv RX0 158 RX3 yX3_numberAt cX3_numberAt 2 (some .int) 1 := ⟨tw558, tw559, tw560, tw56, tw561, rfl, by decide +kernel, by decide +kernel⟩
theorem mwX0_162 : MWv RX0 162 RX0 yX0_suspect cX0_suspect 2 none 1 := ⟨tw562, tw564, tw13, tw54, tw565, rfl, by decide +kernel, by decide +kernel⟩
theorem mwX0_165 : MWv RX0 165 RX3 yX3_end cX3_end 1 (some .int) 0 := ⟨tw566, tw528, tw529, tw56, tw530, rfl, by decide +kernel, by decide +kernel⟩
theorem mwX0_168 : MWv RX0 168 RX0 yX0_learnOption cX0_learnOption 4 none 2 := ⟨tw567, tw569, tw14, tw54, tw570, rfl, by decide +kernel, by decide +kernel⟩
theorem mwX0_171 : MWv RX0 171 RX3 yX3_at cX3_at 2 (some .int) 1 := ⟨tw571, tw474, tw475, tw56, tw476, rfl, by decide +kernel, by decide +kernel⟩
theorem mwX0_177 : MWv RX0 177 RX3 yX3_pairAt cX3_pairAt 2 (some .int) 1 := ⟨tw572, tw573, tw574, tw56, tw575, rfl, by decide +kernel, by decide +kernel⟩
theorem mwX0_180 : MWv RX0 180 RX0 yX0_learnSize cX0_learnSize 3 none 2 := ⟨tw576, tw578, tw15, tw54, tw579, rfl, by decide +kernel, by decide +kernel⟩
theorem mwX0_183 : MWv RX0 183 RX0 yX0_learnNumber cX0_learnNumber 3 none 2 := ⟨tw581, tw583, tw16, tw54, tw584, rfl, by decide +kernel, by decide +kernel⟩
theorem mwX0_174 : MWs RX0 174 yX3_optionLength cX3_optionLength 1 (some .int) 1 := ⟨tw585, tw544, tw56, tw545, by decide +kernel, by decide +kernel⟩
theorem mwX0_141 : MWv RX0 141 RX0 yX0_eventOfPacket cX0_eventOfPacket 1 (some (.object "LineTalk$Event")) 0 := ⟨tw586, tw588, tw17, tw54, tw589, rfl, by decide +kernel, by decide +kernel⟩
theorem mwX0_193 : MWv RX0 193 RX0 yX0_composeAnswer cX0_composeAnswer 3 none 0 := ⟨tw592, tw594, tw18, tw54, tw595, rfl, by decide +kernel, by decide +kernel⟩
theorem mwX0_232 : MWv RX0 232 RX0 yX0_answerCode cX0_answerCode 3 (some .int) 0 := ⟨tw596, tw598, tw19, tw54, tw599, rfl, by decide +kernel, by decide +kernel⟩
theorem mwX0_235 : MWv RX0 235 RX0 yX0_optionAnswer cX0_optionAnswer 4 (some .int) 1 := ⟨tw600, tw602, tw20, tw54, tw603, rfl, by decide +kernel, by decide +kernel⟩
theorem mwX0_241 : MWs RX0 241 yJ9_max_7cf53 cJ9_max_7cf53 2 (some .int) 2 := ⟨tw604, tw605, tw70, tw606, by decide +kernel, by decide +kernel⟩
theorem mwX0_238 : MWv RX0 238 RX0 yX0_answerOption cX0_answerOption 5 none 2 := ⟨tw607, tw609, tw21, tw54, tw610, rfl, by decide +kernel, by decide +kernel⟩
theorem mwX0_214 : MWv RX0 214 RX0 yX0_refusesNegotiation cX0_refusesNegotiation 2 (some .boolean) 0 := ⟨tw624, tw626, tw22, tw54, tw627, rfl, by decide +kernel, by decide +kernel⟩
theorem mwX0_121 : MWv RX0 121 RX0 yX0_happen cX0_happen 7 none 1 := ⟨tw638, tw347, tw348, tw54, tw349, rfl, by decide +kernel, by decide +kernel⟩
theorem mwX0_145 : MWv RX0 145 RX4 yX4_clear cX4_clear 1 none 0 := ⟨tw639, tw640, tw641, tw55, tw642, rfl, by decide +kernel, by decide +kernel⟩
theorem mwL_26 : MWv RL 26 RX5 yX5_tick cX5_tick 4 (some .int) 1 := ⟨tw646, tw647, tw648, tw52, tw649, rfl, by decide +kernel, by decide +kernel⟩
theorem mwX5_106 : MWv RX5 106 RX0 yX0_timerIsOver cX0_timerIsOver 1 (some .boolean) 0 := ⟨tw650, tw651, tw652, tw54, tw653, rfl, by decide +kernel, by decide +kernel⟩
theorem mwL_30 : MWv RL 30 RX5 yX5_put cX5_put 4 (some .int) 2 := ⟨tw661, tw662, tw663, tw52, tw664, rfl, by decide +kernel, by decide +kernel⟩
theorem mwX5_109 : MWs RX5 109 yX5_isByte cX5_isByte 1 (some .boolean) 1 := ⟨tw665, tw666, tw52, tw667, by decide +kernel, by decide +kernel⟩
theorem mwX5_112 : MWv RX5 112 RX2 yX2_append cX2_append 2 none 1 := ⟨tw668, tw461, tw462, tw53, tw463, rfl, by decide +kernel, by decide +kernel⟩
theorem mwL_33 : MWv RL 33 RX5 yX5_damage cX5_damage 5 (some .int) 3 := ⟨tw672, tw673, tw674, tw52, tw675, rfl, by decide +kernel, by decide +kernel⟩
theorem mwX5_115 : MWv RX5 115 RX2 yX2_has cX2_has 2 (some .boolean) 1 := ⟨tw676, tw677, tw678, tw53, tw679, rfl, by decide +kernel, by decide +kernel⟩
theorem mwX5_121 : MWv RX5 121 RX2 yX2_flip cX2_flip 5 (some .int) 2 := ⟨tw680, tw681, tw682, tw53, tw683, rfl, by decide +kernel, by decide +kernel⟩
theorem mwL_37 : MWv RL 37 RX5 yX5_lose cX5_lose 5 (some .int) 2 := ⟨tw687, tw688, tw689, tw52, tw690, rfl, by decide +kernel, by decide +kernel⟩
theorem mwX5_125 : MWs RX5 125 yJ9_min_7cf53 cJ9_min_7cf53 2 (some .int) 2 := ⟨tw691, tw692, tw70, tw693, by decide +kernel, by decide +kernel⟩
theorem mwX5_130 : MWv RX5 130 RX2 yX2_drop cX2_drop 2 none 1 := ⟨tw694, tw503, tw504, tw53, tw505, rfl, by decide +kernel, by decide +kernel⟩
theorem mwL_40 : MWv RL 40 RX5 yX5_loop cX5_loop 5 (some .boolean) 2 := ⟨tw698, tw699, tw700, tw52, tw701, rfl, by decide +kernel, by decide +kernel⟩
theorem mwL_44 : MWv RL 44 RX5 yX5_send cX5_send 5 (some .int) 3 := ⟨tw705, tw706, tw707, tw52, tw708, rfl, by decide +kernel, by decide +kernel⟩
theorem mwX5_133 : MWv RX5 133 RX0 yX0_sendData cX0_sendData 4 none 2 := ⟨tw709, tw710, tw711, tw54, tw712, rfl, by decide +kernel, by decide +kernel⟩
theorem mwL_47 : MWv RL 47 RX5 yX5_echo cX5_echo 3 (some .int) 1 := ⟨tw716, tw717, tw718, tw52, tw719, rfl, by decide +kernel, by decide +kernel⟩
theorem mwX5_140 : MWv RX5 140 RX0 yX0_sendEcho cX0_sendEcho 1 none 0 := ⟨tw720, tw721, tw722, tw54, tw723, rfl, by decide +kernel, by decide +kernel⟩
theorem mwL_50 : MWv RL 50 RX5 yX5_data cX5_data 4 (some .int) 2 := ⟨tw727, tw728, tw729, tw52, tw730, rfl, by decide +kernel, by decide +kernel⟩
theorem mwX5_150 : MWv RX5 150 RX3 yX3_end cX3_end 1 (some .int) 0 := ⟨tw731, tw528, tw529, tw56, tw530, rfl, by decide +kernel, by decide +kernel⟩
theorem mwX5_155 : MWv RX5 155 RX3 yX3_at cX3_at 2 (some .int) 1 := ⟨tw732, tw474, tw475, tw56, tw476, rfl, by decide +kernel, by decide +kernel⟩
theorem mwL_53 : MWv RL 53 RX5 yX5_look cX5_look 4 (some .int) 2 := ⟨tw736, tw737, tw738, tw52, tw739, rfl, by decide +kernel, by decide +kernel⟩
theorem mwL_56 : MWv RL 56 RX5 yX5_about cX5_about 4 (some .int) 2 := ⟨tw743, tw744, tw745, tw52, tw746, rfl, by decide +kernel, by decide +kernel⟩
theorem mwL_59 : MWv RL 59 RX5 yX5_count cX5_count 4 (some .int) 2 := ⟨tw750, tw751, tw752, tw52, tw753, rfl, by decide +kernel, by decide +kernel⟩
theorem mwL_72 : MWv RL 72 RX6 yX6_thrown cX6_thrown 1 (some .int) 0 := ⟨tw852, tw853, tw854, tw57, tw855, rfl, by decide +kernel, by decide +kernel⟩
theorem mwL_71 : MWv RL 71 RX6 yX6_set cX6_set 5 none 4 := ⟨tw856, tw857, tw858, tw57, tw859, rfl, by decide +kernel, by decide +kernel⟩
theorem mwX6_196 : MWs RX6 196 yX6_isEnd cX6_isEnd 1 (some .boolean) 1 := ⟨tw860, tw861, tw57, tw862, by decide +kernel, by decide +kernel⟩
theorem mwX6_87 : MWs RX6 87 yX6_in cX6_in 3 (some .boolean) 3 := ⟨tw863, tw864, tw57, tw865, by decide +kernel, by decide +kernel⟩
theorem mwL_79 : MWv RL 79 RX6 yX6_event cX6_event 3 (some .int) 2 := ⟨tw866, tw867, tw868, tw57, tw869, rfl, by decide +kernel, by decide +kernel⟩
theorem mwX6_178 : MWv RX6 178 RX6 yX6_happen cX6_happen 5 none 2 := ⟨tw870, tw872, tw23, tw57, tw873, rfl, by decide +kernel, by decide +kernel⟩
theorem mwX6_146 : MWv RX6 146 RX6 yX6_act cX6_act 3 none 2 := ⟨tw874, tw876, tw24, tw57, tw877, rfl, by decide +kernel, by decide +kernel⟩
theorem mwX6_137 : MWv RX6 137 RX6 yX6_request cX6_request 3 none 1 := ⟨tw878, tw880, tw25, tw57, tw881, rfl, by decide +kernel, by decide +kernel⟩
theorem mwX6_115 : MWv RX6 115 RX6 yX6_nextId cX6_nextId 2 (some .int) 1 := ⟨tw882, tw884, tw26, tw57, tw885, rfl, by decide +kernel, by decide +kernel⟩
theorem mwX6_119 : MWv RX6 119 RX6 yX6_begin cX6_begin 3 none 2 := ⟨tw886, tw888, tw27, tw57, tw889, rfl, by decide +kernel, by decide +kernel⟩
theorem mwX6_95 : MWv RX6 95 RX6 yX6_add cX6_add 2 none 1 := ⟨tw890, tw892, tw28, tw57, tw893, rfl, by decide +kernel, by decide +kernel⟩
theorem mwX6_122 : MWv RX6 122 RX6 yX6_addInt cX6_addInt 3 none 1 := ⟨tw894, tw896, tw29, tw57, tw897, rfl, by decide +kernel, by decide +kernel⟩
theorem mwX6_125 : MWv RX6 125 RX6 yX6_ship cX6_ship 5 none 1 := ⟨tw898, tw900, tw30, tw57, tw901, rfl, by decide +kernel, by decide +kernel⟩
theorem mwX6_100 : MWs RX6 100 yX6_check cX6_check 4 (some .int) 2 := ⟨tw903, tw904, tw57, tw905, by decide +kernel, by decide +kernel⟩
theorem mwX6_104 : MWs RX6 104 yX6_special cX6_special 1 (some .boolean) 1 := ⟨tw907, tw908, tw57, tw909, by decide +kernel, by decide +kernel⟩
theorem mwX6_108 : MWv RX6 108 RX6 yX6_tally cX6_tally 3 none 2 := ⟨tw910, tw912, tw31, tw57, tw913, rfl, by decide +kernel, by decide +kernel⟩
theorem mwX6_112 : MWv RX6 112 RX6 yX6_lay cX6_lay 3 none 2 := ⟨tw914, tw916, tw32, tw57, tw917, rfl, by decide +kernel, by decide +kernel⟩
theorem mwX6_140 : MWv RX6 140 RX6 yX6_reply cX6_reply 3 none 1 := ⟨tw918, tw920, tw33, tw57, tw921, rfl, by decide +kernel, by decide +kernel⟩
theorem mwL_82 : MWv RL 82 RX6 yX6_pass cX6_pass 6 (some .int) 2 := ⟨tw922, tw923, tw924, tw57, tw925, rfl, by decide +kernel, by decide +kernel⟩
theorem mwX6_199 : MWv RX6 199 RX6 yX6_take cX6_take 4 (some .int) 1 := ⟨tw926, tw928, tw34, tw57, tw929, rfl, by decide +kernel, by decide +kernel⟩
theorem mwX6_202 : MWv RX6 202 RX6 yX6_receive cX6_receive 4 none 2 := ⟨tw930, tw932, tw35, tw57, tw933, rfl, by decide +kernel, by decide +kernel⟩
theorem mwX6_193 : MWv RX6 193 RX6 yX6_whole cX6_whole 7 none 1 := ⟨tw934, tw936, tw36, tw57, tw937, rfl, by decide +kernel, by decide +kernel⟩
theorem mwX6_149 : MWv RX6 149 RX6 yX6_at cX6_at 3 (some .int) 2 := ⟨tw938, tw940, tw37, tw57, tw941, rfl, by decide +kernel, by decide +kernel⟩
theorem mwX6_184 : MWv RX6 184 RX6 yX6_keepData cX6_keepData 4 none 2 := ⟨tw942, tw944, tw38, tw57, tw945, rfl, by decide +kernel, by decide +kernel⟩
theorem mwX6_187 : MWv RX6 187 RX6 yX6_isControl cX6_isControl 4 (some .boolean) 2 := ⟨tw946, tw948, tw39, tw57, tw949, rfl, by decide +kernel, by decide +kernel⟩
theorem mwX6_155 : MWv RX6 155 RX6 yX6_areOptions cX6_areOptions 7 (some .boolean) 2 := ⟨tw950, tw952, tw40, tw57, tw953, rfl, by decide +kernel, by decide +kernel⟩
theorem mwX6_152 : MWs RX6 152 yX6_sizeOf cX6_sizeOf 1 (some .int) 1 := ⟨tw954, tw955, tw57, tw956, by decide +kernel, by decide +kernel⟩
theorem mwX6_190 : MWv RX6 190 RX6 yX6_control cX6_control 5 none 2 := ⟨tw957, tw959, tw41, tw57, tw960, rfl, by decide +kernel, by decide +kernel⟩
theorem mwX6_172 : MWv RX6 172 RX6 yX6_isRight cX6_isRight 5 (some .boolean) 2 := ⟨tw961, tw963, tw42, tw57, tw964, rfl, by decide +kernel, by decide +kernel⟩
theorem mwX6_175 : MWv RX6 175 RX6 yX6_weigh cX6_weigh 6 (some .boolean) 2 := ⟨tw965, tw967, tw43, tw57, tw968, rfl, by decide +kernel, by decide +kernel⟩
theorem mwX6_165 : MWv RX6 165 RX6 yX6_judge cX6_judge 5 (some .int) 2 := ⟨tw969, tw971, tw44, tw57, tw972, rfl, by decide +kernel, by decide +kernel⟩
theorem mwX6_159 : MWv RX6 159 RX6 yX6_intAt cX6_intAt 3 (some .int) 2 := ⟨tw973, tw975, tw45, tw57, tw976, rfl, by decide +kernel, by decide +kernel⟩
theorem mwX6_162 : MWv RX6 162 RX6 yX6_answerWith cX6_answerWith 2 none 1 := ⟨tw977, tw979, tw46, tw57, tw980, rfl, by decide +kernel, by decide +kernel⟩
theorem mwX6_169 : MWv RX6 169 RX6 yX6_answerInt cX6_answerInt 3 none 1 := ⟨tw982, tw984, tw47, tw57, tw985, rfl, by decide +kernel, by decide +kernel⟩
theorem mwX6_181 : MWv RX6 181 RX6 yX6_change cX6_change 6 none 2 := ⟨tw986, tw988, tw48, tw57, tw989, rfl, by decide +kernel, by decide +kernel⟩
theorem mwL_86 : MWv RL 86 RX6 yX6_tick cX6_tick 6 (some .int) 1 := ⟨tw990, tw991, tw992, tw57, tw993, rfl, by decide +kernel, by decide +kernel⟩
theorem mwL_89 : MWv RL 89 RX6 yX6_put cX6_put 3 (some .int) 2 := ⟨tw994, tw995, tw996, tw57, tw997, rfl, by decide +kernel, by decide +kernel⟩
theorem mwL_93 : MWv RL 93 RX6 yX6_damage cX6_damage 5 (some .int) 3 := ⟨tw998, tw999, tw1000, tw57, tw1001, rfl, by decide +kernel, by decide +kernel⟩
theorem mwX6_205 : MWv RX6 205 RX6 yX6_isByte cX6_isByte 3 (some .boolean) 2 := ⟨tw1002, tw1004, tw49, tw57, tw1005, rfl, by decide +kernel, by decide +kernel⟩
theorem mwL_96 : MWv RL 96 RX6 yX6_lose cX6_lose 6 (some .int) 2 := ⟨tw1006, tw1007, tw1008, tw57, tw1009, rfl, by decide +kernel, by decide +kernel⟩
theorem mwL_100 : MWv RL 100 RX6 yX6_loop cX6_loop 4 (some .boolean) 2 := ⟨tw1010, tw1011, tw1012, tw57, tw1013, rfl, by decide +kernel, by decide +kernel⟩
theorem mwL_103 : MWv RL 103 RX6 yX6_send cX6_send 5 (some .int) 3 := ⟨tw1014, tw1015, tw1016, tw57, tw1017, rfl, by decide +kernel, by decide +kernel⟩
theorem mwL_106 : MWv RL 106 RX6 yX6_echo cX6_echo 2 (some .int) 1 := ⟨tw1018, tw1019, tw1020, tw57, tw1021, rfl, by decide +kernel, by decide +kernel⟩
theorem mwL_109 : MWv RL 109 RX6 yX6_data cX6_data 3 (some .int) 2 := ⟨tw1022, tw1023, tw1024, tw57, tw1025, rfl, by decide +kernel, by decide +kernel⟩
theorem mwL_112 : MWv RL 112 RX6 yX6_look cX6_look 3 (some .int) 2 := ⟨tw1026, tw1027, tw1028, tw57, tw1029, rfl, by decide +kernel, by decide +kernel⟩
theorem mwL_115 : MWv RL 115 RX6 yX6_about cX6_about 3 (some .int) 2 := ⟨tw1030, tw1031, tw1032, tw57, tw1033, rfl, by decide +kernel, by decide +kernel⟩
theorem mwX6_208 : MWv RX6 208 RX6 yX6_asks cX6_asks 2 (some .int) 1 := ⟨tw1034, tw1036, tw50, tw57, tw1037, rfl, by decide +kernel, by decide +kernel⟩
theorem mwL_118 : MWv RL 118 RX6 yX6_count cX6_count 3 (some .int) 2 := ⟨tw1038, tw1039, tw1040, tw57, tw1041, rfl, by decide +kernel, by decide +kernel⟩
theorem mwL_123 : MWv RL 123 RX6 yX6_noise cX6_noise 5 (some .float) 0 := ⟨tw1042, tw1043, tw1044, tw57, tw1045, rfl, by decide +kernel, by decide +kernel⟩
