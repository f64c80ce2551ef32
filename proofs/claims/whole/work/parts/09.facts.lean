theorem bw_107 : (Jvm.Cond.classLink "HumUnheard" (9 : Nat) "HumUnheard$Shelf" : Cond) ∈ BW := bw 107 (by decide +kernel) rfl
theorem nX10_9a : ∀ z, Cond.classLink RX10 9 "HumUnheard$Shelf" ∈ (Cf z).1 ∧ Cond.arrayOver (.object "HumUnheard$Shelf") ∈ (Cf z).2.1 := fun z => ⟨bw_107, nw 108 (by decide +kernel) rfl⟩
theorem bw_450 : (Jvm.Cond.fieldLink "HumUnheard" (11 : Nat) "HumUnheard" "shelves" "[LHumUnheard$Shelf;" : Cond) ∈ BW := bw 450 (by decide +kernel) rfl
theorem fX10_11 : ∀ z, xFd (Cf z) RX10 11 10 0 := fun z => ⟨(RX10, TX10, 8), rfl, by decide, bw_450⟩
theorem bw_451 : (Jvm.Cond.fieldLink "HumUnheard" (18 : Nat) "HumUnheard" "seeker" "LHumUnheard$Seeker;" : Cond) ∈ BW := bw 451 (by decide +kernel) rfl
theorem fX10_18 : ∀ z, xFd (Cf z) RX10 18 10 1 := fun z => ⟨(RX10, TX10, 8), rfl, by decide, bw_451⟩
theorem bw_346 : (Jvm.Cond.fieldLink "HumUnheard" (22 : Nat) "HumUnheard$Seeker" "town" "LHumUnheard$Town;" : Cond) ∈ BW := bw 346 (by decide +kernel) rfl
theorem fX10_22 : ∀ z, xFd (Cf z) RX10 22 6 0 := fun z => ⟨(RX6, TX6, 8), rfl, by decide, bw_346⟩
theorem bw_452 : (Jvm.Cond.fieldLink "HumUnheard" (26 : Nat) "HumUnheard" "town" "LHumUnheard$Town;" : Cond) ∈ BW := bw 452 (by decide +kernel) rfl
theorem fX10_26 : ∀ z, xFd (Cf z) RX10 26 10 2 := fun z => ⟨(RX10, TX10, 8), rfl, by decide, bw_452⟩
theorem bw_453 : (Jvm.Cond.fieldLink "HumUnheard" (30 : Nat) "HumUnheard" "kept" "LHumUnheard$Town;" : Cond) ∈ BW := bw 453 (by decide +kernel) rfl
theorem fX10_30 : ∀ z, xFd (Cf z) RX10 30 10 3 := fun z => ⟨(RX10, TX10, 8), rfl, by decide, bw_453⟩
theorem bw_454 : (Jvm.Cond.fieldLink "HumUnheard" (36 : Nat) "HumUnheard" "reader" "LHumUnheard$Reader;" : Cond) ∈ BW := bw 454 (by decide +kernel) rfl
theorem fX10_36 : ∀ z, xFd (Cf z) RX10 36 10 4 := fun z => ⟨(RX10, TX10, 8), rfl, by decide, bw_454⟩
theorem bw_455 : (Jvm.Cond.fieldLink "HumUnheard" (43 : Nat) "HumUnheard" "acts" "LHumUnheard$Acts;" : Cond) ∈ BW := bw 455 (by decide +kernel) rfl
theorem fX10_43 : ∀ z, xFd (Cf z) RX10 43 10 5 := fun z => ⟨(RX10, TX10, 8), rfl, by decide, bw_455⟩
theorem bw_456 : (Jvm.Cond.fieldLink "HumUnheard" (47 : Nat) "HumUnheard" "refusals" "[I" : Cond) ∈ BW := bw 456 (by decide +kernel) rfl
theorem fX10_47 : ∀ z, xFd (Cf z) RX10 47 10 6 := fun z => ⟨(RX10, TX10, 8), rfl, by decide, bw_456⟩
theorem bw_457 : (Jvm.Cond.fieldLink "HumUnheard" (51 : Nat) "HumUnheard" "hasImage" "Z" : Cond) ∈ BW := bw 457 (by decide +kernel) rfl
theorem fX10_51 : ∀ z, xFd (Cf z) RX10 51 10 7 := fun z => ⟨(RX10, TX10, 8), rfl, by decide, bw_457⟩
theorem bw_301 : (Jvm.Cond.fieldLink "HumUnheard" (118 : Nat) "HumUnheard$Town" "sources" "[LHumUnheard$Source;" : Cond) ∈ BW := bw 301 (by decide +kernel) rfl
theorem fX10_118 : ∀ z, xFd (Cf z) RX10 118 9 7 := fun z => ⟨(RX9, TX9, 14), rfl, by decide, bw_301⟩
theorem bw_287 : (Jvm.Cond.fieldLink "HumUnheard" (141 : Nat) "HumUnheard$Town" "personCount" "I" : Cond) ∈ BW := bw 287 (by decide +kernel) rfl
theorem fX10_141 : ∀ z, xFd (Cf z) RX10 141 9 1 := fun z => ⟨(RX9, TX9, 14), rfl, by decide, bw_287⟩
theorem bw_299 : (Jvm.Cond.fieldLink "HumUnheard" (152 : Nat) "HumUnheard$Town" "people" "[LHumUnheard$Person;" : Cond) ∈ BW := bw 299 (by decide +kernel) rfl
theorem fX10_152 : ∀ z, xFd (Cf z) RX10 152 9 6 := fun z => ⟨(RX9, TX9, 14), rfl, by decide, bw_299⟩
theorem bw_195 : (Jvm.Cond.fieldLink "HumUnheard" (156 : Nat) "HumUnheard$Person" "spot" "I" : Cond) ∈ BW := bw 195 (by decide +kernel) rfl
theorem fX10_156 : ∀ z, xFd (Cf z) RX10 156 3 0 := fun z => ⟨(RX3, TX3, 5), rfl, by decide, bw_195⟩
theorem bw_290 : (Jvm.Cond.fieldLink "HumUnheard" (161 : Nat) "HumUnheard$Town" "sourceCount" "I" : Cond) ∈ BW := bw 290 (by decide +kernel) rfl
theorem fX10_161 : ∀ z, xFd (Cf z) RX10 161 9 2 := fun z => ⟨(RX9, TX9, 14), rfl, by decide, bw_290⟩
theorem bw_233 : (Jvm.Cond.fieldLink "HumUnheard" (177 : Nat) "HumUnheard$Source" "price" "I" : Cond) ∈ BW := bw 233 (by decide +kernel) rfl
theorem fX10_177 : ∀ z, xFd (Cf z) RX10 177 8 6 := fun z => ⟨(RX8, TX8, 8), rfl, by decide, bw_233⟩
theorem bw_296 : (Jvm.Cond.fieldLink "HumUnheard" (180 : Nat) "HumUnheard$Town" "offByHand" "I" : Cond) ∈ BW := bw 296 (by decide +kernel) rfl
theorem fX10_180 : ∀ z, xFd (Cf z) RX10 180 9 5 := fun z => ⟨(RX9, TX9, 14), rfl, by decide, bw_296⟩
theorem bw_310 : (Jvm.Cond.fieldLink "HumUnheard" (186 : Nat) "HumUnheard$Town" "sizes" "[I" : Cond) ∈ BW := bw 310 (by decide +kernel) rfl
theorem fX10_186 : ∀ z, xFd (Cf z) RX10 186 9 11 := fun z => ⟨(RX9, TX9, 14), rfl, by decide, bw_310⟩
theorem bw_312 : (Jvm.Cond.fieldLink "HumUnheard" (189 : Nat) "HumUnheard$Town" "storms" "[I" : Cond) ∈ BW := bw 312 (by decide +kernel) rfl
theorem fX10_189 : ∀ z, xFd (Cf z) RX10 189 9 12 := fun z => ⟨(RX9, TX9, 14), rfl, by decide, bw_312⟩
theorem bw_284 : (Jvm.Cond.fieldLink "HumUnheard" (192 : Nat) "HumUnheard$Town" "now" "I" : Cond) ∈ BW := bw 284 (by decide +kernel) rfl
theorem fX10_192 : ∀ z, xFd (Cf z) RX10 192 9 0 := fun z => ⟨(RX9, TX9, 14), rfl, by decide, bw_284⟩
theorem bw_315 : (Jvm.Cond.fieldLink "HumUnheard" (198 : Nat) "HumUnheard$Town" "laws" "[I" : Cond) ∈ BW := bw 315 (by decide +kernel) rfl
theorem fX10_198 : ∀ z, xFd (Cf z) RX10 198 9 13 := fun z => ⟨(RX9, TX9, 14), rfl, by decide, bw_315⟩
theorem bw_392 : (Jvm.Cond.fieldLink "HumUnheard" (205 : Nat) "HumUnheard$Reader" "lawsRead" "[I" : Cond) ∈ BW := bw 392 (by decide +kernel) rfl
theorem fX10_205 : ∀ z, xFd (Cf z) RX10 205 5 6 := fun z => ⟨(RX5, TX5, 8), rfl, by decide, bw_392⟩
theorem bw_390 : (Jvm.Cond.fieldLink "HumUnheard" (214 : Nat) "HumUnheard$Reader" "lawsTold" "I" : Cond) ∈ BW := bw 390 (by decide +kernel) rfl
theorem fX10_214 : ∀ z, xFd (Cf z) RX10 214 5 5 := fun z => ⟨(RX5, TX5, 8), rfl, by decide, bw_390⟩
theorem bw_292 : (Jvm.Cond.fieldLink "HumUnheard" (221 : Nat) "HumUnheard$Town" "planCount" "I" : Cond) ∈ BW := bw 292 (by decide +kernel) rfl
theorem fX10_221 : ∀ z, xFd (Cf z) RX10 221 9 3 := fun z => ⟨(RX9, TX9, 14), rfl, by decide, bw_292⟩
theorem bw_394 : (Jvm.Cond.fieldLink "HumUnheard" (224 : Nat) "HumUnheard$Reader" "planRead" "LHumUnheard$Plan;" : Cond) ∈ BW := bw 394 (by decide +kernel) rfl
theorem fX10_224 : ∀ z, xFd (Cf z) RX10 224 5 7 := fun z => ⟨(RX5, TX5, 8), rfl, by decide, bw_394⟩
theorem bw_388 : (Jvm.Cond.fieldLink "HumUnheard" (232 : Nat) "HumUnheard$Reader" "faultFound" "I" : Cond) ∈ BW := bw 388 (by decide +kernel) rfl
theorem fX10_232 : ∀ z, xFd (Cf z) RX10 232 5 4 := fun z => ⟨(RX5, TX5, 8), rfl, by decide, bw_388⟩
theorem bw_294 : (Jvm.Cond.fieldLink "HumUnheard" (235 : Nat) "HumUnheard$Town" "planInForce" "I" : Cond) ∈ BW := bw 294 (by decide +kernel) rfl
theorem fX10_235 : ∀ z, xFd (Cf z) RX10 235 9 4 := fun z => ⟨(RX9, TX9, 14), rfl, by decide, bw_294⟩
theorem bw_306 : (Jvm.Cond.fieldLink "HumUnheard" (256 : Nat) "HumUnheard$Town" "diary" "LHumUnheard$Diary;" : Cond) ∈ BW := bw 306 (by decide +kernel) rfl
theorem fX10_256 : ∀ z, xFd (Cf z) RX10 256 9 9 := fun z => ⟨(RX9, TX9, 14), rfl, by decide, bw_306⟩
theorem bw_136 : (Jvm.Cond.fieldLink "HumUnheard" (260 : Nat) "HumUnheard$Diary" "presses" "I" : Cond) ∈ BW := bw 136 (by decide +kernel) rfl
theorem fX10_260 : ∀ z, xFd (Cf z) RX10 260 1 1 := fun z => ⟨(RX1, TX1, 7), rfl, by decide, bw_136⟩
theorem bw_138 : (Jvm.Cond.fieldLink "HumUnheard" (275 : Nat) "HumUnheard$Diary" "matches" "I" : Cond) ∈ BW := bw 138 (by decide +kernel) rfl
theorem fX10_275 : ∀ z, xFd (Cf z) RX10 275 1 2 := fun z => ⟨(RX1, TX1, 7), rfl, by decide, bw_138⟩
theorem bw_308 : (Jvm.Cond.fieldLink "HumUnheard" (281 : Nat) "HumUnheard$Town" "letters" "LHumUnheard$Letters;" : Cond) ∈ BW := bw 308 (by decide +kernel) rfl
theorem fX10_281 : ∀ z, xFd (Cf z) RX10 281 9 10 := fun z => ⟨(RX9, TX9, 14), rfl, by decide, bw_308⟩
theorem bw_171 : (Jvm.Cond.fieldLink "HumUnheard" (285 : Nat) "HumUnheard$Letters" "count" "I" : Cond) ∈ BW := bw 171 (by decide +kernel) rfl
theorem fX10_285 : ∀ z, xFd (Cf z) RX10 285 2 0 := fun z => ⟨(RX2, TX2, 4), rfl, by decide, bw_171⟩
theorem bw_348 : (Jvm.Cond.fieldLink "HumUnheard" (297 : Nat) "HumUnheard$Seeker" "worths" "[J" : Cond) ∈ BW := bw 348 (by decide +kernel) rfl
theorem fX10_297 : ∀ z, xFd (Cf z) RX10 297 6 1 := fun z => ⟨(RX6, TX6, 8), rfl, by decide, bw_348⟩
theorem bw_423 : (Jvm.Cond.fieldLink "HumUnheard" (365 : Nat) "HumUnheard$Acts" "ran" "I" : Cond) ∈ BW := bw 423 (by decide +kernel) rfl
theorem fX10_365 : ∀ z, xFd (Cf z) RX10 365 0 4 := fun z => ⟨(RX0, TX0, 5), rfl, by decide, bw_423⟩
theorem bw_104 : (Jvm.Cond.methodLink "HumUnheard" (3 : Nat) ({ cls := "java/lang/Object", name := "<init>", desc := "()V" } : Jvm.MethodName) : Cond) ∈ BW := bw 104 (by decide +kernel) rfl
theorem gX10_3 : ∀ z, Cond.methodLink RX10 3 objectInit ∈ (Cf z).1 := fun z => bw_104
theorem bw_81 : (Jvm.Cond.initialized "HumUnheard$Seeker" : Cond) ∈ BW := bw 81 (by decide +kernel) rfl
theorem bw_113 : (Jvm.Cond.code ({ cls := "HumUnheard$Seeker", name := "<init>", desc := "()V" } : Jvm.MethodName) prog_8_method_1_code (1 : Nat) (Option.none : Option Jvm.ClassFile.FieldType) : Cond) ∈ BW := bw 113 (by decide +kernel) rfl
theorem cmX6_init : ∀ z, xCm (Cf z) MX6_init 0 := fun z => ⟨bw_81, bw_113, by decide +kernel, by decide, by decide +kernel⟩
theorem bw_112 : (Jvm.Cond.instanceMethod ({ cls := "HumUnheard$Seeker", name := "<init>", desc := "()V" } : Jvm.MethodName) : Cond) ∈ BW := bw 112 (by decide +kernel) rfl
theorem gX10_17 : ∀ z, xCi (Cf z) RX10 17 MX6_init 0 ∨ ∃ h, xCiN (Cf z) RX10 17 MX6_init 0 h := fun z => Or.inr ⟨"HumUnheard", cmX6_init z, nw 111 (by decide +kernel) rfl, bw_112, rfl, rfl⟩
theorem bw_82 : (Jvm.Cond.initialized "HumUnheard$Town" : Cond) ∈ BW := bw 82 (by decide +kernel) rfl
theorem bw_119 : (Jvm.Cond.code ({ cls := "HumUnheard$Town", name := "<init>", desc := "()V" } : Jvm.MethodName) prog_11_method_1_code (2 : Nat) (Option.none : Option Jvm.ClassFile.FieldType) : Cond) ∈ BW := bw 119 (by decide +kernel) rfl
theorem cmX9_init : ∀ z, xCm (Cf z) MX9_init 0 := fun z => ⟨bw_82, bw_119, by decide +kernel, by decide, by decide +kernel⟩
theorem bw_374 : (Jvm.Cond.methodLink "HumUnheard" (29 : Nat) ({ cls := "HumUnheard$Town", name := "<init>", desc := "()V" } : Jvm.MethodName) : Cond) ∈ BW := bw 374 (by decide +kernel) rfl
theorem bw_118 : (Jvm.Cond.instanceMethod ({ cls := "HumUnheard$Town", name := "<init>", desc := "()V" } : Jvm.MethodName) : Cond) ∈ BW := bw 118 (by decide +kernel) rfl
theorem gX10_29 : ∀ z, xCi (Cf z) RX10 29 MX9_init 0 ∨ ∃ h, xCiN (Cf z) RX10 29 MX9_init 0 h := fun z => Or.inl ⟨cmX9_init z, bw_374, bw_118, rfl, rfl⟩
theorem bw_89 : (Jvm.Cond.initialized "HumUnheard$Reader" : Cond) ∈ BW := bw 89 (by decide +kernel) rfl
theorem bw_379 : (Jvm.Cond.code ({ cls := "HumUnheard$Reader", name := "<init>", desc := "()V" } : Jvm.MethodName) prog_7_method_1_code (1 : Nat) (Option.none : Option Jvm.ClassFile.FieldType) : Cond) ∈ BW := bw 379 (by decide +kernel) rfl
theorem cmX5_init : ∀ z, xCm (Cf z) MX5_init 0 := fun z => ⟨bw_89, bw_379, by decide +kernel, by decide, by decide +kernel⟩
theorem bw_378 : (Jvm.Cond.instanceMethod ({ cls := "HumUnheard$Reader", name := "<init>", desc := "()V" } : Jvm.MethodName) : Cond) ∈ BW := bw 378 (by decide +kernel) rfl
theorem gX10_35 : ∀ z, xCi (Cf z) RX10 35 MX5_init 0 ∨ ∃ h, xCiN (Cf z) RX10 35 MX5_init 0 h := fun z => Or.inr ⟨"HumUnheard", cmX5_init z, nw 377 (by decide +kernel) rfl, bw_378, rfl, rfl⟩
theorem bw_90 : (Jvm.Cond.initialized "HumUnheard$Acts" : Cond) ∈ BW := bw 90 (by decide +kernel) rfl
theorem bw_416 : (Jvm.Cond.code ({ cls := "HumUnheard$Acts", name := "<init>", desc := "()V" } : Jvm.MethodName) prog_2_method_1_code (1 : Nat) (Option.none : Option Jvm.ClassFile.FieldType) : Cond) ∈ BW := bw 416 (by decide +kernel) rfl
theorem cmX0_init : ∀ z, xCm (Cf z) MX0_init 0 := fun z => ⟨bw_90, bw_416, by decide +kernel, by decide, by decide +kernel⟩
theorem bw_415 : (Jvm.Cond.instanceMethod ({ cls := "HumUnheard$Acts", name := "<init>", desc := "()V" } : Jvm.MethodName) : Cond) ∈ BW := bw 415 (by decide +kernel) rfl
theorem gX10_42 : ∀ z, xCi (Cf z) RX10 42 MX0_init 0 ∨ ∃ h, xCiN (Cf z) RX10 42 MX0_init 0 h := fun z => Or.inr ⟨"HumUnheard", cmX0_init z, nw 414 (by decide +kernel) rfl, bw_415, rfl, rfl⟩
theorem bw_91 : (Jvm.Cond.initialized "HumUnheard$Shelf" : Cond) ∈ BW := bw 91 (by decide +kernel) rfl
theorem bw_438 : (Jvm.Cond.code ({ cls := "HumUnheard$Shelf", name := "<init>", desc := "()V" } : Jvm.MethodName) prog_9_method_1_code (1 : Nat) (Option.none : Option Jvm.ClassFile.FieldType) : Cond) ∈ BW := bw 438 (by decide +kernel) rfl
theorem cmX7_init : ∀ z, xCm (Cf z) MX7_init 0 := fun z => ⟨bw_91, bw_438, by decide +kernel, by decide, by decide +kernel⟩
theorem bw_437 : (Jvm.Cond.instanceMethod ({ cls := "HumUnheard$Shelf", name := "<init>", desc := "()V" } : Jvm.MethodName) : Cond) ∈ BW := bw 437 (by decide +kernel) rfl
theorem gX10_55 : ∀ z, xCi (Cf z) RX10 55 MX7_init 0 ∨ ∃ h, xCiN (Cf z) RX10 55 MX7_init 0 h := fun z => Or.inr ⟨"HumUnheard", cmX7_init z, nw 436 (by decide +kernel) rfl, bw_437, rfl, rfl⟩
theorem bw_80 : (Jvm.Cond.initialized "HumUnheard" : Cond) ∈ BW := bw 80 (by decide +kernel) rfl
theorem bw_481 : (Jvm.Cond.code ({ cls := "HumUnheard", name := "isShelf", desc := "(I)Z" } : Jvm.MethodName) prog_1_method_54_code (1 : Nat) (Option.some Jvm.ClassFile.FieldType.boolean) : Cond) ∈ BW := bw 481 (by decide +kernel) rfl
theorem cmX10_isShelf : ∀ z, xCm (Cf z) MX10_isShelf 1 := fun z => ⟨bw_80, bw_481, by decide +kernel, by decide, by decide +kernel⟩
theorem bw_479 : (Jvm.Cond.methodLink "HumUnheard" (56 : Nat) ({ cls := "HumUnheard", name := "isShelf", desc := "(I)Z" } : Jvm.MethodName) : Cond) ∈ BW := bw 479 (by decide +kernel) rfl
theorem bw_480 : (Jvm.Cond.static ({ cls := "HumUnheard", name := "isShelf", desc := "(I)Z" } : Jvm.MethodName) : Cond) ∈ BW := bw 480 (by decide +kernel) rfl
theorem gX10_56 : ∀ z, xCs (Cf z) RX10 56 MX10_isShelf 1 ∨ ∃ h, xCsN (Cf z) RX10 56 MX10_isShelf 1 h := fun z => Or.inl ⟨cmX10_isShelf z, bw_479, bw_480⟩
theorem bw_608 : (Jvm.Cond.code ({ cls := "HumUnheard", name := "isSpot", desc := "(I)Z" } : Jvm.MethodName) prog_1_method_55_code (1 : Nat) (Option.some Jvm.ClassFile.FieldType.boolean) : Cond) ∈ BW := bw 608 (by decide +kernel) rfl
theorem cmX10_isSpot : ∀ z, xCm (Cf z) MX10_isSpot 1 := fun z => ⟨bw_80, bw_608, by decide +kernel, by decide, by decide +kernel⟩
theorem bw_606 : (Jvm.Cond.methodLink "HumUnheard" (131 : Nat) ({ cls := "HumUnheard", name := "isSpot", desc := "(I)Z" } : Jvm.MethodName) : Cond) ∈ BW := bw 606 (by decide +kernel) rfl
theorem bw_607 : (Jvm.Cond.static ({ cls := "HumUnheard", name := "isSpot", desc := "(I)Z" } : Jvm.MethodName) : Cond) ∈ BW := bw 607 (by decide +kernel) rfl
theorem gX10_131 : ∀ z, xCs (Cf z) RX10 131 MX10_isSpot 1 ∨ ∃ h, xCsN (Cf z) RX10 131 MX10_isSpot 1 h := fun z => Or.inl ⟨cmX10_isSpot z, bw_606, bw_607⟩
theorem bw_611 : (Jvm.Cond.code ({ cls := "HumUnheard", name := "isTone", desc := "(I)Z" } : Jvm.MethodName) prog_1_method_56_code (1 : Nat) (Option.some Jvm.ClassFile.FieldType.boolean) : Cond) ∈ BW := bw 611 (by decide +kernel) rfl
theorem cmX10_isTone : ∀ z, xCm (Cf z) MX10_isTone 1 := fun z => ⟨bw_80, bw_611, by decide +kernel, by decide, by decide +kernel⟩
theorem bw_609 : (Jvm.Cond.methodLink "HumUnheard" (134 : Nat) ({ cls := "HumUnheard", name := "isTone", desc := "(I)Z" } : Jvm.MethodName) : Cond) ∈ BW := bw 609 (by decide +kernel) rfl
theorem bw_610 : (Jvm.Cond.static ({ cls := "HumUnheard", name := "isTone", desc := "(I)Z" } : Jvm.MethodName) : Cond) ∈ BW := bw 610 (by decide +kernel) rfl
theorem gX10_134 : ∀ z, xCs (Cf z) RX10 134 MX10_isTone 1 ∨ ∃ h, xCsN (Cf z) RX10 134 MX10_isTone 1 h := fun z => Or.inl ⟨cmX10_isTone z, bw_609, bw_610⟩
theorem bw_484 : (Jvm.Cond.code ({ cls := "HumUnheard", name := "isWithin", desc := "(III)Z" } : Jvm.MethodName) prog_1_method_53_code (3 : Nat) (Option.some Jvm.ClassFile.FieldType.boolean) : Cond) ∈ BW := bw 484 (by decide +kernel) rfl
theorem cmX10_isWithin : ∀ z, xCm (Cf z) MX10_isWithin 3 := fun z => ⟨bw_80, bw_484, by decide +kernel, by decide, by decide +kernel⟩
theorem bw_482 : (Jvm.Cond.methodLink "HumUnheard" (137 : Nat) ({ cls := "HumUnheard", name := "isWithin", desc := "(III)Z" } : Jvm.MethodName) : Cond) ∈ BW := bw 482 (by decide +kernel) rfl
theorem bw_483 : (Jvm.Cond.static ({ cls := "HumUnheard", name := "isWithin", desc := "(III)Z" } : Jvm.MethodName) : Cond) ∈ BW := bw 483 (by decide +kernel) rfl
theorem gX10_137 : ∀ z, xCs (Cf z) RX10 137 MX10_isWithin 3 ∨ ∃ h, xCsN (Cf z) RX10 137 MX10_isWithin 3 h := fun z => Or.inl ⟨cmX10_isWithin z, bw_482, bw_483⟩
theorem bw_648 : (Jvm.Cond.code ({ cls := "HumUnheard", name := "bit", desc := "(I)I" } : Jvm.MethodName) prog_1_method_59_code (1 : Nat) (Option.some Jvm.ClassFile.FieldType.int) : Cond) ∈ BW := bw 648 (by decide +kernel) rfl
theorem cmX10_bit : ∀ z, xCm (Cf z) MX10_bit 1 := fun z => ⟨bw_80, bw_648, by decide +kernel, by decide, by decide +kernel⟩
theorem bw_662 : (Jvm.Cond.methodLink "HumUnheard" (183 : Nat) ({ cls := "HumUnheard", name := "bit", desc := "(I)I" } : Jvm.MethodName) : Cond) ∈ BW := bw 662 (by decide +kernel) rfl
theorem bw_647 : (Jvm.Cond.static ({ cls := "HumUnheard", name := "bit", desc := "(I)I" } : Jvm.MethodName) : Cond) ∈ BW := bw 647 (by decide +kernel) rfl
theorem gX10_183 : ∀ z, xCs (Cf z) RX10 183 MX10_bit 1 ∨ ∃ h, xCsN (Cf z) RX10 183 MX10_bit 1 h := fun z => Or.inl ⟨cmX10_bit z, bw_662, bw_647⟩
theorem bw_677 : (Jvm.Cond.code ({ cls := "HumUnheard", name := "isHour", desc := "(I)Z" } : Jvm.MethodName) prog_1_method_57_code (1 : Nat) (Option.some Jvm.ClassFile.FieldType.boolean) : Cond) ∈ BW := bw 677 (by decide +kernel) rfl
theorem cmX10_isHour : ∀ z, xCm (Cf z) MX10_isHour 1 := fun z => ⟨bw_80, bw_677, by decide +kernel, by decide, by decide +kernel⟩
theorem bw_675 : (Jvm.Cond.methodLink "HumUnheard" (195 : Nat) ({ cls := "HumUnheard", name := "isHour", desc := "(I)Z" } : Jvm.MethodName) : Cond) ∈ BW := bw 675 (by decide +kernel) rfl
theorem bw_676 : (Jvm.Cond.static ({ cls := "HumUnheard", name := "isHour", desc := "(I)Z" } : Jvm.MethodName) : Cond) ∈ BW := bw 676 (by decide +kernel) rfl
theorem gX10_195 : ∀ z, xCs (Cf z) RX10 195 MX10_isHour 1 ∨ ∃ h, xCsN (Cf z) RX10 195 MX10_isHour 1 h := fun z => Or.inl ⟨cmX10_isHour z, bw_675, bw_676⟩
theorem bw_798 : (Jvm.Cond.methodLink "HumUnheard" (208 : Nat) ({ cls := "java/lang/System", name := "arraycopy", desc := "(Ljava/lang/Object;ILjava/lang/Object;II)V" } : Jvm.MethodName) : Cond) ∈ BW := bw 798 (by decide +kernel) rfl
theorem bw_282 : (Jvm.Cond.native ({ cls := "java/lang/System", name := "arraycopy", desc := "(Ljava/lang/Object;ILjava/lang/Object;II)V" } : Jvm.MethodName) : Cond) ∈ BW := bw 282 (by decide +kernel) rfl
theorem bw_281 : (Jvm.Cond.static ({ cls := "java/lang/System", name := "arraycopy", desc := "(Ljava/lang/Object;ILjava/lang/Object;II)V" } : Jvm.MethodName) : Cond) ∈ BW := bw 281 (by decide +kernel) rfl
theorem bw_88 : (Jvm.Cond.initialized "java/lang/System" : Cond) ∈ BW := bw 88 (by decide +kernel) rfl
theorem gX10_208 : ∀ z, xCp (Cf z) RX10 208 := fun z => ⟨bw_798, bw_282, bw_281, bw_88⟩
theorem bw_878 : (Jvm.Cond.code ({ cls := "HumUnheard", name := "hasBit", desc := "(II)Z" } : Jvm.MethodName) prog_1_method_60_code (2 : Nat) (Option.some Jvm.ClassFile.FieldType.boolean) : Cond) ∈ BW := bw 878 (by decide +kernel) rfl
theorem cmX10_hasBit : ∀ z, xCm (Cf z) MX10_hasBit 2 := fun z => ⟨bw_80, bw_878, by decide +kernel, by decide, by decide +kernel⟩
theorem bw_883 : (Jvm.Cond.methodLink "HumUnheard" (241 : Nat) ({ cls := "HumUnheard", name := "hasBit", desc := "(II)Z" } : Jvm.MethodName) : Cond) ∈ BW := bw 883 (by decide +kernel) rfl
theorem bw_877 : (Jvm.Cond.static ({ cls := "HumUnheard", name := "hasBit", desc := "(II)Z" } : Jvm.MethodName) : Cond) ∈ BW := bw 877 (by decide +kernel) rfl
theorem gX10_241 : ∀ z, xCs (Cf z) RX10 241 MX10_hasBit 2 ∨ ∃ h, xCsN (Cf z) RX10 241 MX10_hasBit 2 h := fun z => Or.inl ⟨cmX10_hasBit z, bw_883, bw_877⟩
theorem bw_1065 : (Jvm.Cond.code ({ cls := "HumUnheard", name := "areHours", desc := "(II)Z" } : Jvm.MethodName) prog_1_method_58_code (2 : Nat) (Option.some Jvm.ClassFile.FieldType.boolean) : Cond) ∈ BW := bw 1065 (by decide +kernel) rfl
theorem cmX10_areHours : ∀ z, xCm (Cf z) MX10_areHours 2 := fun z => ⟨bw_80, bw_1065, by decide +kernel, by decide, by decide +kernel⟩
theorem bw_1063 : (Jvm.Cond.methodLink "HumUnheard" (322 : Nat) ({ cls := "HumUnheard", name := "areHours", desc := "(II)Z" } : Jvm.MethodName) : Cond) ∈ BW := bw 1063 (by decide +kernel) rfl
theorem bw_1064 : (Jvm.Cond.static ({ cls := "HumUnheard", name := "areHours", desc := "(II)Z" } : Jvm.MethodName) : Cond) ∈ BW := bw 1064 (by decide +kernel) rfl
theorem gX10_322 : ∀ z, xCs (Cf z) RX10 322 MX10_areHours 2 ∨ ∃ h, xCsN (Cf z) RX10 322 MX10_areHours 2 h := fun z => Or.inl ⟨cmX10_areHours z, bw_1063, bw_1064⟩
theorem bw_1110 : (Jvm.Cond.code ({ cls := "HumUnheard", name := "doublingsTo", desc := "(I)I" } : Jvm.MethodName) prog_1_method_63_code (2 : Nat) (Option.some Jvm.ClassFile.FieldType.int) : Cond) ∈ BW := bw 1110 (by decide +kernel) rfl
theorem cmX10_doublingsTo : ∀ z, xCm (Cf z) MX10_doublingsTo 1 := fun z => ⟨bw_80, bw_1110, by decide +kernel, by decide, by decide +kernel⟩
theorem bw_1108 : (Jvm.Cond.methodLink "HumUnheard" (333 : Nat) ({ cls := "HumUnheard", name := "doublingsTo", desc := "(I)I" } : Jvm.MethodName) : Cond) ∈ BW := bw 1108 (by decide +kernel) rfl
theorem bw_1109 : (Jvm.Cond.static ({ cls := "HumUnheard", name := "doublingsTo", desc := "(I)I" } : Jvm.MethodName) : Cond) ∈ BW := bw 1109 (by decide +kernel) rfl
theorem gX10_333 : ∀ z, xCs (Cf z) RX10 333 MX10_doublingsTo 1 ∨ ∃ h, xCsN (Cf z) RX10 333 MX10_doublingsTo 1 h := fun z => Or.inl ⟨cmX10_doublingsTo z, bw_1108, bw_1109⟩
theorem bw_643 : (Jvm.Cond.methodLink "HumUnheard" (368 : Nat) ({ cls := "java/lang/Math", name := "abs", desc := "(I)I" } : Jvm.MethodName) : Cond) ∈ BW := bw 643 (by decide +kernel) rfl
theorem bw_644 : (Jvm.Cond.static ({ cls := "java/lang/Math", name := "abs", desc := "(I)I" } : Jvm.MethodName) : Cond) ∈ BW := bw 644 (by decide +kernel) rfl
theorem bw_93 : (Jvm.Cond.initialized "java/lang/Math" : Cond) ∈ BW := bw 93 (by decide +kernel) rfl
theorem gX10_368 : ∀ z, xMp (Cf z) RX10 368 Lib.Math.abs.name Lib.Math.abs.code 1 := fun z => ⟨bw_643, bw_644, bw_93, bw 645 (by decide +kernel) rfl⟩
theorem bw_488 : (Jvm.Cond.code ({ cls := "HumUnheard", name := "refuse", desc := "(I)I" } : Jvm.MethodName) prog_1_method_51_code (2 : Nat) (Option.some Jvm.ClassFile.FieldType.int) : Cond) ∈ BW := bw 488 (by decide +kernel) rfl
theorem cmX10_refuse : ∀ z, xCm (Cf z) MX10_refuse 1 := fun z => ⟨bw_80, bw_488, by decide +kernel, by decide, by decide +kernel⟩
theorem bw_485 : (Jvm.Cond.methodLink "HumUnheard" (60 : Nat) ({ cls := "HumUnheard", name := "refuse", desc := "(I)I" } : Jvm.MethodName) : Cond) ∈ BW := bw 485 (by decide +kernel) rfl
theorem bw_487 : (Jvm.Cond.instanceMethod ({ cls := "HumUnheard", name := "refuse", desc := "(I)I" } : Jvm.MethodName) : Cond) ∈ BW := bw 487 (by decide +kernel) rfl
theorem bw_0 : Cond.selects "HumUnheard" ⟨"HumUnheard", "refuse", "(I)I"⟩ ⟨"HumUnheard", "refuse", "(I)I"⟩ ∈ BW := bw 0 (by decide +kernel) rfl
theorem gX10_60 : ∀ z, xCv (Cf z) RX10 60 MX10_refuse 1 := fun z => ⟨cmX10_refuse z, bw_485, bw_487, bw_0⟩
theorem bw_492 : (Jvm.Cond.code ({ cls := "HumUnheard$Shelf", name := "takeRow", desc := "(II)V" } : Jvm.MethodName) prog_9_method_10_code (4 : Nat) (Option.none : Option Jvm.ClassFile.FieldType) : Cond) ∈ BW := bw 492 (by decide +kernel) rfl
theorem cmX7_takeRow : ∀ z, xCm (Cf z) MX7_takeRow 2 := fun z => ⟨bw_91, bw_492, by decide +kernel, by decide, by decide +kernel⟩
theorem bw_489 : (Jvm.Cond.methodLink "HumUnheard" (64 : Nat) ({ cls := "HumUnheard$Shelf", name := "takeRow", desc := "(II)V" } : Jvm.MethodName) : Cond) ∈ BW := bw 489 (by decide +kernel) rfl
theorem bw_490 : (Jvm.Cond.instanceMethod ({ cls := "HumUnheard$Shelf", name := "takeRow", desc := "(II)V" } : Jvm.MethodName) : Cond) ∈ BW := bw 490 (by decide +kernel) rfl
theorem bw_491 : (Jvm.Cond.selects "HumUnheard$Shelf" ({ cls := "HumUnheard$Shelf", name := "takeRow", desc := "(II)V" } : Jvm.MethodName) ({ cls := "HumUnheard$Shelf", name := "takeRow", desc := "(II)V" } : Jvm.MethodName) : Cond) ∈ BW := bw 491 (by decide +kernel) rfl
theorem gX10_64 : ∀ z, xCv (Cf z) RX10 64 MX7_takeRow 2 := fun z => ⟨cmX7_takeRow z, bw_489, bw_490, bw_491⟩
theorem bw_500 : (Jvm.Cond.code ({ cls := "HumUnheard", name := "refusalOfRow", desc := "(I)I" } : Jvm.MethodName) prog_1_method_52_code (2 : Nat) (Option.some Jvm.ClassFile.FieldType.int) : Cond) ∈ BW := bw 500 (by decide +kernel) rfl
theorem cmX10_refusalOfRow : ∀ z, xCm (Cf z) MX10_refusalOfRow 1 := fun z => ⟨bw_80, bw_500, by decide +kernel, by decide, by decide +kernel⟩
theorem bw_497 : (Jvm.Cond.methodLink "HumUnheard" (68 : Nat) ({ cls := "HumUnheard", name := "refusalOfRow", desc := "(I)I" } : Jvm.MethodName) : Cond) ∈ BW := bw 497 (by decide +kernel) rfl
theorem bw_499 : (Jvm.Cond.instanceMethod ({ cls := "HumUnheard", name := "refusalOfRow", desc := "(I)I" } : Jvm.MethodName) : Cond) ∈ BW := bw 499 (by decide +kernel) rfl
theorem bw_1 : Cond.selects "HumUnheard" ⟨"HumUnheard", "refusalOfRow", "(I)I"⟩ ⟨"HumUnheard", "refusalOfRow", "(I)I"⟩ ∈ BW := bw 1 (by decide +kernel) rfl
theorem gX10_68 : ∀ z, xCv (Cf z) RX10 68 MX10_refusalOfRow 1 := fun z => ⟨cmX10_refusalOfRow z, bw_497, bw_499, bw_1⟩
theorem bw_517 : (Jvm.Cond.code ({ cls := "HumUnheard$Shelf", name := "hasElement", desc := "(I)Z" } : Jvm.MethodName) prog_9_method_11_code (2 : Nat) (Option.some Jvm.ClassFile.FieldType.boolean) : Cond) ∈ BW := bw 517 (by decide +kernel) rfl
theorem cmX7_hasElement : ∀ z, xCm (Cf z) MX7_hasElement 1 := fun z => ⟨bw_91, bw_517, by decide +kernel, by decide, by decide +kernel⟩
theorem bw_514 : (Jvm.Cond.methodLink "HumUnheard" (71 : Nat) ({ cls := "HumUnheard$Shelf", name := "hasElement", desc := "(I)Z" } : Jvm.MethodName) : Cond) ∈ BW := bw 514 (by decide +kernel) rfl
theorem bw_515 : (Jvm.Cond.instanceMethod ({ cls := "HumUnheard$Shelf", name := "hasElement", desc := "(I)Z" } : Jvm.MethodName) : Cond) ∈ BW := bw 515 (by decide +kernel) rfl
theorem bw_516 : (Jvm.Cond.selects "HumUnheard$Shelf" ({ cls := "HumUnheard$Shelf", name := "hasElement", desc := "(I)Z" } : Jvm.MethodName) ({ cls := "HumUnheard$Shelf", name := "hasElement", desc := "(I)Z" } : Jvm.MethodName) : Cond) ∈ BW := bw 516 (by decide +kernel) rfl
theorem gX10_71 : ∀ z, xCv (Cf z) RX10 71 MX7_hasElement 1 := fun z => ⟨cmX7_hasElement z, bw_514, bw_515, bw_516⟩
theorem bw_521 : (Jvm.Cond.code ({ cls := "HumUnheard$Shelf", name := "put", desc := "(IJ)V" } : Jvm.MethodName) prog_9_method_15_code (4 : Nat) (Option.none : Option Jvm.ClassFile.FieldType) : Cond) ∈ BW := bw 521 (by decide +kernel) rfl
theorem cmX7_put : ∀ z, xCm (Cf z) MX7_put 2 := fun z => ⟨bw_91, bw_521, by decide +kernel, by decide, by decide +kernel⟩
theorem bw_518 : (Jvm.Cond.methodLink "HumUnheard" (74 : Nat) ({ cls := "HumUnheard$Shelf", name := "put", desc := "(IJ)V" } : Jvm.MethodName) : Cond) ∈ BW := bw 518 (by decide +kernel) rfl
theorem bw_519 : (Jvm.Cond.instanceMethod ({ cls := "HumUnheard$Shelf", name := "put", desc := "(IJ)V" } : Jvm.MethodName) : Cond) ∈ BW := bw 519 (by decide +kernel) rfl
theorem bw_520 : (Jvm.Cond.selects "HumUnheard$Shelf" ({ cls := "HumUnheard$Shelf", name := "put", desc := "(IJ)V" } : Jvm.MethodName) ({ cls := "HumUnheard$Shelf", name := "put", desc := "(IJ)V" } : Jvm.MethodName) : Cond) ∈ BW := bw 520 (by decide +kernel) rfl
theorem gX10_74 : ∀ z, xCv (Cf z) RX10 74 MX7_put 2 := fun z => ⟨cmX7_put z, bw_518, bw_519, bw_520⟩
theorem bw_504 : (Jvm.Cond.code ({ cls := "HumUnheard$Shelf", name := "holdsSource", desc := "()Z" } : Jvm.MethodName) prog_9_method_6_code (1 : Nat) (Option.some Jvm.ClassFile.FieldType.boolean) : Cond) ∈ BW := bw 504 (by decide +kernel) rfl
theorem cmX7_holdsSource : ∀ z, xCm (Cf z) MX7_holdsSource 0 := fun z => ⟨bw_91, bw_504, by decide +kernel, by decide, by decide +kernel⟩
theorem bw_501 : (Jvm.Cond.methodLink "HumUnheard" (78 : Nat) ({ cls := "HumUnheard$Shelf", name := "holdsSource", desc := "()Z" } : Jvm.MethodName) : Cond) ∈ BW := bw 501 (by decide +kernel) rfl
theorem bw_502 : (Jvm.Cond.instanceMethod ({ cls := "HumUnheard$Shelf", name := "holdsSource", desc := "()Z" } : Jvm.MethodName) : Cond) ∈ BW := bw 502 (by decide +kernel) rfl
theorem bw_503 : (Jvm.Cond.selects "HumUnheard$Shelf" ({ cls := "HumUnheard$Shelf", name := "holdsSource", desc := "()Z" } : Jvm.MethodName) ({ cls := "HumUnheard$Shelf", name := "holdsSource", desc := "()Z" } : Jvm.MethodName) : Cond) ∈ BW := bw 503 (by decide +kernel) rfl
theorem gX10_78 : ∀ z, xCv (Cf z) RX10 78 MX7_holdsSource 0 := fun z => ⟨cmX7_holdsSource z, bw_501, bw_502, bw_503⟩
theorem bw_534 : (Jvm.Cond.code ({ cls := "HumUnheard$Shelf", name := "isOfOtherSort", desc := "(LHumUnheard$Shelf;)Z" } : Jvm.MethodName) prog_9_method_7_code (2 : Nat) (Option.some Jvm.ClassFile.FieldType.boolean) : Cond) ∈ BW := bw 534 (by decide +kernel) rfl
theorem cmX7_isOfOtherSort : ∀ z, xCm (Cf z) MX7_isOfOtherSort 1 := fun z => ⟨bw_91, bw_534, by decide +kernel, by decide, by decide +kernel⟩
theorem bw_531 : (Jvm.Cond.methodLink "HumUnheard" (82 : Nat) ({ cls := "HumUnheard$Shelf", name := "isOfOtherSort", desc := "(LHumUnheard$Shelf;)Z" } : Jvm.MethodName) : Cond) ∈ BW := bw 531 (by decide +kernel) rfl
theorem bw_532 : (Jvm.Cond.instanceMethod ({ cls := "HumUnheard$Shelf", name := "isOfOtherSort", desc := "(LHumUnheard$Shelf;)Z" } : Jvm.MethodName) : Cond) ∈ BW := bw 532 (by decide +kernel) rfl
theorem bw_533 : (Jvm.Cond.selects "HumUnheard$Shelf" ({ cls := "HumUnheard$Shelf", name := "isOfOtherSort", desc := "(LHumUnheard$Shelf;)Z" } : Jvm.MethodName) ({ cls := "HumUnheard$Shelf", name := "isOfOtherSort", desc := "(LHumUnheard$Shelf;)Z" } : Jvm.MethodName) : Cond) ∈ BW := bw 533 (by decide +kernel) rfl
theorem gX10_82 : ∀ z, xCv (Cf z) RX10 82 MX7_isOfOtherSort 1 := fun z => ⟨cmX7_isOfOtherSort z, bw_531, bw_532, bw_533⟩
theorem bw_508 : (Jvm.Cond.code ({ cls := "HumUnheard$Shelf", name := "holdsNothing", desc := "()Z" } : Jvm.MethodName) prog_9_method_4_code (1 : Nat) (Option.some Jvm.ClassFile.FieldType.boolean) : Cond) ∈ BW := bw 508 (by decide +kernel) rfl
theorem cmX7_holdsNothing : ∀ z, xCm (Cf z) MX7_holdsNothing 0 := fun z => ⟨bw_91, bw_508, by decide +kernel, by decide, by decide +kernel⟩
theorem bw_513 : (Jvm.Cond.methodLink "HumUnheard" (86 : Nat) ({ cls := "HumUnheard$Shelf", name := "holdsNothing", desc := "()Z" } : Jvm.MethodName) : Cond) ∈ BW := bw 513 (by decide +kernel) rfl
theorem bw_506 : (Jvm.Cond.instanceMethod ({ cls := "HumUnheard$Shelf", name := "holdsNothing", desc := "()Z" } : Jvm.MethodName) : Cond) ∈ BW := bw 506 (by decide +kernel) rfl
theorem bw_507 : (Jvm.Cond.selects "HumUnheard$Shelf" ({ cls := "HumUnheard$Shelf", name := "holdsNothing", desc := "()Z" } : Jvm.MethodName) ({ cls := "HumUnheard$Shelf", name := "holdsNothing", desc := "()Z" } : Jvm.MethodName) : Cond) ∈ BW := bw 507 (by decide +kernel) rfl
theorem gX10_86 : ∀ z, xCv (Cf z) RX10 86 MX7_holdsNothing 0 := fun z => ⟨cmX7_holdsNothing z, bw_513, bw_506, bw_507⟩
theorem bw_538 : (Jvm.Cond.code ({ cls := "HumUnheard$Shelf", name := "hasElements", desc := "(II)Z" } : Jvm.MethodName) prog_9_method_12_code (3 : Nat) (Option.some Jvm.ClassFile.FieldType.boolean) : Cond) ∈ BW := bw 538 (by decide +kernel) rfl
theorem cmX7_hasElements : ∀ z, xCm (Cf z) MX7_hasElements 2 := fun z => ⟨bw_91, bw_538, by decide +kernel, by decide, by decide +kernel⟩
theorem bw_535 : (Jvm.Cond.methodLink "HumUnheard" (89 : Nat) ({ cls := "HumUnheard$Shelf", name := "hasElements", desc := "(II)Z" } : Jvm.MethodName) : Cond) ∈ BW := bw 535 (by decide +kernel) rfl
theorem bw_536 : (Jvm.Cond.instanceMethod ({ cls := "HumUnheard$Shelf", name := "hasElements", desc := "(II)Z" } : Jvm.MethodName) : Cond) ∈ BW := bw 536 (by decide +kernel) rfl
theorem bw_537 : (Jvm.Cond.selects "HumUnheard$Shelf" ({ cls := "HumUnheard$Shelf", name := "hasElements", desc := "(II)Z" } : Jvm.MethodName) ({ cls := "HumUnheard$Shelf", name := "hasElements", desc := "(II)Z" } : Jvm.MethodName) : Cond) ∈ BW := bw 537 (by decide +kernel) rfl
theorem gX10_89 : ∀ z, xCv (Cf z) RX10 89 MX7_hasElements 2 := fun z => ⟨cmX7_hasElements z, bw_535, bw_536, bw_537⟩
theorem bw_542 : (Jvm.Cond.code ({ cls := "HumUnheard$Shelf", name := "copyElements", desc := "(ILHumUnheard$Shelf;II)V" } : Jvm.MethodName) prog_9_method_17_code (5 : Nat) (Option.none : Option Jvm.ClassFile.FieldType) : Cond) ∈ BW := bw 542 (by decide +kernel) rfl
theorem cmX7_copyElements : ∀ z, xCm (Cf z) MX7_copyElements 4 := fun z => ⟨bw_91, bw_542, by decide +kernel, by decide, by decide +kernel⟩
theorem bw_539 : (Jvm.Cond.methodLink "HumUnheard" (93 : Nat) ({ cls := "HumUnheard$Shelf", name := "copyElements", desc := "(ILHumUnheard$Shelf;II)V" } : Jvm.MethodName) : Cond) ∈ BW := bw 539 (by decide +kernel) rfl
theorem bw_540 : (Jvm.Cond.instanceMethod ({ cls := "HumUnheard$Shelf", name := "copyElements", desc := "(ILHumUnheard$Shelf;II)V" } : Jvm.MethodName) : Cond) ∈ BW := bw 540 (by decide +kernel) rfl
theorem bw_541 : (Jvm.Cond.selects "HumUnheard$Shelf" ({ cls := "HumUnheard$Shelf", name := "copyElements", desc := "(ILHumUnheard$Shelf;II)V" } : Jvm.MethodName) ({ cls := "HumUnheard$Shelf", name := "copyElements", desc := "(ILHumUnheard$Shelf;II)V" } : Jvm.MethodName) : Cond) ∈ BW := bw 541 (by decide +kernel) rfl
theorem gX10_93 : ∀ z, xCv (Cf z) RX10 93 MX7_copyElements 4 := fun z => ⟨cmX7_copyElements z, bw_539, bw_540, bw_541⟩
theorem bw_552 : (Jvm.Cond.code ({ cls := "HumUnheard$Shelf", name := "elementAt", desc := "(I)J" } : Jvm.MethodName) prog_9_method_13_code (2 : Nat) (Option.some Jvm.ClassFile.FieldType.long) : Cond) ∈ BW := bw 552 (by decide +kernel) rfl
theorem cmX7_elementAt : ∀ z, xCm (Cf z) MX7_elementAt 1 := fun z => ⟨bw_91, bw_552, by decide +kernel, by decide, by decide +kernel⟩
theorem bw_549 : (Jvm.Cond.methodLink "HumUnheard" (97 : Nat) ({ cls := "HumUnheard$Shelf", name := "elementAt", desc := "(I)J" } : Jvm.MethodName) : Cond) ∈ BW := bw 549 (by decide +kernel) rfl
theorem bw_550 : (Jvm.Cond.instanceMethod ({ cls := "HumUnheard$Shelf", name := "elementAt", desc := "(I)J" } : Jvm.MethodName) : Cond) ∈ BW := bw 550 (by decide +kernel) rfl
theorem bw_551 : (Jvm.Cond.selects "HumUnheard$Shelf" ({ cls := "HumUnheard$Shelf", name := "elementAt", desc := "(I)J" } : Jvm.MethodName) ({ cls := "HumUnheard$Shelf", name := "elementAt", desc := "(I)J" } : Jvm.MethodName) : Cond) ∈ BW := bw 551 (by decide +kernel) rfl
theorem gX10_97 : ∀ z, xCv (Cf z) RX10 97 MX7_elementAt 1 := fun z => ⟨cmX7_elementAt z, bw_549, bw_550, bw_551⟩
theorem bw_560 : (Jvm.Cond.code ({ cls := "HumUnheard$Town", name := "isSource", desc := "(I)Z" } : Jvm.MethodName) prog_11_method_4_code (2 : Nat) (Option.some Jvm.ClassFile.FieldType.boolean) : Cond) ∈ BW := bw 560 (by decide +kernel) rfl
theorem cmX9_isSource : ∀ z, xCm (Cf z) MX9_isSource 1 := fun z => ⟨bw_82, bw_560, by decide +kernel, by decide, by decide +kernel⟩
theorem bw_557 : (Jvm.Cond.methodLink "HumUnheard" (101 : Nat) ({ cls := "HumUnheard$Town", name := "isSource", desc := "(I)Z" } : Jvm.MethodName) : Cond) ∈ BW := bw 557 (by decide +kernel) rfl
theorem bw_558 : (Jvm.Cond.instanceMethod ({ cls := "HumUnheard$Town", name := "isSource", desc := "(I)Z" } : Jvm.MethodName) : Cond) ∈ BW := bw 558 (by decide +kernel) rfl
theorem bw_559 : (Jvm.Cond.selects "HumUnheard$Town" ({ cls := "HumUnheard$Town", name := "isSource", desc := "(I)Z" } : Jvm.MethodName) ({ cls := "HumUnheard$Town", name := "isSource", desc := "(I)Z" } : Jvm.MethodName) : Cond) ∈ BW := bw 559 (by decide +kernel) rfl
theorem gX10_101 : ∀ z, xCv (Cf z) RX10 101 MX9_isSource 1 := fun z => ⟨cmX9_isSource z, bw_557, bw_558, bw_559⟩
theorem bw_564 : (Jvm.Cond.code ({ cls := "HumUnheard$Shelf", name := "becomeEmpty", desc := "()V" } : Jvm.MethodName) prog_9_method_8_code (1 : Nat) (Option.none : Option Jvm.ClassFile.FieldType) : Cond) ∈ BW := bw 564 (by decide +kernel) rfl
theorem cmX7_becomeEmpty : ∀ z, xCm (Cf z) MX7_becomeEmpty 0 := fun z => ⟨bw_91, bw_564, by decide +kernel, by decide, by decide +kernel⟩
theorem bw_561 : (Jvm.Cond.methodLink "HumUnheard" (104 : Nat) ({ cls := "HumUnheard$Shelf", name := "becomeEmpty", desc := "()V" } : Jvm.MethodName) : Cond) ∈ BW := bw 561 (by decide +kernel) rfl
theorem bw_562 : (Jvm.Cond.instanceMethod ({ cls := "HumUnheard$Shelf", name := "becomeEmpty", desc := "()V" } : Jvm.MethodName) : Cond) ∈ BW := bw 562 (by decide +kernel) rfl
theorem bw_563 : (Jvm.Cond.selects "HumUnheard$Shelf" ({ cls := "HumUnheard$Shelf", name := "becomeEmpty", desc := "()V" } : Jvm.MethodName) ({ cls := "HumUnheard$Shelf", name := "becomeEmpty", desc := "()V" } : Jvm.MethodName) : Cond) ∈ BW := bw 563 (by decide +kernel) rfl
theorem gX10_104 : ∀ z, xCv (Cf z) RX10 104 MX7_becomeEmpty 0 := fun z => ⟨cmX7_becomeEmpty z, bw_561, bw_562, bw_563⟩
theorem bw_568 : (Jvm.Cond.code ({ cls := "HumUnheard$Shelf", name := "takeSource", desc := "(I)V" } : Jvm.MethodName) prog_9_method_9_code (2 : Nat) (Option.none : Option Jvm.ClassFile.FieldType) : Cond) ∈ BW := bw 568 (by decide +kernel) rfl
theorem cmX7_takeSource : ∀ z, xCm (Cf z) MX7_takeSource 1 := fun z => ⟨bw_91, bw_568, by decide +kernel, by decide, by decide +kernel⟩
theorem bw_565 : (Jvm.Cond.methodLink "HumUnheard" (107 : Nat) ({ cls := "HumUnheard$Shelf", name := "takeSource", desc := "(I)V" } : Jvm.MethodName) : Cond) ∈ BW := bw 565 (by decide +kernel) rfl
theorem bw_566 : (Jvm.Cond.instanceMethod ({ cls := "HumUnheard$Shelf", name := "takeSource", desc := "(I)V" } : Jvm.MethodName) : Cond) ∈ BW := bw 566 (by decide +kernel) rfl
theorem bw_567 : (Jvm.Cond.selects "HumUnheard$Shelf" ({ cls := "HumUnheard$Shelf", name := "takeSource", desc := "(I)V" } : Jvm.MethodName) ({ cls := "HumUnheard$Shelf", name := "takeSource", desc := "(I)V" } : Jvm.MethodName) : Cond) ∈ BW := bw 567 (by decide +kernel) rfl
theorem gX10_107 : ∀ z, xCv (Cf z) RX10 107 MX7_takeSource 1 := fun z => ⟨cmX7_takeSource z, bw_565, bw_566, bw_567⟩
theorem bw_576 : (Jvm.Cond.code ({ cls := "HumUnheard$Shelf", name := "content", desc := "()I" } : Jvm.MethodName) prog_9_method_2_code (1 : Nat) (Option.some Jvm.ClassFile.FieldType.int) : Cond) ∈ BW := bw 576 (by decide +kernel) rfl
theorem cmX7_content : ∀ z, xCm (Cf z) MX7_content 0 := fun z => ⟨bw_91, bw_576, by decide +kernel, by decide, by decide +kernel⟩
theorem bw_573 : (Jvm.Cond.methodLink "HumUnheard" (111 : Nat) ({ cls := "HumUnheard$Shelf", name := "content", desc := "()I" } : Jvm.MethodName) : Cond) ∈ BW := bw 573 (by decide +kernel) rfl
theorem bw_574 : (Jvm.Cond.instanceMethod ({ cls := "HumUnheard$Shelf", name := "content", desc := "()I" } : Jvm.MethodName) : Cond) ∈ BW := bw 574 (by decide +kernel) rfl
theorem bw_575 : (Jvm.Cond.selects "HumUnheard$Shelf" ({ cls := "HumUnheard$Shelf", name := "content", desc := "()I" } : Jvm.MethodName) ({ cls := "HumUnheard$Shelf", name := "content", desc := "()I" } : Jvm.MethodName) : Cond) ∈ BW := bw 575 (by decide +kernel) rfl
theorem gX10_111 : ∀ z, xCv (Cf z) RX10 111 MX7_content 0 := fun z => ⟨cmX7_content z, bw_573, bw_574, bw_575⟩
theorem bw_512 : (Jvm.Cond.code ({ cls := "HumUnheard$Shelf", name := "holdsRow", desc := "()Z" } : Jvm.MethodName) prog_9_method_5_code (1 : Nat) (Option.some Jvm.ClassFile.FieldType.boolean) : Cond) ∈ BW := bw 512 (by decide +kernel) rfl
theorem cmX7_holdsRow : ∀ z, xCm (Cf z) MX7_holdsRow 0 := fun z => ⟨bw_91, bw_512, by decide +kernel, by decide, by decide +kernel⟩
theorem bw_581 : (Jvm.Cond.methodLink "HumUnheard" (115 : Nat) ({ cls := "HumUnheard$Shelf", name := "holdsRow", desc := "()Z" } : Jvm.MethodName) : Cond) ∈ BW := bw 581 (by decide +kernel) rfl
theorem bw_510 : (Jvm.Cond.instanceMethod ({ cls := "HumUnheard$Shelf", name := "holdsRow", desc := "()Z" } : Jvm.MethodName) : Cond) ∈ BW := bw 510 (by decide +kernel) rfl
theorem bw_511 : (Jvm.Cond.selects "HumUnheard$Shelf" ({ cls := "HumUnheard$Shelf", name := "holdsRow", desc := "()Z" } : Jvm.MethodName) ({ cls := "HumUnheard$Shelf", name := "holdsRow", desc := "()Z" } : Jvm.MethodName) : Cond) ∈ BW := bw 511 (by decide +kernel) rfl
theorem gX10_115 : ∀ z, xCv (Cf z) RX10 115 MX7_holdsRow 0 := fun z => ⟨cmX7_holdsRow z, bw_581, bw_510, bw_511⟩
theorem bw_86 : (Jvm.Cond.initialized "HumUnheard$Source" : Cond) ∈ BW := bw 86 (by decide +kernel) rfl
theorem bw_585 : (Jvm.Cond.code ({ cls := "HumUnheard$Source", name := "isOfKind", desc := "(I)Z" } : Jvm.MethodName) prog_10_method_6_code (2 : Nat) (Option.some Jvm.ClassFile.FieldType.boolean) : Cond) ∈ BW := bw 585 (by decide +kernel) rfl
theorem cmX8_isOfKind : ∀ z, xCm (Cf z) MX8_isOfKind 1 := fun z => ⟨bw_86, bw_585, by decide +kernel, by decide, by decide +kernel⟩
theorem bw_582 : (Jvm.Cond.methodLink "HumUnheard" (122 : Nat) ({ cls := "HumUnheard$Source", name := "isOfKind", desc := "(I)Z" } : Jvm.MethodName) : Cond) ∈ BW := bw 582 (by decide +kernel) rfl
theorem bw_583 : (Jvm.Cond.instanceMethod ({ cls := "HumUnheard$Source", name := "isOfKind", desc := "(I)Z" } : Jvm.MethodName) : Cond) ∈ BW := bw 583 (by decide +kernel) rfl
theorem bw_584 : (Jvm.Cond.selects "HumUnheard$Source" ({ cls := "HumUnheard$Source", name := "isOfKind", desc := "(I)Z" } : Jvm.MethodName) ({ cls := "HumUnheard$Source", name := "isOfKind", desc := "(I)Z" } : Jvm.MethodName) : Cond) ∈ BW := bw 584 (by decide +kernel) rfl
theorem gX10_122 : ∀ z, xCv (Cf z) RX10 122 MX8_isOfKind 1 := fun z => ⟨cmX8_isOfKind z, bw_582, bw_583, bw_584⟩
theorem bw_593 : (Jvm.Cond.code ({ cls := "HumUnheard$Town", name := "wordOf", desc := "(II)I" } : Jvm.MethodName) prog_11_method_10_code (4 : Nat) (Option.some Jvm.ClassFile.FieldType.int) : Cond) ∈ BW := bw 593 (by decide +kernel) rfl
theorem cmX9_wordOf : ∀ z, xCm (Cf z) MX9_wordOf 2 := fun z => ⟨bw_82, bw_593, by decide +kernel, by decide, by decide +kernel⟩
theorem bw_590 : (Jvm.Cond.methodLink "HumUnheard" (127 : Nat) ({ cls := "HumUnheard$Town", name := "wordOf", desc := "(II)I" } : Jvm.MethodName) : Cond) ∈ BW := bw 590 (by decide +kernel) rfl
theorem bw_591 : (Jvm.Cond.instanceMethod ({ cls := "HumUnheard$Town", name := "wordOf", desc := "(II)I" } : Jvm.MethodName) : Cond) ∈ BW := bw 591 (by decide +kernel) rfl
theorem bw_592 : (Jvm.Cond.selects "HumUnheard$Town" ({ cls := "HumUnheard$Town", name := "wordOf", desc := "(II)I" } : Jvm.MethodName) ({ cls := "HumUnheard$Town", name := "wordOf", desc := "(II)I" } : Jvm.MethodName) : Cond) ∈ BW := bw 592 (by decide +kernel) rfl
theorem gX10_127 : ∀ z, xCv (Cf z) RX10 127 MX9_wordOf 2 := fun z => ⟨cmX9_wordOf z, bw_590, bw_591, bw_592⟩
theorem bw_615 : (Jvm.Cond.code ({ cls := "HumUnheard$Town", name := "addPerson", desc := "(IIIIZ)I" } : Jvm.MethodName) prog_11_method_6_code (6 : Nat) (Option.some Jvm.ClassFile.FieldType.int) : Cond) ∈ BW := bw 615 (by decide +kernel) rfl
theorem cmX9_addPerson : ∀ z, xCm (Cf z) MX9_addPerson 5 := fun z => ⟨bw_82, bw_615, by decide +kernel, by decide, by decide +kernel⟩
theorem bw_612 : (Jvm.Cond.methodLink "HumUnheard" (145 : Nat) ({ cls := "HumUnheard$Town", name := "addPerson", desc := "(IIIIZ)I" } : Jvm.MethodName) : Cond) ∈ BW := bw 612 (by decide +kernel) rfl
theorem bw_613 : (Jvm.Cond.instanceMethod ({ cls := "HumUnheard$Town", name := "addPerson", desc := "(IIIIZ)I" } : Jvm.MethodName) : Cond) ∈ BW := bw 613 (by decide +kernel) rfl
theorem bw_614 : (Jvm.Cond.selects "HumUnheard$Town" ({ cls := "HumUnheard$Town", name := "addPerson", desc := "(IIIIZ)I" } : Jvm.MethodName) ({ cls := "HumUnheard$Town", name := "addPerson", desc := "(IIIIZ)I" } : Jvm.MethodName) : Cond) ∈ BW := bw 614 (by decide +kernel) rfl
theorem gX10_145 : ∀ z, xCv (Cf z) RX10 145 MX9_addPerson 5 := fun z => ⟨cmX9_addPerson z, bw_612, bw_613, bw_614⟩
theorem bw_627 : (Jvm.Cond.code ({ cls := "HumUnheard$Town", name := "isPerson", desc := "(I)Z" } : Jvm.MethodName) prog_11_method_3_code (2 : Nat) (Option.some Jvm.ClassFile.FieldType.boolean) : Cond) ∈ BW := bw 627 (by decide +kernel) rfl
theorem cmX9_isPerson : ∀ z, xCm (Cf z) MX9_isPerson 1 := fun z => ⟨bw_82, bw_627, by decide +kernel, by decide, by decide +kernel⟩
theorem bw_624 : (Jvm.Cond.methodLink "HumUnheard" (149 : Nat) ({ cls := "HumUnheard$Town", name := "isPerson", desc := "(I)Z" } : Jvm.MethodName) : Cond) ∈ BW := bw 624 (by decide +kernel) rfl
theorem bw_625 : (Jvm.Cond.instanceMethod ({ cls := "HumUnheard$Town", name := "isPerson", desc := "(I)Z" } : Jvm.MethodName) : Cond) ∈ BW := bw 625 (by decide +kernel) rfl
theorem bw_626 : (Jvm.Cond.selects "HumUnheard$Town" ({ cls := "HumUnheard$Town", name := "isPerson", desc := "(I)Z" } : Jvm.MethodName) ({ cls := "HumUnheard$Town", name := "isPerson", desc := "(I)Z" } : Jvm.MethodName) : Cond) ∈ BW := bw 626 (by decide +kernel) rfl
theorem gX10_149 : ∀ z, xCv (Cf z) RX10 149 MX9_isPerson 1 := fun z => ⟨cmX9_isPerson z, bw_624, bw_625, bw_626⟩
theorem bw_635 : (Jvm.Cond.code ({ cls := "HumUnheard$Town", name := "addSource", desc := "(IIII)I" } : Jvm.MethodName) prog_11_method_7_code (7 : Nat) (Option.some Jvm.ClassFile.FieldType.int) : Cond) ∈ BW := bw 635 (by decide +kernel) rfl
theorem cmX9_addSource : ∀ z, xCm (Cf z) MX9_addSource 4 := fun z => ⟨bw_82, bw_635, by decide +kernel, by decide, by decide +kernel⟩
theorem bw_632 : (Jvm.Cond.methodLink "HumUnheard" (164 : Nat) ({ cls := "HumUnheard$Town", name := "addSource", desc := "(IIII)I" } : Jvm.MethodName) : Cond) ∈ BW := bw 632 (by decide +kernel) rfl
theorem bw_633 : (Jvm.Cond.instanceMethod ({ cls := "HumUnheard$Town", name := "addSource", desc := "(IIII)I" } : Jvm.MethodName) : Cond) ∈ BW := bw 633 (by decide +kernel) rfl
theorem bw_634 : (Jvm.Cond.selects "HumUnheard$Town" ({ cls := "HumUnheard$Town", name := "addSource", desc := "(IIII)I" } : Jvm.MethodName) ({ cls := "HumUnheard$Town", name := "addSource", desc := "(IIII)I" } : Jvm.MethodName) : Cond) ∈ BW := bw 634 (by decide +kernel) rfl
theorem gX10_164 : ∀ z, xCv (Cf z) RX10 164 MX9_addSource 4 := fun z => ⟨cmX9_addSource z, bw_632, bw_633, bw_634⟩
theorem bw_597 : (Jvm.Cond.code ({ cls := "HumUnheard$Source", name := "hoursAsNumber", desc := "()I" } : Jvm.MethodName) prog_10_method_8_code (1 : Nat) (Option.some Jvm.ClassFile.FieldType.int) : Cond) ∈ BW := bw 597 (by decide +kernel) rfl
theorem cmX8_hoursAsNumber : ∀ z, xCm (Cf z) MX8_hoursAsNumber 0 := fun z => ⟨bw_86, bw_597, by decide +kernel, by decide, by decide +kernel⟩
theorem bw_653 : (Jvm.Cond.methodLink "HumUnheard" (168 : Nat) ({ cls := "HumUnheard$Source", name := "hoursAsNumber", desc := "()I" } : Jvm.MethodName) : Cond) ∈ BW := bw 653 (by decide +kernel) rfl
theorem bw_595 : (Jvm.Cond.instanceMethod ({ cls := "HumUnheard$Source", name := "hoursAsNumber", desc := "()I" } : Jvm.MethodName) : Cond) ∈ BW := bw 595 (by decide +kernel) rfl
theorem bw_596 : (Jvm.Cond.selects "HumUnheard$Source" ({ cls := "HumUnheard$Source", name := "hoursAsNumber", desc := "()I" } : Jvm.MethodName) ({ cls := "HumUnheard$Source", name := "hoursAsNumber", desc := "()I" } : Jvm.MethodName) : Cond) ∈ BW := bw 596 (by decide +kernel) rfl
theorem gX10_168 : ∀ z, xCv (Cf z) RX10 168 MX8_hoursAsNumber 0 := fun z => ⟨cmX8_hoursAsNumber z, bw_653, bw_595, bw_596⟩
theorem bw_685 : (Jvm.Cond.code ({ cls := "HumUnheard$Reader", name := "readLaws", desc := "(LHumUnheard$Shelf;[I)Z" } : Jvm.MethodName) prog_7_method_2_code (5 : Nat) (Option.some Jvm.ClassFile.FieldType.boolean) : Cond) ∈ BW := bw 685 (by decide +kernel) rfl
theorem cmX5_readLaws : ∀ z, xCm (Cf z) MX5_readLaws 2 := fun z => ⟨bw_89, bw_685, by decide +kernel, by decide, by decide +kernel⟩
theorem bw_682 : (Jvm.Cond.methodLink "HumUnheard" (201 : Nat) ({ cls := "HumUnheard$Reader", name := "readLaws", desc := "(LHumUnheard$Shelf;[I)Z" } : Jvm.MethodName) : Cond) ∈ BW := bw 682 (by decide +kernel) rfl
theorem bw_683 : (Jvm.Cond.instanceMethod ({ cls := "HumUnheard$Reader", name := "readLaws", desc := "(LHumUnheard$Shelf;[I)Z" } : Jvm.MethodName) : Cond) ∈ BW := bw 683 (by decide +kernel) rfl
theorem bw_684 : (Jvm.Cond.selects "HumUnheard$Reader" ({ cls := "HumUnheard$Reader", name := "readLaws", desc := "(LHumUnheard$Shelf;[I)Z" } : Jvm.MethodName) ({ cls := "HumUnheard$Reader", name := "readLaws", desc := "(LHumUnheard$Shelf;[I)Z" } : Jvm.MethodName) : Cond) ∈ BW := bw 684 (by decide +kernel) rfl
theorem gX10_201 : ∀ z, xCv (Cf z) RX10 201 MX5_readLaws 2 := fun z => ⟨cmX5_readLaws z, bw_682, bw_683, bw_684⟩
theorem bw_811 : (Jvm.Cond.code ({ cls := "HumUnheard$Reader", name := "readPlan", desc := "(LHumUnheard$Shelf;I)Z" } : Jvm.MethodName) prog_7_method_3_code (5 : Nat) (Option.some Jvm.ClassFile.FieldType.boolean) : Cond) ∈ BW := bw 811 (by decide +kernel) rfl
theorem cmX5_readPlan : ∀ z, xCm (Cf z) MX5_readPlan 2 := fun z => ⟨bw_89, bw_811, by decide +kernel, by decide, by decide +kernel⟩
theorem bw_808 : (Jvm.Cond.methodLink "HumUnheard" (217 : Nat) ({ cls := "HumUnheard$Reader", name := "readPlan", desc := "(LHumUnheard$Shelf;I)Z" } : Jvm.MethodName) : Cond) ∈ BW := bw 808 (by decide +kernel) rfl
theorem bw_809 : (Jvm.Cond.instanceMethod ({ cls := "HumUnheard$Reader", name := "readPlan", desc := "(LHumUnheard$Shelf;I)Z" } : Jvm.MethodName) : Cond) ∈ BW := bw 809 (by decide +kernel) rfl
theorem bw_810 : (Jvm.Cond.selects "HumUnheard$Reader" ({ cls := "HumUnheard$Reader", name := "readPlan", desc := "(LHumUnheard$Shelf;I)Z" } : Jvm.MethodName) ({ cls := "HumUnheard$Reader", name := "readPlan", desc := "(LHumUnheard$Shelf;I)Z" } : Jvm.MethodName) : Cond) ∈ BW := bw 810 (by decide +kernel) rfl
theorem gX10_217 : ∀ z, xCv (Cf z) RX10 217 MX5_readPlan 2 := fun z => ⟨cmX5_readPlan z, bw_808, bw_809, bw_810⟩
theorem bw_828 : (Jvm.Cond.code ({ cls := "HumUnheard$Town", name := "addPlan", desc := "(LHumUnheard$Plan;)I" } : Jvm.MethodName) prog_11_method_8_code (2 : Nat) (Option.some Jvm.ClassFile.FieldType.int) : Cond) ∈ BW := bw 828 (by decide +kernel) rfl
theorem cmX9_addPlan : ∀ z, xCm (Cf z) MX9_addPlan 1 := fun z => ⟨bw_82, bw_828, by decide +kernel, by decide, by decide +kernel⟩
theorem bw_825 : (Jvm.Cond.methodLink "HumUnheard" (228 : Nat) ({ cls := "HumUnheard$Town", name := "addPlan", desc := "(LHumUnheard$Plan;)I" } : Jvm.MethodName) : Cond) ∈ BW := bw 825 (by decide +kernel) rfl
theorem bw_826 : (Jvm.Cond.instanceMethod ({ cls := "HumUnheard$Town", name := "addPlan", desc := "(LHumUnheard$Plan;)I" } : Jvm.MethodName) : Cond) ∈ BW := bw 826 (by decide +kernel) rfl
theorem bw_827 : (Jvm.Cond.selects "HumUnheard$Town" ({ cls := "HumUnheard$Town", name := "addPlan", desc := "(LHumUnheard$Plan;)I" } : Jvm.MethodName) ({ cls := "HumUnheard$Town", name := "addPlan", desc := "(LHumUnheard$Plan;)I" } : Jvm.MethodName) : Cond) ∈ BW := bw 827 (by decide +kernel) rfl
theorem gX10_228 : ∀ z, xCv (Cf z) RX10 228 MX9_addPlan 1 := fun z => ⟨cmX9_addPlan z, bw_825, bw_826, bw_827⟩
theorem bw_849 : (Jvm.Cond.code ({ cls := "HumUnheard$Town", name := "soundingAt", desc := "(I)I" } : Jvm.MethodName) prog_11_method_12_code (6 : Nat) (Option.some Jvm.ClassFile.FieldType.int) : Cond) ∈ BW := bw 849 (by decide +kernel) rfl
theorem cmX9_soundingAt : ∀ z, xCm (Cf z) MX9_soundingAt 1 := fun z => ⟨bw_82, bw_849, by decide +kernel, by decide, by decide +kernel⟩
theorem bw_846 : (Jvm.Cond.methodLink "HumUnheard" (238 : Nat) ({ cls := "HumUnheard$Town", name := "soundingAt", desc := "(I)I" } : Jvm.MethodName) : Cond) ∈ BW := bw 846 (by decide +kernel) rfl
theorem bw_847 : (Jvm.Cond.instanceMethod ({ cls := "HumUnheard$Town", name := "soundingAt", desc := "(I)I" } : Jvm.MethodName) : Cond) ∈ BW := bw 847 (by decide +kernel) rfl
theorem bw_848 : (Jvm.Cond.selects "HumUnheard$Town" ({ cls := "HumUnheard$Town", name := "soundingAt", desc := "(I)I" } : Jvm.MethodName) ({ cls := "HumUnheard$Town", name := "soundingAt", desc := "(I)I" } : Jvm.MethodName) : Cond) ∈ BW := bw 848 (by decide +kernel) rfl
theorem gX10_238 : ∀ z, xCv (Cf z) RX10 238 MX9_soundingAt 1 := fun z => ⟨cmX9_soundingAt z, bw_846, bw_847, bw_848⟩
theorem bw_891 : (Jvm.Cond.code ({ cls := "HumUnheard$Town", name := "levelAt", desc := "(II)I" } : Jvm.MethodName) prog_11_method_17_code (6 : Nat) (Option.some Jvm.ClassFile.FieldType.int) : Cond) ∈ BW := bw 891 (by decide +kernel) rfl
theorem cmX9_levelAt : ∀ z, xCm (Cf z) MX9_levelAt 2 := fun z => ⟨bw_82, bw_891, by decide +kernel, by decide, by decide +kernel⟩
theorem bw_888 : (Jvm.Cond.methodLink "HumUnheard" (244 : Nat) ({ cls := "HumUnheard$Town", name := "levelAt", desc := "(II)I" } : Jvm.MethodName) : Cond) ∈ BW := bw 888 (by decide +kernel) rfl
theorem bw_889 : (Jvm.Cond.instanceMethod ({ cls := "HumUnheard$Town", name := "levelAt", desc := "(II)I" } : Jvm.MethodName) : Cond) ∈ BW := bw 889 (by decide +kernel) rfl
theorem bw_890 : (Jvm.Cond.selects "HumUnheard$Town" ({ cls := "HumUnheard$Town", name := "levelAt", desc := "(II)I" } : Jvm.MethodName) ({ cls := "HumUnheard$Town", name := "levelAt", desc := "(II)I" } : Jvm.MethodName) : Cond) ∈ BW := bw 890 (by decide +kernel) rfl
theorem gX10_244 : ∀ z, xCv (Cf z) RX10 244 MX9_levelAt 2 := fun z => ⟨cmX9_levelAt z, bw_888, bw_889, bw_890⟩
theorem bw_85 : (Jvm.Cond.initialized "HumUnheard$Person" : Cond) ∈ BW := bw 85 (by decide +kernel) rfl
theorem bw_913 : (Jvm.Cond.code ({ cls := "HumUnheard$Person", name := "needFor", desc := "(I)I" } : Jvm.MethodName) prog_5_method_4_code (2 : Nat) (Option.some Jvm.ClassFile.FieldType.int) : Cond) ∈ BW := bw 913 (by decide +kernel) rfl
theorem cmX3_needFor : ∀ z, xCm (Cf z) MX3_needFor 1 := fun z => ⟨bw_85, bw_913, by decide +kernel, by decide, by decide +kernel⟩
theorem bw_910 : (Jvm.Cond.methodLink "HumUnheard" (247 : Nat) ({ cls := "HumUnheard$Person", name := "needFor", desc := "(I)I" } : Jvm.MethodName) : Cond) ∈ BW := bw 910 (by decide +kernel) rfl
theorem bw_911 : (Jvm.Cond.instanceMethod ({ cls := "HumUnheard$Person", name := "needFor", desc := "(I)I" } : Jvm.MethodName) : Cond) ∈ BW := bw 911 (by decide +kernel) rfl
theorem bw_912 : (Jvm.Cond.selects "HumUnheard$Person" ({ cls := "HumUnheard$Person", name := "needFor", desc := "(I)I" } : Jvm.MethodName) ({ cls := "HumUnheard$Person", name := "needFor", desc := "(I)I" } : Jvm.MethodName) : Cond) ∈ BW := bw 912 (by decide +kernel) rfl
theorem gX10_247 : ∀ z, xCv (Cf z) RX10 247 MX3_needFor 1 := fun z => ⟨cmX3_needFor z, bw_910, bw_911, bw_912⟩
theorem bw_922 : (Jvm.Cond.code ({ cls := "HumUnheard$Town", name := "heardBy", desc := "(II)I" } : Jvm.MethodName) prog_11_method_20_code (3 : Nat) (Option.some Jvm.ClassFile.FieldType.int) : Cond) ∈ BW := bw 922 (by decide +kernel) rfl
theorem cmX9_heardBy : ∀ z, xCm (Cf z) MX9_heardBy 2 := fun z => ⟨bw_82, bw_922, by decide +kernel, by decide, by decide +kernel⟩
theorem bw_919 : (Jvm.Cond.methodLink "HumUnheard" (250 : Nat) ({ cls := "HumUnheard$Town", name := "heardBy", desc := "(II)I" } : Jvm.MethodName) : Cond) ∈ BW := bw 919 (by decide +kernel) rfl
theorem bw_920 : (Jvm.Cond.instanceMethod ({ cls := "HumUnheard$Town", name := "heardBy", desc := "(II)I" } : Jvm.MethodName) : Cond) ∈ BW := bw 920 (by decide +kernel) rfl
theorem bw_921 : (Jvm.Cond.selects "HumUnheard$Town" ({ cls := "HumUnheard$Town", name := "heardBy", desc := "(II)I" } : Jvm.MethodName) ({ cls := "HumUnheard$Town", name := "heardBy", desc := "(II)I" } : Jvm.MethodName) : Cond) ∈ BW := bw 921 (by decide +kernel) rfl
theorem gX10_250 : ∀ z, xCv (Cf z) RX10 250 MX9_heardBy 2 := fun z => ⟨cmX9_heardBy z, bw_919, bw_920, bw_921⟩
theorem bw_941 : (Jvm.Cond.code ({ cls := "HumUnheard$Town", name := "loudestFor", desc := "(II)I" } : Jvm.MethodName) prog_11_method_21_code (8 : Nat) (Option.some Jvm.ClassFile.FieldType.int) : Cond) ∈ BW := bw 941 (by decide +kernel) rfl
theorem cmX9_loudestFor : ∀ z, xCm (Cf z) MX9_loudestFor 2 := fun z => ⟨bw_82, bw_941, by decide +kernel, by decide, by decide +kernel⟩
theorem bw_938 : (Jvm.Cond.methodLink "HumUnheard" (253 : Nat) ({ cls := "HumUnheard$Town", name := "loudestFor", desc := "(II)I" } : Jvm.MethodName) : Cond) ∈ BW := bw 938 (by decide +kernel) rfl
theorem bw_939 : (Jvm.Cond.instanceMethod ({ cls := "HumUnheard$Town", name := "loudestFor", desc := "(II)I" } : Jvm.MethodName) : Cond) ∈ BW := bw 939 (by decide +kernel) rfl
theorem bw_940 : (Jvm.Cond.selects "HumUnheard$Town" ({ cls := "HumUnheard$Town", name := "loudestFor", desc := "(II)I" } : Jvm.MethodName) ({ cls := "HumUnheard$Town", name := "loudestFor", desc := "(II)I" } : Jvm.MethodName) : Cond) ∈ BW := bw 940 (by decide +kernel) rfl
theorem gX10_253 : ∀ z, xCv (Cf z) RX10 253 MX9_loudestFor 2 := fun z => ⟨cmX9_loudestFor z, bw_938, bw_939, bw_940⟩
theorem bw_83 : (Jvm.Cond.initialized "HumUnheard$Diary" : Cond) ∈ BW := bw 83 (by decide +kernel) rfl
theorem bw_950 : (Jvm.Cond.code ({ cls := "HumUnheard$Diary", name := "addPress", desc := "(IIIZ)V" } : Jvm.MethodName) prog_3_method_2_code (5 : Nat) (Option.none : Option Jvm.ClassFile.FieldType) : Cond) ∈ BW := bw 950 (by decide +kernel) rfl
theorem cmX1_addPress : ∀ z, xCm (Cf z) MX1_addPress 4 := fun z => ⟨bw_83, bw_950, by decide +kernel, by decide, by decide +kernel⟩
theorem bw_947 : (Jvm.Cond.methodLink "HumUnheard" (265 : Nat) ({ cls := "HumUnheard$Diary", name := "addPress", desc := "(IIIZ)V" } : Jvm.MethodName) : Cond) ∈ BW := bw 947 (by decide +kernel) rfl
theorem bw_948 : (Jvm.Cond.instanceMethod ({ cls := "HumUnheard$Diary", name := "addPress", desc := "(IIIZ)V" } : Jvm.MethodName) : Cond) ∈ BW := bw 948 (by decide +kernel) rfl
theorem bw_949 : (Jvm.Cond.selects "HumUnheard$Diary" ({ cls := "HumUnheard$Diary", name := "addPress", desc := "(IIIZ)V" } : Jvm.MethodName) ({ cls := "HumUnheard$Diary", name := "addPress", desc := "(IIIZ)V" } : Jvm.MethodName) : Cond) ∈ BW := bw 949 (by decide +kernel) rfl
theorem gX10_265 : ∀ z, xCv (Cf z) RX10 265 MX1_addPress 4 := fun z => ⟨cmX1_addPress z, bw_947, bw_948, bw_949⟩
theorem bw_962 : (Jvm.Cond.code ({ cls := "HumUnheard$Shelf", name := "countPresses", desc := "(II)I" } : Jvm.MethodName) prog_9_method_19_code (5 : Nat) (Option.some Jvm.ClassFile.FieldType.int) : Cond) ∈ BW := bw 962 (by decide +kernel) rfl
theorem cmX7_countPresses : ∀ z, xCm (Cf z) MX7_countPresses 2 := fun z => ⟨bw_91, bw_962, by decide +kernel, by decide, by decide +kernel⟩
theorem bw_959 : (Jvm.Cond.methodLink "HumUnheard" (269 : Nat) ({ cls := "HumUnheard$Shelf", name := "countPresses", desc := "(II)I" } : Jvm.MethodName) : Cond) ∈ BW := bw 959 (by decide +kernel) rfl
theorem bw_960 : (Jvm.Cond.instanceMethod ({ cls := "HumUnheard$Shelf", name := "countPresses", desc := "(II)I" } : Jvm.MethodName) : Cond) ∈ BW := bw 960 (by decide +kernel) rfl
theorem bw_961 : (Jvm.Cond.selects "HumUnheard$Shelf" ({ cls := "HumUnheard$Shelf", name := "countPresses", desc := "(II)I" } : Jvm.MethodName) ({ cls := "HumUnheard$Shelf", name := "countPresses", desc := "(II)I" } : Jvm.MethodName) : Cond) ∈ BW := bw 961 (by decide +kernel) rfl
theorem gX10_269 : ∀ z, xCv (Cf z) RX10 269 MX7_countPresses 2 := fun z => ⟨cmX7_countPresses z, bw_959, bw_960, bw_961⟩
theorem bw_971 : (Jvm.Cond.code ({ cls := "HumUnheard$Town", name := "addPresses", desc := "(ILHumUnheard$Shelf;II)V" } : Jvm.MethodName) prog_11_method_9_code (6 : Nat) (Option.none : Option Jvm.ClassFile.FieldType) : Cond) ∈ BW := bw 971 (by decide +kernel) rfl
theorem cmX9_addPresses : ∀ z, xCm (Cf z) MX9_addPresses 4 := fun z => ⟨bw_82, bw_971, by decide +kernel, by decide, by decide +kernel⟩
theorem bw_968 : (Jvm.Cond.methodLink "HumUnheard" (272 : Nat) ({ cls := "HumUnheard$Town", name := "addPresses", desc := "(ILHumUnheard$Shelf;II)V" } : Jvm.MethodName) : Cond) ∈ BW := bw 968 (by decide +kernel) rfl
theorem bw_969 : (Jvm.Cond.instanceMethod ({ cls := "HumUnheard$Town", name := "addPresses", desc := "(ILHumUnheard$Shelf;II)V" } : Jvm.MethodName) : Cond) ∈ BW := bw 969 (by decide +kernel) rfl
theorem bw_970 : (Jvm.Cond.selects "HumUnheard$Town" ({ cls := "HumUnheard$Town", name := "addPresses", desc := "(ILHumUnheard$Shelf;II)V" } : Jvm.MethodName) ({ cls := "HumUnheard$Town", name := "addPresses", desc := "(ILHumUnheard$Shelf;II)V" } : Jvm.MethodName) : Cond) ∈ BW := bw 970 (by decide +kernel) rfl
theorem gX10_272 : ∀ z, xCv (Cf z) RX10 272 MX9_addPresses 4 := fun z => ⟨cmX9_addPresses z, bw_968, bw_969, bw_970⟩
theorem bw_982 : (Jvm.Cond.code ({ cls := "HumUnheard$Diary", name := "addMatch", desc := "(II)V" } : Jvm.MethodName) prog_3_method_3_code (3 : Nat) (Option.none : Option Jvm.ClassFile.FieldType) : Cond) ∈ BW := bw 982 (by decide +kernel) rfl
theorem cmX1_addMatch : ∀ z, xCm (Cf z) MX1_addMatch 2 := fun z => ⟨bw_83, bw_982, by decide +kernel, by decide, by decide +kernel⟩
theorem bw_979 : (Jvm.Cond.methodLink "HumUnheard" (278 : Nat) ({ cls := "HumUnheard$Diary", name := "addMatch", desc := "(II)V" } : Jvm.MethodName) : Cond) ∈ BW := bw 979 (by decide +kernel) rfl
theorem bw_980 : (Jvm.Cond.instanceMethod ({ cls := "HumUnheard$Diary", name := "addMatch", desc := "(II)V" } : Jvm.MethodName) : Cond) ∈ BW := bw 980 (by decide +kernel) rfl
theorem bw_981 : (Jvm.Cond.selects "HumUnheard$Diary" ({ cls := "HumUnheard$Diary", name := "addMatch", desc := "(II)V" } : Jvm.MethodName) ({ cls := "HumUnheard$Diary", name := "addMatch", desc := "(II)V" } : Jvm.MethodName) : Cond) ∈ BW := bw 981 (by decide +kernel) rfl
theorem gX10_278 : ∀ z, xCv (Cf z) RX10 278 MX1_addMatch 2 := fun z => ⟨cmX1_addMatch z, bw_979, bw_980, bw_981⟩
theorem bw_84 : (Jvm.Cond.initialized "HumUnheard$Letters" : Cond) ∈ BW := bw 84 (by decide +kernel) rfl
theorem bw_990 : (Jvm.Cond.code ({ cls := "HumUnheard$Letters", name := "add", desc := "(III)V" } : Jvm.MethodName) prog_4_method_2_code (4 : Nat) (Option.none : Option Jvm.ClassFile.FieldType) : Cond) ∈ BW := bw 990 (by decide +kernel) rfl
theorem cmX2_add : ∀ z, xCm (Cf z) MX2_add 3 := fun z => ⟨bw_84, bw_990, by decide +kernel, by decide, by decide +kernel⟩
theorem bw_987 : (Jvm.Cond.methodLink "HumUnheard" (290 : Nat) ({ cls := "HumUnheard$Letters", name := "add", desc := "(III)V" } : Jvm.MethodName) : Cond) ∈ BW := bw 987 (by decide +kernel) rfl
theorem bw_988 : (Jvm.Cond.instanceMethod ({ cls := "HumUnheard$Letters", name := "add", desc := "(III)V" } : Jvm.MethodName) : Cond) ∈ BW := bw 988 (by decide +kernel) rfl
theorem bw_989 : (Jvm.Cond.selects "HumUnheard$Letters" ({ cls := "HumUnheard$Letters", name := "add", desc := "(III)V" } : Jvm.MethodName) ({ cls := "HumUnheard$Letters", name := "add", desc := "(III)V" } : Jvm.MethodName) : Cond) ∈ BW := bw 989 (by decide +kernel) rfl
theorem gX10_290 : ∀ z, xCv (Cf z) RX10 290 MX2_add 3 := fun z => ⟨cmX2_add z, bw_987, bw_988, bw_989⟩
theorem bw_998 : (Jvm.Cond.code ({ cls := "HumUnheard$Seeker", name := "weigh", desc := "(I)V" } : Jvm.MethodName) prog_8_method_2_code (4 : Nat) (Option.none : Option Jvm.ClassFile.FieldType) : Cond) ∈ BW := bw 998 (by decide +kernel) rfl
theorem cmX6_weigh : ∀ z, xCm (Cf z) MX6_weigh 1 := fun z => ⟨bw_81, bw_998, by decide +kernel, by decide, by decide +kernel⟩
theorem bw_995 : (Jvm.Cond.methodLink "HumUnheard" (294 : Nat) ({ cls := "HumUnheard$Seeker", name := "weigh", desc := "(I)V" } : Jvm.MethodName) : Cond) ∈ BW := bw 995 (by decide +kernel) rfl
theorem bw_996 : (Jvm.Cond.instanceMethod ({ cls := "HumUnheard$Seeker", name := "weigh", desc := "(I)V" } : Jvm.MethodName) : Cond) ∈ BW := bw 996 (by decide +kernel) rfl
theorem bw_997 : (Jvm.Cond.selects "HumUnheard$Seeker" ({ cls := "HumUnheard$Seeker", name := "weigh", desc := "(I)V" } : Jvm.MethodName) ({ cls := "HumUnheard$Seeker", name := "weigh", desc := "(I)V" } : Jvm.MethodName) : Cond) ∈ BW := bw 997 (by decide +kernel) rfl
theorem gX10_294 : ∀ z, xCv (Cf z) RX10 294 MX6_weigh 1 := fun z => ⟨cmX6_weigh z, bw_995, bw_996, bw_997⟩
theorem bw_1026 : (Jvm.Cond.code ({ cls := "HumUnheard$Seeker", name := "surest", desc := "(I)I" } : Jvm.MethodName) prog_8_method_5_code (8 : Nat) (Option.some Jvm.ClassFile.FieldType.int) : Cond) ∈ BW := bw 1026 (by decide +kernel) rfl
theorem cmX6_surest : ∀ z, xCm (Cf z) MX6_surest 1 := fun z => ⟨bw_81, bw_1026, by decide +kernel, by decide, by decide +kernel⟩
theorem bw_1023 : (Jvm.Cond.methodLink "HumUnheard" (301 : Nat) ({ cls := "HumUnheard$Seeker", name := "surest", desc := "(I)I" } : Jvm.MethodName) : Cond) ∈ BW := bw 1023 (by decide +kernel) rfl
theorem bw_1024 : (Jvm.Cond.instanceMethod ({ cls := "HumUnheard$Seeker", name := "surest", desc := "(I)I" } : Jvm.MethodName) : Cond) ∈ BW := bw 1024 (by decide +kernel) rfl
theorem bw_1025 : (Jvm.Cond.selects "HumUnheard$Seeker" ({ cls := "HumUnheard$Seeker", name := "surest", desc := "(I)I" } : Jvm.MethodName) ({ cls := "HumUnheard$Seeker", name := "surest", desc := "(I)I" } : Jvm.MethodName) : Cond) ∈ BW := bw 1025 (by decide +kernel) rfl
theorem gX10_301 : ∀ z, xCv (Cf z) RX10 301 MX6_surest 1 := fun z => ⟨cmX6_surest z, bw_1023, bw_1024, bw_1025⟩
theorem bw_1035 : (Jvm.Cond.code ({ cls := "HumUnheard$Town", name := "airborne", desc := "()I" } : Jvm.MethodName) prog_11_method_23_code (3 : Nat) (Option.some Jvm.ClassFile.FieldType.int) : Cond) ∈ BW := bw 1035 (by decide +kernel) rfl
theorem cmX9_airborne : ∀ z, xCm (Cf z) MX9_airborne 0 := fun z => ⟨bw_82, bw_1035, by decide +kernel, by decide, by decide +kernel⟩
theorem bw_1032 : (Jvm.Cond.methodLink "HumUnheard" (304 : Nat) ({ cls := "HumUnheard$Town", name := "airborne", desc := "()I" } : Jvm.MethodName) : Cond) ∈ BW := bw 1032 (by decide +kernel) rfl
theorem bw_1033 : (Jvm.Cond.instanceMethod ({ cls := "HumUnheard$Town", name := "airborne", desc := "()I" } : Jvm.MethodName) : Cond) ∈ BW := bw 1033 (by decide +kernel) rfl
theorem bw_1034 : (Jvm.Cond.selects "HumUnheard$Town" ({ cls := "HumUnheard$Town", name := "airborne", desc := "()I" } : Jvm.MethodName) ({ cls := "HumUnheard$Town", name := "airborne", desc := "()I" } : Jvm.MethodName) : Cond) ∈ BW := bw 1034 (by decide +kernel) rfl
theorem gX10_304 : ∀ z, xCv (Cf z) RX10 304 MX9_airborne 0 := fun z => ⟨cmX9_airborne z, bw_1032, bw_1033, bw_1034⟩
theorem bw_1010 : (Jvm.Cond.code ({ cls := "HumUnheard$Town", name := "nearTo", desc := "(I)I" } : Jvm.MethodName) prog_11_method_24_code (4 : Nat) (Option.some Jvm.ClassFile.FieldType.int) : Cond) ∈ BW := bw 1010 (by decide +kernel) rfl
theorem cmX9_nearTo : ∀ z, xCm (Cf z) MX9_nearTo 1 := fun z => ⟨bw_82, bw_1010, by decide +kernel, by decide, by decide +kernel⟩
theorem bw_1036 : (Jvm.Cond.methodLink "HumUnheard" (307 : Nat) ({ cls := "HumUnheard$Town", name := "nearTo", desc := "(I)I" } : Jvm.MethodName) : Cond) ∈ BW := bw 1036 (by decide +kernel) rfl
theorem bw_1008 : (Jvm.Cond.instanceMethod ({ cls := "HumUnheard$Town", name := "nearTo", desc := "(I)I" } : Jvm.MethodName) : Cond) ∈ BW := bw 1008 (by decide +kernel) rfl
theorem bw_1009 : (Jvm.Cond.selects "HumUnheard$Town" ({ cls := "HumUnheard$Town", name := "nearTo", desc := "(I)I" } : Jvm.MethodName) ({ cls := "HumUnheard$Town", name := "nearTo", desc := "(I)I" } : Jvm.MethodName) : Cond) ∈ BW := bw 1009 (by decide +kernel) rfl
theorem gX10_307 : ∀ z, xCv (Cf z) RX10 307 MX9_nearTo 1 := fun z => ⟨cmX9_nearTo z, bw_1036, bw_1008, bw_1009⟩
theorem bw_926 : (Jvm.Cond.code ({ cls := "HumUnheard$Town", name := "audibleTo", desc := "(II)I" } : Jvm.MethodName) prog_11_method_18_code (5 : Nat) (Option.some Jvm.ClassFile.FieldType.int) : Cond) ∈ BW := bw 926 (by decide +kernel) rfl
theorem cmX9_audibleTo : ∀ z, xCm (Cf z) MX9_audibleTo 2 := fun z => ⟨bw_82, bw_926, by decide +kernel, by decide, by decide +kernel⟩
theorem bw_1037 : (Jvm.Cond.methodLink "HumUnheard" (310 : Nat) ({ cls := "HumUnheard$Town", name := "audibleTo", desc := "(II)I" } : Jvm.MethodName) : Cond) ∈ BW := bw 1037 (by decide +kernel) rfl
theorem bw_924 : (Jvm.Cond.instanceMethod ({ cls := "HumUnheard$Town", name := "audibleTo", desc := "(II)I" } : Jvm.MethodName) : Cond) ∈ BW := bw 924 (by decide +kernel) rfl
theorem bw_925 : (Jvm.Cond.selects "HumUnheard$Town" ({ cls := "HumUnheard$Town", name := "audibleTo", desc := "(II)I" } : Jvm.MethodName) ({ cls := "HumUnheard$Town", name := "audibleTo", desc := "(II)I" } : Jvm.MethodName) : Cond) ∈ BW := bw 925 (by decide +kernel) rfl
theorem gX10_310 : ∀ z, xCv (Cf z) RX10 310 MX9_audibleTo 2 := fun z => ⟨cmX9_audibleTo z, bw_1037, bw_924, bw_925⟩
theorem bw_1045 : (Jvm.Cond.code ({ cls := "HumUnheard$Town", name := "lackOf", desc := "(I)I" } : Jvm.MethodName) prog_11_method_25_code (6 : Nat) (Option.some Jvm.ClassFile.FieldType.int) : Cond) ∈ BW := bw 1045 (by decide +kernel) rfl
theorem cmX9_lackOf : ∀ z, xCm (Cf z) MX9_lackOf 1 := fun z => ⟨bw_82, bw_1045, by decide +kernel, by decide, by decide +kernel⟩
theorem bw_1042 : (Jvm.Cond.methodLink "HumUnheard" (313 : Nat) ({ cls := "HumUnheard$Town", name := "lackOf", desc := "(I)I" } : Jvm.MethodName) : Cond) ∈ BW := bw 1042 (by decide +kernel) rfl
theorem bw_1043 : (Jvm.Cond.instanceMethod ({ cls := "HumUnheard$Town", name := "lackOf", desc := "(I)I" } : Jvm.MethodName) : Cond) ∈ BW := bw 1043 (by decide +kernel) rfl
theorem bw_1044 : (Jvm.Cond.selects "HumUnheard$Town" ({ cls := "HumUnheard$Town", name := "lackOf", desc := "(I)I" } : Jvm.MethodName) ({ cls := "HumUnheard$Town", name := "lackOf", desc := "(I)I" } : Jvm.MethodName) : Cond) ∈ BW := bw 1044 (by decide +kernel) rfl
theorem gX10_313 : ∀ z, xCv (Cf z) RX10 313 MX9_lackOf 1 := fun z => ⟨cmX9_lackOf z, bw_1042, bw_1043, bw_1044⟩
theorem bw_1057 : (Jvm.Cond.code ({ cls := "HumUnheard$Town", name := "countLetters", desc := "(I)I" } : Jvm.MethodName) prog_11_method_26_code (5 : Nat) (Option.some Jvm.ClassFile.FieldType.int) : Cond) ∈ BW := bw 1057 (by decide +kernel) rfl
theorem cmX9_countLetters : ∀ z, xCm (Cf z) MX9_countLetters 1 := fun z => ⟨bw_82, bw_1057, by decide +kernel, by decide, by decide +kernel⟩
theorem bw_1054 : (Jvm.Cond.methodLink "HumUnheard" (316 : Nat) ({ cls := "HumUnheard$Town", name := "countLetters", desc := "(I)I" } : Jvm.MethodName) : Cond) ∈ BW := bw 1054 (by decide +kernel) rfl
theorem bw_1055 : (Jvm.Cond.instanceMethod ({ cls := "HumUnheard$Town", name := "countLetters", desc := "(I)I" } : Jvm.MethodName) : Cond) ∈ BW := bw 1055 (by decide +kernel) rfl
theorem bw_1056 : (Jvm.Cond.selects "HumUnheard$Town" ({ cls := "HumUnheard$Town", name := "countLetters", desc := "(I)I" } : Jvm.MethodName) ({ cls := "HumUnheard$Town", name := "countLetters", desc := "(I)I" } : Jvm.MethodName) : Cond) ∈ BW := bw 1056 (by decide +kernel) rfl
theorem gX10_316 : ∀ z, xCv (Cf z) RX10 316 MX9_countLetters 1 := fun z => ⟨cmX9_countLetters z, bw_1054, bw_1055, bw_1056⟩
theorem bw_853 : (Jvm.Cond.code ({ cls := "HumUnheard$Town", name := "allSources", desc := "()I" } : Jvm.MethodName) prog_11_method_5_code (1 : Nat) (Option.some Jvm.ClassFile.FieldType.int) : Cond) ∈ BW := bw 853 (by decide +kernel) rfl
theorem cmX9_allSources : ∀ z, xCm (Cf z) MX9_allSources 0 := fun z => ⟨bw_82, bw_853, by decide +kernel, by decide, by decide +kernel⟩
theorem bw_1062 : (Jvm.Cond.methodLink "HumUnheard" (319 : Nat) ({ cls := "HumUnheard$Town", name := "allSources", desc := "()I" } : Jvm.MethodName) : Cond) ∈ BW := bw 1062 (by decide +kernel) rfl
theorem bw_851 : (Jvm.Cond.instanceMethod ({ cls := "HumUnheard$Town", name := "allSources", desc := "()I" } : Jvm.MethodName) : Cond) ∈ BW := bw 851 (by decide +kernel) rfl
theorem bw_852 : (Jvm.Cond.selects "HumUnheard$Town" ({ cls := "HumUnheard$Town", name := "allSources", desc := "()I" } : Jvm.MethodName) ({ cls := "HumUnheard$Town", name := "allSources", desc := "()I" } : Jvm.MethodName) : Cond) ∈ BW := bw 852 (by decide +kernel) rfl
theorem gX10_319 : ∀ z, xCv (Cf z) RX10 319 MX9_allSources 0 := fun z => ⟨cmX9_allSources z, bw_1062, bw_851, bw_852⟩
theorem bw_1069 : (Jvm.Cond.code ({ cls := "HumUnheard$Seeker", name := "countRid", desc := "(III)I" } : Jvm.MethodName) prog_8_method_6_code (7 : Nat) (Option.some Jvm.ClassFile.FieldType.int) : Cond) ∈ BW := bw 1069 (by decide +kernel) rfl
theorem cmX6_countRid : ∀ z, xCm (Cf z) MX6_countRid 3 := fun z => ⟨bw_81, bw_1069, by decide +kernel, by decide, by decide +kernel⟩
theorem bw_1066 : (Jvm.Cond.methodLink "HumUnheard" (325 : Nat) ({ cls := "HumUnheard$Seeker", name := "countRid", desc := "(III)I" } : Jvm.MethodName) : Cond) ∈ BW := bw 1066 (by decide +kernel) rfl
theorem bw_1067 : (Jvm.Cond.instanceMethod ({ cls := "HumUnheard$Seeker", name := "countRid", desc := "(III)I" } : Jvm.MethodName) : Cond) ∈ BW := bw 1067 (by decide +kernel) rfl
theorem bw_1068 : (Jvm.Cond.selects "HumUnheard$Seeker" ({ cls := "HumUnheard$Seeker", name := "countRid", desc := "(III)I" } : Jvm.MethodName) ({ cls := "HumUnheard$Seeker", name := "countRid", desc := "(III)I" } : Jvm.MethodName) : Cond) ∈ BW := bw 1068 (by decide +kernel) rfl
theorem gX10_325 : ∀ z, xCv (Cf z) RX10 325 MX6_countRid 3 := fun z => ⟨cmX6_countRid z, bw_1066, bw_1067, bw_1068⟩
theorem bw_1085 : (Jvm.Cond.code ({ cls := "HumUnheard$Seeker", name := "bestSet", desc := "(III)I" } : Jvm.MethodName) prog_8_method_8_code (8 : Nat) (Option.some Jvm.ClassFile.FieldType.int) : Cond) ∈ BW := bw 1085 (by decide +kernel) rfl
theorem cmX6_bestSet : ∀ z, xCm (Cf z) MX6_bestSet 3 := fun z => ⟨bw_81, bw_1085, by decide +kernel, by decide, by decide +kernel⟩
theorem bw_1082 : (Jvm.Cond.methodLink "HumUnheard" (329 : Nat) ({ cls := "HumUnheard$Seeker", name := "bestSet", desc := "(III)I" } : Jvm.MethodName) : Cond) ∈ BW := bw 1082 (by decide +kernel) rfl
theorem bw_1083 : (Jvm.Cond.instanceMethod ({ cls := "HumUnheard$Seeker", name := "bestSet", desc := "(III)I" } : Jvm.MethodName) : Cond) ∈ BW := bw 1083 (by decide +kernel) rfl
theorem bw_1084 : (Jvm.Cond.selects "HumUnheard$Seeker" ({ cls := "HumUnheard$Seeker", name := "bestSet", desc := "(III)I" } : Jvm.MethodName) ({ cls := "HumUnheard$Seeker", name := "bestSet", desc := "(III)I" } : Jvm.MethodName) : Cond) ∈ BW := bw 1084 (by decide +kernel) rfl
theorem gX10_329 : ∀ z, xCv (Cf z) RX10 329 MX6_bestSet 3 := fun z => ⟨cmX6_bestSet z, bw_1082, bw_1083, bw_1084⟩
theorem bw_1118 : (Jvm.Cond.code ({ cls := "HumUnheard$Town", name := "countBeats", desc := "(I)I" } : Jvm.MethodName) prog_11_method_22_code (4 : Nat) (Option.some Jvm.ClassFile.FieldType.int) : Cond) ∈ BW := bw 1118 (by decide +kernel) rfl
theorem cmX9_countBeats : ∀ z, xCm (Cf z) MX9_countBeats 1 := fun z => ⟨bw_82, bw_1118, by decide +kernel, by decide, by decide +kernel⟩
theorem bw_1115 : (Jvm.Cond.methodLink "HumUnheard" (336 : Nat) ({ cls := "HumUnheard$Town", name := "countBeats", desc := "(I)I" } : Jvm.MethodName) : Cond) ∈ BW := bw 1115 (by decide +kernel) rfl
theorem bw_1116 : (Jvm.Cond.instanceMethod ({ cls := "HumUnheard$Town", name := "countBeats", desc := "(I)I" } : Jvm.MethodName) : Cond) ∈ BW := bw 1116 (by decide +kernel) rfl
theorem bw_1117 : (Jvm.Cond.selects "HumUnheard$Town" ({ cls := "HumUnheard$Town", name := "countBeats", desc := "(I)I" } : Jvm.MethodName) ({ cls := "HumUnheard$Town", name := "countBeats", desc := "(I)I" } : Jvm.MethodName) : Cond) ∈ BW := bw 1117 (by decide +kernel) rfl
theorem gX10_336 : ∀ z, xCv (Cf z) RX10 336 MX9_countBeats 1 := fun z => ⟨cmX9_countBeats z, bw_1115, bw_1116, bw_1117⟩
theorem bw_1073 : (Jvm.Cond.code ({ cls := "HumUnheard$Town", name := "soundingWithin", desc := "(II)I" } : Jvm.MethodName) prog_11_method_16_code (5 : Nat) (Option.some Jvm.ClassFile.FieldType.int) : Cond) ∈ BW := bw 1073 (by decide +kernel) rfl
theorem cmX9_soundingWithin : ∀ z, xCm (Cf z) MX9_soundingWithin 2 := fun z => ⟨bw_82, bw_1073, by decide +kernel, by decide, by decide +kernel⟩
theorem bw_1133 : (Jvm.Cond.methodLink "HumUnheard" (339 : Nat) ({ cls := "HumUnheard$Town", name := "soundingWithin", desc := "(II)I" } : Jvm.MethodName) : Cond) ∈ BW := bw 1133 (by decide +kernel) rfl
theorem bw_1071 : (Jvm.Cond.instanceMethod ({ cls := "HumUnheard$Town", name := "soundingWithin", desc := "(II)I" } : Jvm.MethodName) : Cond) ∈ BW := bw 1071 (by decide +kernel) rfl
theorem bw_1072 : (Jvm.Cond.selects "HumUnheard$Town" ({ cls := "HumUnheard$Town", name := "soundingWithin", desc := "(II)I" } : Jvm.MethodName) ({ cls := "HumUnheard$Town", name := "soundingWithin", desc := "(II)I" } : Jvm.MethodName) : Cond) ∈ BW := bw 1072 (by decide +kernel) rfl
theorem gX10_339 : ∀ z, xCv (Cf z) RX10 339 MX9_soundingWithin 2 := fun z => ⟨cmX9_soundingWithin z, bw_1133, bw_1071, bw_1072⟩
theorem bw_1137 : (Jvm.Cond.code ({ cls := "HumUnheard$Seeker", name := "countMetered", desc := "(III)I" } : Jvm.MethodName) prog_8_method_12_code (6 : Nat) (Option.some Jvm.ClassFile.FieldType.int) : Cond) ∈ BW := bw 1137 (by decide +kernel) rfl
theorem cmX6_countMetered : ∀ z, xCm (Cf z) MX6_countMetered 3 := fun z => ⟨bw_81, bw_1137, by decide +kernel, by decide, by decide +kernel⟩
theorem bw_1134 : (Jvm.Cond.methodLink "HumUnheard" (342 : Nat) ({ cls := "HumUnheard$Seeker", name := "countMetered", desc := "(III)I" } : Jvm.MethodName) : Cond) ∈ BW := bw 1134 (by decide +kernel) rfl
theorem bw_1135 : (Jvm.Cond.instanceMethod ({ cls := "HumUnheard$Seeker", name := "countMetered", desc := "(III)I" } : Jvm.MethodName) : Cond) ∈ BW := bw 1135 (by decide +kernel) rfl
theorem bw_1136 : (Jvm.Cond.selects "HumUnheard$Seeker" ({ cls := "HumUnheard$Seeker", name := "countMetered", desc := "(III)I" } : Jvm.MethodName) ({ cls := "HumUnheard$Seeker", name := "countMetered", desc := "(III)I" } : Jvm.MethodName) : Cond) ∈ BW := bw 1136 (by decide +kernel) rfl
theorem gX10_342 : ∀ z, xCv (Cf z) RX10 342 MX6_countMetered 3 := fun z => ⟨cmX6_countMetered z, bw_1134, bw_1135, bw_1136⟩
theorem bw_1147 : (Jvm.Cond.code ({ cls := "HumUnheard$Seeker", name := "spotForMeter", desc := "(III)I" } : Jvm.MethodName) prog_8_method_13_code (9 : Nat) (Option.some Jvm.ClassFile.FieldType.int) : Cond) ∈ BW := bw 1147 (by decide +kernel) rfl
theorem cmX6_spotForMeter : ∀ z, xCm (Cf z) MX6_spotForMeter 3 := fun z => ⟨bw_81, bw_1147, by decide +kernel, by decide, by decide +kernel⟩
theorem bw_1144 : (Jvm.Cond.methodLink "HumUnheard" (345 : Nat) ({ cls := "HumUnheard$Seeker", name := "spotForMeter", desc := "(III)I" } : Jvm.MethodName) : Cond) ∈ BW := bw 1144 (by decide +kernel) rfl
theorem bw_1145 : (Jvm.Cond.instanceMethod ({ cls := "HumUnheard$Seeker", name := "spotForMeter", desc := "(III)I" } : Jvm.MethodName) : Cond) ∈ BW := bw 1145 (by decide +kernel) rfl
theorem bw_1146 : (Jvm.Cond.selects "HumUnheard$Seeker" ({ cls := "HumUnheard$Seeker", name := "spotForMeter", desc := "(III)I" } : Jvm.MethodName) ({ cls := "HumUnheard$Seeker", name := "spotForMeter", desc := "(III)I" } : Jvm.MethodName) : Cond) ∈ BW := bw 1146 (by decide +kernel) rfl
theorem gX10_345 : ∀ z, xCv (Cf z) RX10 345 MX6_spotForMeter 3 := fun z => ⟨cmX6_spotForMeter z, bw_1144, bw_1145, bw_1146⟩
theorem bw_1156 : (Jvm.Cond.code ({ cls := "HumUnheard$Seeker", name := "spotForBed", desc := "(III)I" } : Jvm.MethodName) prog_8_method_14_code (11 : Nat) (Option.some Jvm.ClassFile.FieldType.int) : Cond) ∈ BW := bw 1156 (by decide +kernel) rfl
theorem cmX6_spotForBed : ∀ z, xCm (Cf z) MX6_spotForBed 3 := fun z => ⟨bw_81, bw_1156, by decide +kernel, by decide, by decide +kernel⟩
theorem bw_1153 : (Jvm.Cond.methodLink "HumUnheard" (348 : Nat) ({ cls := "HumUnheard$Seeker", name := "spotForBed", desc := "(III)I" } : Jvm.MethodName) : Cond) ∈ BW := bw 1153 (by decide +kernel) rfl
theorem bw_1154 : (Jvm.Cond.instanceMethod ({ cls := "HumUnheard$Seeker", name := "spotForBed", desc := "(III)I" } : Jvm.MethodName) : Cond) ∈ BW := bw 1154 (by decide +kernel) rfl
theorem bw_1155 : (Jvm.Cond.selects "HumUnheard$Seeker" ({ cls := "HumUnheard$Seeker", name := "spotForBed", desc := "(III)I" } : Jvm.MethodName) ({ cls := "HumUnheard$Seeker", name := "spotForBed", desc := "(III)I" } : Jvm.MethodName) : Cond) ∈ BW := bw 1155 (by decide +kernel) rfl
theorem gX10_348 : ∀ z, xCv (Cf z) RX10 348 MX6_spotForBed 3 := fun z => ⟨cmX6_spotForBed z, bw_1153, bw_1154, bw_1155⟩
theorem bw_1166 : (Jvm.Cond.code ({ cls := "HumUnheard$Acts", name := "forget", desc := "()V" } : Jvm.MethodName) prog_2_method_2_code (1 : Nat) (Option.none : Option Jvm.ClassFile.FieldType) : Cond) ∈ BW := bw 1166 (by decide +kernel) rfl
theorem cmX0_forget : ∀ z, xCm (Cf z) MX0_forget 0 := fun z => ⟨bw_90, bw_1166, by decide +kernel, by decide, by decide +kernel⟩
theorem bw_1163 : (Jvm.Cond.methodLink "HumUnheard" (351 : Nat) ({ cls := "HumUnheard$Acts", name := "forget", desc := "()V" } : Jvm.MethodName) : Cond) ∈ BW := bw 1163 (by decide +kernel) rfl
theorem bw_1164 : (Jvm.Cond.instanceMethod ({ cls := "HumUnheard$Acts", name := "forget", desc := "()V" } : Jvm.MethodName) : Cond) ∈ BW := bw 1164 (by decide +kernel) rfl
theorem bw_1165 : (Jvm.Cond.selects "HumUnheard$Acts" ({ cls := "HumUnheard$Acts", name := "forget", desc := "()V" } : Jvm.MethodName) ({ cls := "HumUnheard$Acts", name := "forget", desc := "()V" } : Jvm.MethodName) : Cond) ∈ BW := bw 1165 (by decide +kernel) rfl
theorem gX10_351 : ∀ z, xCv (Cf z) RX10 351 MX0_forget 0 := fun z => ⟨cmX0_forget z, bw_1163, bw_1164, bw_1165⟩
theorem bw_1170 : (Jvm.Cond.code ({ cls := "HumUnheard$Acts", name := "run", desc := "(ILHumUnheard$Source;II)I" } : Jvm.MethodName) prog_2_method_4_code (5 : Nat) (Option.some Jvm.ClassFile.FieldType.int) : Cond) ∈ BW := bw 1170 (by decide +kernel) rfl
theorem cmX0_run : ∀ z, xCm (Cf z) MX0_run 4 := fun z => ⟨bw_90, bw_1170, by decide +kernel, by decide, by decide +kernel⟩
theorem bw_1167 : (Jvm.Cond.methodLink "HumUnheard" (354 : Nat) ({ cls := "HumUnheard$Acts", name := "run", desc := "(ILHumUnheard$Source;II)I" } : Jvm.MethodName) : Cond) ∈ BW := bw 1167 (by decide +kernel) rfl
theorem bw_1168 : (Jvm.Cond.instanceMethod ({ cls := "HumUnheard$Acts", name := "run", desc := "(ILHumUnheard$Source;II)I" } : Jvm.MethodName) : Cond) ∈ BW := bw 1168 (by decide +kernel) rfl
theorem bw_1169 : (Jvm.Cond.selects "HumUnheard$Acts" ({ cls := "HumUnheard$Acts", name := "run", desc := "(ILHumUnheard$Source;II)I" } : Jvm.MethodName) ({ cls := "HumUnheard$Acts", name := "run", desc := "(ILHumUnheard$Source;II)I" } : Jvm.MethodName) : Cond) ∈ BW := bw 1169 (by decide +kernel) rfl
theorem gX10_354 : ∀ z, xCv (Cf z) RX10 354 MX0_run 4 := fun z => ⟨cmX0_run z, bw_1167, bw_1168, bw_1169⟩
theorem bw_1202 : (Jvm.Cond.code ({ cls := "HumUnheard$Acts", name := "bodyAt", desc := "(I)I" } : Jvm.MethodName) prog_2_method_3_code (2 : Nat) (Option.some Jvm.ClassFile.FieldType.int) : Cond) ∈ BW := bw 1202 (by decide +kernel) rfl
theorem cmX0_bodyAt : ∀ z, xCm (Cf z) MX0_bodyAt 1 := fun z => ⟨bw_90, bw_1202, by decide +kernel, by decide, by decide +kernel⟩
theorem bw_1199 : (Jvm.Cond.methodLink "HumUnheard" (358 : Nat) ({ cls := "HumUnheard$Acts", name := "bodyAt", desc := "(I)I" } : Jvm.MethodName) : Cond) ∈ BW := bw 1199 (by decide +kernel) rfl
theorem bw_1200 : (Jvm.Cond.instanceMethod ({ cls := "HumUnheard$Acts", name := "bodyAt", desc := "(I)I" } : Jvm.MethodName) : Cond) ∈ BW := bw 1200 (by decide +kernel) rfl
theorem bw_1201 : (Jvm.Cond.selects "HumUnheard$Acts" ({ cls := "HumUnheard$Acts", name := "bodyAt", desc := "(I)I" } : Jvm.MethodName) ({ cls := "HumUnheard$Acts", name := "bodyAt", desc := "(I)I" } : Jvm.MethodName) : Cond) ∈ BW := bw 1201 (by decide +kernel) rfl
theorem gX10_358 : ∀ z, xCv (Cf z) RX10 358 MX0_bodyAt 1 := fun z => ⟨cmX0_bodyAt z, bw_1199, bw_1200, bw_1201⟩
theorem bw_1210 : (Jvm.Cond.code ({ cls := "HumUnheard$Town", name := "becomeLike", desc := "(LHumUnheard$Town;)V" } : Jvm.MethodName) prog_11_method_2_code (3 : Nat) (Option.none : Option Jvm.ClassFile.FieldType) : Cond) ∈ BW := bw 1210 (by decide +kernel) rfl
theorem cmX9_becomeLike : ∀ z, xCm (Cf z) MX9_becomeLike 1 := fun z => ⟨bw_82, bw_1210, by decide +kernel, by decide, by decide +kernel⟩
theorem bw_1207 : (Jvm.Cond.methodLink "HumUnheard" (361 : Nat) ({ cls := "HumUnheard$Town", name := "becomeLike", desc := "(LHumUnheard$Town;)V" } : Jvm.MethodName) : Cond) ∈ BW := bw 1207 (by decide +kernel) rfl
theorem bw_1208 : (Jvm.Cond.instanceMethod ({ cls := "HumUnheard$Town", name := "becomeLike", desc := "(LHumUnheard$Town;)V" } : Jvm.MethodName) : Cond) ∈ BW := bw 1208 (by decide +kernel) rfl
theorem bw_1209 : (Jvm.Cond.selects "HumUnheard$Town" ({ cls := "HumUnheard$Town", name := "becomeLike", desc := "(LHumUnheard$Town;)V" } : Jvm.MethodName) ({ cls := "HumUnheard$Town", name := "becomeLike", desc := "(LHumUnheard$Town;)V" } : Jvm.MethodName) : Cond) ∈ BW := bw 1209 (by decide +kernel) rfl
theorem gX10_361 : ∀ z, xCv (Cf z) RX10 361 MX9_becomeLike 1 := fun z => ⟨cmX9_becomeLike z, bw_1207, bw_1208, bw_1209⟩
theorem bw_1107 : (Jvm.Cond.constant "HumUnheard" (332 : Nat) (1000000 : Int32) : Cond) ∈ BW := bw 1107 (by decide +kernel) rfl
theorem kX10_332 : ∀ z, Cond.constant RX10 332 1000000 ∈ (Cf z).1 := fun z => bw_1107
theorem bw_435 : (Jvm.Cond.instantiable "HumUnheard$Shelf" (3 : Nat) : Cond) ∈ BW := bw 435 (by decide +kernel) rfl
theorem nX10_9 : ∀ z, Cond.classLink RX10 9 RX7 ∈ (Cf z).1 ∧ Cond.instantiable RX7 3 ∈ (Cf z).1 ∧ Cond.initialized RX7 ∈ (Cf z).1 := fun z => ⟨bw_107, bw_435, bw_91⟩
theorem bw_109 : (Jvm.Cond.classLink "HumUnheard" (15 : Nat) "HumUnheard$Seeker" : Cond) ∈ BW := bw 109 (by decide +kernel) rfl
theorem bw_110 : (Jvm.Cond.instantiable "HumUnheard$Seeker" (8 : Nat) : Cond) ∈ BW := bw 110 (by decide +kernel) rfl
theorem nX10_15 : ∀ z, Cond.classLink RX10 15 RX6 ∈ (Cf z).1 ∧ Cond.instantiable RX6 8 ∈ (Cf z).1 ∧ Cond.initialized RX6 ∈ (Cf z).1 := fun z => ⟨bw_109, bw_110, bw_81⟩
theorem bw_373 : (Jvm.Cond.classLink "HumUnheard" (27 : Nat) "HumUnheard$Town" : Cond) ∈ BW := bw 373 (by decide +kernel) rfl
theorem bw_116 : (Jvm.Cond.instantiable "HumUnheard$Town" (14 : Nat) : Cond) ∈ BW := bw 116 (by decide +kernel) rfl
theorem nX10_27 : ∀ z, Cond.classLink RX10 27 RX9 ∈ (Cf z).1 ∧ Cond.instantiable RX9 14 ∈ (Cf z).1 ∧ Cond.initialized RX9 ∈ (Cf z).1 := fun z => ⟨bw_373, bw_116, bw_82⟩
theorem bw_375 : (Jvm.Cond.classLink "HumUnheard" (33 : Nat) "HumUnheard$Reader" : Cond) ∈ BW := bw 375 (by decide +kernel) rfl
theorem bw_376 : (Jvm.Cond.instantiable "HumUnheard$Reader" (8 : Nat) : Cond) ∈ BW := bw 376 (by decide +kernel) rfl
theorem nX10_33 : ∀ z, Cond.classLink RX10 33 RX5 ∈ (Cf z).1 ∧ Cond.instantiable RX5 8 ∈ (Cf z).1 ∧ Cond.initialized RX5 ∈ (Cf z).1 := fun z => ⟨bw_375, bw_376, bw_89⟩
theorem bw_412 : (Jvm.Cond.classLink "HumUnheard" (40 : Nat) "HumUnheard$Acts" : Cond) ∈ BW := bw 412 (by decide +kernel) rfl
theorem bw_413 : (Jvm.Cond.instantiable "HumUnheard$Acts" (5 : Nat) : Cond) ∈ BW := bw 413 (by decide +kernel) rfl
theorem nX10_40 : ∀ z, Cond.classLink RX10 40 RX0 ∈ (Cf z).1 ∧ Cond.instantiable RX0 5 ∈ (Cf z).1 ∧ Cond.initialized RX0 ∈ (Cf z).1 := fun z => ⟨bw_412, bw_413, bw_90⟩
theorem pX10_11 : ∀ z, xFf (Cf z) RX10 11 10 0 (.array (.object "HumUnheard$Shelf")) := fun z => ⟨(RX10, TX10, 8), rfl, by decide, bw_450, rfl, rfl, by decide +kernel⟩
theorem pX10_18 : ∀ z, xFf (Cf z) RX10 18 10 1 (.object "HumUnheard$Seeker") := fun z => ⟨(RX10, TX10, 8), rfl, by decide, bw_451, rfl, rfl, by decide +kernel⟩
theorem pX10_26 : ∀ z, xFf (Cf z) RX10 26 10 2 (.object "HumUnheard$Town") := fun z => ⟨(RX10, TX10, 8), rfl, by decide, bw_452, rfl, rfl, by decide +kernel⟩
theorem pX10_30 : ∀ z, xFf (Cf z) RX10 30 10 3 (.object "HumUnheard$Town") := fun z => ⟨(RX10, TX10, 8), rfl, by decide, bw_453, rfl, rfl, by decide +kernel⟩
theorem pX10_36 : ∀ z, xFf (Cf z) RX10 36 10 4 (.object "HumUnheard$Reader") := fun z => ⟨(RX10, TX10, 8), rfl, by decide, bw_454, rfl, rfl, by decide +kernel⟩
theorem pX10_43 : ∀ z, xFf (Cf z) RX10 43 10 5 (.object "HumUnheard$Acts") := fun z => ⟨(RX10, TX10, 8), rfl, by decide, bw_455, rfl, rfl, by decide +kernel⟩
theorem pX10_47 : ∀ z, xFf (Cf z) RX10 47 10 6 (.array .int) := fun z => ⟨(RX10, TX10, 8), rfl, by decide, bw_456, rfl, rfl, by decide +kernel⟩
theorem pX10_51 : ∀ z, xFp (Cf z) RX10 51 10 7 (.boolean) := fun z => ⟨(RX10, TX10, 8), rfl, by decide, bw_457, rfl, by decide +kernel⟩
theorem pX10_156 : ∀ z, xFp (Cf z) RX10 156 3 0 (.int) := fun z => ⟨(RX3, TX3, 5), rfl, by decide, bw_195, rfl, by decide +kernel⟩
theorem bw_228 : (Jvm.Cond.fieldLink "HumUnheard" (171 : Nat) "HumUnheard$Source" "from" "I" : Cond) ∈ BW := bw 228 (by decide +kernel) rfl
theorem pX10_171 : ∀ z, xFp (Cf z) RX10 171 8 4 (.int) := fun z => ⟨(RX8, TX8, 8), rfl, by decide, bw_228, rfl, by decide +kernel⟩
theorem bw_230 : (Jvm.Cond.fieldLink "HumUnheard" (174 : Nat) "HumUnheard$Source" "till" "I" : Cond) ∈ BW := bw 230 (by decide +kernel) rfl
theorem pX10_174 : ∀ z, xFp (Cf z) RX10 174 8 5 (.int) := fun z => ⟨(RX8, TX8, 8), rfl, by decide, bw_230, rfl, by decide +kernel⟩
theorem pX10_177 : ∀ z, xFp (Cf z) RX10 177 8 6 (.int) := fun z => ⟨(RX8, TX8, 8), rfl, by decide, bw_233, rfl, by decide +kernel⟩
theorem pX10_180 : ∀ z, xFp (Cf z) RX10 180 9 5 (.int) := fun z => ⟨(RX9, TX9, 14), rfl, by decide, bw_296, rfl, by decide +kernel⟩
theorem pX10_192 : ∀ z, xFp (Cf z) RX10 192 9 0 (.int) := fun z => ⟨(RX9, TX9, 14), rfl, by decide, bw_284, rfl, by decide +kernel⟩
theorem pX10_235 : ∀ z, xFp (Cf z) RX10 235 9 4 (.int) := fun z => ⟨(RX9, TX9, 14), rfl, by decide, bw_294, rfl, by decide +kernel⟩
theorem bw_418 : (Jvm.Cond.fieldLink "HumUnheard$Acts" (9 : Nat) "HumUnheard$Acts" "bodies" "[I" : Cond) ∈ BW := bw 418 (by decide +kernel) rfl
theorem fX0_9 : ∀ z, xFd (Cf z) RX0 9 0 0 := fun z => ⟨(RX0, TX0, 5), rfl, by decide, bw_418⟩
theorem bw_419 : (Jvm.Cond.fieldLink "HumUnheard$Acts" (15 : Nat) "HumUnheard$Acts" "m" "I" : Cond) ∈ BW := bw 419 (by decide +kernel) rfl
theorem fX0_15 : ∀ z, xFd (Cf z) RX0 15 0 1 := fun z => ⟨(RX0, TX0, 5), rfl, by decide, bw_419⟩
theorem bw_420 : (Jvm.Cond.fieldLink "HumUnheard$Acts" (19 : Nat) "HumUnheard$Acts" "k" "I" : Cond) ∈ BW := bw 420 (by decide +kernel) rfl
theorem fX0_19 : ∀ z, xFd (Cf z) RX0 19 0 2 := fun z => ⟨(RX0, TX0, 5), rfl, by decide, bw_420⟩
theorem bw_421 : (Jvm.Cond.fieldLink "HumUnheard$Acts" (22 : Nat) "HumUnheard$Acts" "kind" "I" : Cond) ∈ BW := bw 421 (by decide +kernel) rfl
theorem fX0_22 : ∀ z, xFd (Cf z) RX0 22 0 3 := fun z => ⟨(RX0, TX0, 5), rfl, by decide, bw_421⟩
theorem bw_422 : (Jvm.Cond.fieldLink "HumUnheard$Acts" (25 : Nat) "HumUnheard$Acts" "ran" "I" : Cond) ∈ BW := bw 422 (by decide +kernel) rfl
theorem fX0_25 : ∀ z, xFd (Cf z) RX0 25 0 4 := fun z => ⟨(RX0, TX0, 5), rfl, by decide, bw_422⟩
theorem bw_223 : (Jvm.Cond.fieldLink "HumUnheard$Acts" (28 : Nat) "HumUnheard$Source" "tone" "I" : Cond) ∈ BW := bw 223 (by decide +kernel) rfl
theorem fX0_28 : ∀ z, xFd (Cf z) RX0 28 8 2 := fun z => ⟨(RX8, TX8, 8), rfl, by decide, bw_223⟩
theorem bw_218 : (Jvm.Cond.fieldLink "HumUnheard$Acts" (33 : Nat) "HumUnheard$Source" "kind" "I" : Cond) ∈ BW := bw 218 (by decide +kernel) rfl
theorem fX0_33 : ∀ z, xFd (Cf z) RX0 33 8 0 := fun z => ⟨(RX8, TX8, 8), rfl, by decide, bw_218⟩
theorem bw_417 : (Jvm.Cond.methodLink "HumUnheard$Acts" (3 : Nat) ({ cls := "java/lang/Object", name := "<init>", desc := "()V" } : Jvm.MethodName) : Cond) ∈ BW := bw 417 (by decide +kernel) rfl
theorem gX0_3 : ∀ z, Cond.methodLink RX0 3 objectInit ∈ (Cf z).1 := fun z => bw_417
theorem bw_1174 : (Jvm.Cond.code ({ cls := "HumUnheard$Acts", name := "soundsWith", desc := "(I)I" } : Jvm.MethodName) prog_2_method_6_code (2 : Nat) (Option.some Jvm.ClassFile.FieldType.int) : Cond) ∈ BW := bw 1174 (by decide +kernel) rfl
theorem cmX0_soundsWith : ∀ z, xCm (Cf z) MX0_soundsWith 1 := fun z => ⟨bw_90, bw_1174, by decide +kernel, by decide, by decide +kernel⟩
theorem bw_1171 : (Jvm.Cond.methodLink "HumUnheard$Acts" (34 : Nat) ({ cls := "HumUnheard$Acts", name := "soundsWith", desc := "(I)I" } : Jvm.MethodName) : Cond) ∈ BW := bw 1171 (by decide +kernel) rfl
theorem bw_1173 : (Jvm.Cond.instanceMethod ({ cls := "HumUnheard$Acts", name := "soundsWith", desc := "(I)I" } : Jvm.MethodName) : Cond) ∈ BW := bw 1173 (by decide +kernel) rfl
theorem bw_27 : Cond.selects "HumUnheard$Acts" ⟨"HumUnheard$Acts", "soundsWith", "(I)I"⟩ ⟨"HumUnheard$Acts", "soundsWith", "(I)I"⟩ ∈ BW := bw 27 (by decide +kernel) rfl
theorem gX0_34 : ∀ z, xCv (Cf z) RX0 34 MX0_soundsWith 1 := fun z => ⟨cmX0_soundsWith z, bw_1171, bw_1173, bw_27⟩
theorem bw_1182 : (Jvm.Cond.code ({ cls := "HumUnheard$Acts", name := "reachesWith", desc := "(I)I" } : Jvm.MethodName) prog_2_method_7_code (2 : Nat) (Option.some Jvm.ClassFile.FieldType.int) : Cond) ∈ BW := bw 1182 (by decide +kernel) rfl
theorem cmX0_reachesWith : ∀ z, xCm (Cf z) MX0_reachesWith 1 := fun z => ⟨bw_90, bw_1182, by decide +kernel, by decide, by decide +kernel⟩
theorem bw_1179 : (Jvm.Cond.methodLink "HumUnheard$Acts" (38 : Nat) ({ cls := "HumUnheard$Acts", name := "reachesWith", desc := "(I)I" } : Jvm.MethodName) : Cond) ∈ BW := bw 1179 (by decide +kernel) rfl
theorem bw_1181 : (Jvm.Cond.instanceMethod ({ cls := "HumUnheard$Acts", name := "reachesWith", desc := "(I)I" } : Jvm.MethodName) : Cond) ∈ BW := bw 1181 (by decide +kernel) rfl
theorem bw_29 : Cond.selects "HumUnheard$Acts" ⟨"HumUnheard$Acts", "reachesWith", "(I)I"⟩ ⟨"HumUnheard$Acts", "reachesWith", "(I)I"⟩ ∈ BW := bw 29 (by decide +kernel) rfl
theorem gX0_38 : ∀ z, xCv (Cf z) RX0 38 MX0_reachesWith 1 := fun z => ⟨cmX0_reachesWith z, bw_1179, bw_1181, bw_29⟩
theorem bw_1190 : (Jvm.Cond.code ({ cls := "HumUnheard$Acts", name := "hearsWith", desc := "(I)I" } : Jvm.MethodName) prog_2_method_9_code (2 : Nat) (Option.some Jvm.ClassFile.FieldType.int) : Cond) ∈ BW := bw 1190 (by decide +kernel) rfl
theorem cmX0_hearsWith : ∀ z, xCm (Cf z) MX0_hearsWith 1 := fun z => ⟨bw_90, bw_1190, by decide +kernel, by decide, by decide +kernel⟩
theorem bw_1187 : (Jvm.Cond.methodLink "HumUnheard$Acts" (41 : Nat) ({ cls := "HumUnheard$Acts", name := "hearsWith", desc := "(I)I" } : Jvm.MethodName) : Cond) ∈ BW := bw 1187 (by decide +kernel) rfl
theorem bw_1189 : (Jvm.Cond.instanceMethod ({ cls := "HumUnheard$Acts", name := "hearsWith", desc := "(I)I" } : Jvm.MethodName) : Cond) ∈ BW := bw 1189 (by decide +kernel) rfl
theorem bw_31 : Cond.selects "HumUnheard$Acts" ⟨"HumUnheard$Acts", "hearsWith", "(I)I"⟩ ⟨"HumUnheard$Acts", "hearsWith", "(I)I"⟩ ∈ BW := bw 31 (by decide +kernel) rfl
theorem gX0_41 : ∀ z, xCv (Cf z) RX0 41 MX0_hearsWith 1 := fun z => ⟨cmX0_hearsWith z, bw_1187, bw_1189, bw_31⟩
theorem bw_1178 : (Jvm.Cond.code ({ cls := "HumUnheard$Acts", name := "begin", desc := "(I)V" } : Jvm.MethodName) prog_2_method_5_code (2 : Nat) (Option.none : Option Jvm.ClassFile.FieldType) : Cond) ∈ BW := bw 1178 (by decide +kernel) rfl
theorem cmX0_begin : ∀ z, xCm (Cf z) MX0_begin 1 := fun z => ⟨bw_90, bw_1178, by decide +kernel, by decide, by decide +kernel⟩
theorem bw_1175 : (Jvm.Cond.methodLink "HumUnheard$Acts" (44 : Nat) ({ cls := "HumUnheard$Acts", name := "begin", desc := "(I)V" } : Jvm.MethodName) : Cond) ∈ BW := bw 1175 (by decide +kernel) rfl
theorem bw_1177 : (Jvm.Cond.instanceMethod ({ cls := "HumUnheard$Acts", name := "begin", desc := "(I)V" } : Jvm.MethodName) : Cond) ∈ BW := bw 1177 (by decide +kernel) rfl
theorem bw_28 : Cond.selects "HumUnheard$Acts" ⟨"HumUnheard$Acts", "begin", "(I)V"⟩ ⟨"HumUnheard$Acts", "begin", "(I)V"⟩ ∈ BW := bw 28 (by decide +kernel) rfl
theorem gX0_44 : ∀ z, xCv (Cf z) RX0 44 MX0_begin 1 := fun z => ⟨cmX0_begin z, bw_1175, bw_1177, bw_28⟩
theorem bw_1186 : (Jvm.Cond.code ({ cls := "HumUnheard$Acts", name := "reachesOfHum", desc := "(I)I" } : Jvm.MethodName) prog_2_method_8_code (2 : Nat) (Option.some Jvm.ClassFile.FieldType.int) : Cond) ∈ BW := bw 1186 (by decide +kernel) rfl
theorem cmX0_reachesOfHum : ∀ z, xCm (Cf z) MX0_reachesOfHum 1 := fun z => ⟨bw_90, bw_1186, by decide +kernel, by decide, by decide +kernel⟩
theorem bw_1183 : (Jvm.Cond.methodLink "HumUnheard$Acts" (48 : Nat) ({ cls := "HumUnheard$Acts", name := "reachesOfHum", desc := "(I)I" } : Jvm.MethodName) : Cond) ∈ BW := bw 1183 (by decide +kernel) rfl
theorem bw_1185 : (Jvm.Cond.instanceMethod ({ cls := "HumUnheard$Acts", name := "reachesOfHum", desc := "(I)I" } : Jvm.MethodName) : Cond) ∈ BW := bw 1185 (by decide +kernel) rfl
theorem bw_30 : Cond.selects "HumUnheard$Acts" ⟨"HumUnheard$Acts", "reachesOfHum", "(I)I"⟩ ⟨"HumUnheard$Acts", "reachesOfHum", "(I)I"⟩ ∈ BW := bw 30 (by decide +kernel) rfl
theorem gX0_48 : ∀ z, xCv (Cf z) RX0 48 MX0_reachesOfHum 1 := fun z => ⟨cmX0_reachesOfHum z, bw_1183, bw_1185, bw_30⟩
theorem bw_1194 : (Jvm.Cond.code ({ cls := "HumUnheard$Acts", name := "hearsOfHum", desc := "(I)I" } : Jvm.MethodName) prog_2_method_10_code (3 : Nat) (Option.some Jvm.ClassFile.FieldType.int) : Cond) ∈ BW := bw 1194 (by decide +kernel) rfl
theorem cmX0_hearsOfHum : ∀ z, xCm (Cf z) MX0_hearsOfHum 1 := fun z => ⟨bw_90, bw_1194, by decide +kernel, by decide, by decide +kernel⟩
theorem bw_1191 : (Jvm.Cond.methodLink "HumUnheard$Acts" (51 : Nat) ({ cls := "HumUnheard$Acts", name := "hearsOfHum", desc := "(I)I" } : Jvm.MethodName) : Cond) ∈ BW := bw 1191 (by decide +kernel) rfl
theorem bw_1193 : (Jvm.Cond.instanceMethod ({ cls := "HumUnheard$Acts", name := "hearsOfHum", desc := "(I)I" } : Jvm.MethodName) : Cond) ∈ BW := bw 1193 (by decide +kernel) rfl
theorem bw_32 : Cond.selects "HumUnheard$Acts" ⟨"HumUnheard$Acts", "hearsOfHum", "(I)I"⟩ ⟨"HumUnheard$Acts", "hearsOfHum", "(I)I"⟩ ∈ BW := bw 32 (by decide +kernel) rfl
theorem gX0_51 : ∀ z, xCv (Cf z) RX0 51 MX0_hearsOfHum 1 := fun z => ⟨cmX0_hearsOfHum z, bw_1191, bw_1193, bw_32⟩
theorem pX0_9 : ∀ z, xFf (Cf z) RX0 9 0 0 (.array .int) := fun z => ⟨(RX0, TX0, 5), rfl, by decide, bw_418, rfl, rfl, by decide +kernel⟩
theorem pX0_15 : ∀ z, xFp (Cf z) RX0 15 0 1 (.int) := fun z => ⟨(RX0, TX0, 5), rfl, by decide, bw_419, rfl, by decide +kernel⟩
theorem pX0_19 : ∀ z, xFp (Cf z) RX0 19 0 2 (.int) := fun z => ⟨(RX0, TX0, 5), rfl, by decide, bw_420, rfl, by decide +kernel⟩
theorem pX0_22 : ∀ z, xFp (Cf z) RX0 22 0 3 (.int) := fun z => ⟨(RX0, TX0, 5), rfl, by decide, bw_421, rfl, by decide +kernel⟩
theorem pX0_25 : ∀ z, xFp (Cf z) RX0 25 0 4 (.int) := fun z => ⟨(RX0, TX0, 5), rfl, by decide, bw_422, rfl, by decide +kernel⟩
theorem bw_133 : (Jvm.Cond.fieldLink "HumUnheard$Diary" (9 : Nat) "HumUnheard$Diary" "count" "I" : Cond) ∈ BW := bw 133 (by decide +kernel) rfl
theorem fX1_9 : ∀ z, xFd (Cf z) RX1 9 1 0 := fun z => ⟨(RX1, TX1, 7), rfl, by decide, bw_133⟩
theorem bw_135 : (Jvm.Cond.fieldLink "HumUnheard$Diary" (15 : Nat) "HumUnheard$Diary" "presses" "I" : Cond) ∈ BW := bw 135 (by decide +kernel) rfl
theorem fX1_15 : ∀ z, xFd (Cf z) RX1 15 1 1 := fun z => ⟨(RX1, TX1, 7), rfl, by decide, bw_135⟩
theorem bw_137 : (Jvm.Cond.fieldLink "HumUnheard$Diary" (18 : Nat) "HumUnheard$Diary" "matches" "I" : Cond) ∈ BW := bw 137 (by decide +kernel) rfl
theorem fX1_18 : ∀ z, xFd (Cf z) RX1 18 1 2 := fun z => ⟨(RX1, TX1, 7), rfl, by decide, bw_137⟩
theorem bw_139 : (Jvm.Cond.fieldLink "HumUnheard$Diary" (21 : Nat) "HumUnheard$Diary" "who" "[I" : Cond) ∈ BW := bw 139 (by decide +kernel) rfl
theorem fX1_21 : ∀ z, xFd (Cf z) RX1 21 1 3 := fun z => ⟨(RX1, TX1, 7), rfl, by decide, bw_139⟩
theorem bw_141 : (Jvm.Cond.fieldLink "HumUnheard$Diary" (25 : Nat) "HumUnheard$Diary" "hour" "[I" : Cond) ∈ BW := bw 141 (by decide +kernel) rfl
theorem fX1_25 : ∀ z, xFd (Cf z) RX1 25 1 4 := fun z => ⟨(RX1, TX1, 7), rfl, by decide, bw_141⟩
theorem bw_143 : (Jvm.Cond.fieldLink "HumUnheard$Diary" (28 : Nat) "HumUnheard$Diary" "spot" "[I" : Cond) ∈ BW := bw 143 (by decide +kernel) rfl
theorem fX1_28 : ∀ z, xFd (Cf z) RX1 28 1 5 := fun z => ⟨(RX1, TX1, 7), rfl, by decide, bw_143⟩
theorem bw_145 : (Jvm.Cond.fieldLink "HumUnheard$Diary" (31 : Nat) "HumUnheard$Diary" "what" "[I" : Cond) ∈ BW := bw 145 (by decide +kernel) rfl
theorem fX1_31 : ∀ z, xFd (Cf z) RX1 31 1 6 := fun z => ⟨(RX1, TX1, 7), rfl, by decide, bw_145⟩
theorem bw_132 : (Jvm.Cond.methodLink "HumUnheard$Diary" (3 : Nat) ({ cls := "java/lang/Object", name := "<init>", desc := "()V" } : Jvm.MethodName) : Cond) ∈ BW := bw 132 (by decide +kernel) rfl
theorem gX1_3 : ∀ z, Cond.methodLink RX1 3 objectInit ∈ (Cf z).1 := fun z => bw_132
theorem bw_1224 : (Jvm.Cond.methodLink "HumUnheard$Diary" (38 : Nat) ({ cls := "java/lang/System", name := "arraycopy", desc := "(Ljava/lang/Object;ILjava/lang/Object;II)V" } : Jvm.MethodName) : Cond) ∈ BW := bw 1224 (by decide +kernel) rfl
theorem gX1_38 : ∀ z, xCp (Cf z) RX1 38 := fun z => ⟨bw_1224, bw_282, bw_281, bw_88⟩
theorem bw_954 : (Jvm.Cond.code ({ cls := "HumUnheard$Diary", name := "add", desc := "(IIII)V" } : Jvm.MethodName) prog_3_method_4_code (5 : Nat) (Option.none : Option Jvm.ClassFile.FieldType) : Cond) ∈ BW := bw 954 (by decide +kernel) rfl
theorem cmX1_add : ∀ z, xCm (Cf z) MX1_add 4 := fun z => ⟨bw_83, bw_954, by decide +kernel, by decide, by decide +kernel⟩
theorem bw_951 : (Jvm.Cond.methodLink "HumUnheard$Diary" (34 : Nat) ({ cls := "HumUnheard$Diary", name := "add", desc := "(IIII)V" } : Jvm.MethodName) : Cond) ∈ BW := bw 951 (by decide +kernel) rfl
theorem bw_953 : (Jvm.Cond.instanceMethod ({ cls := "HumUnheard$Diary", name := "add", desc := "(IIII)V" } : Jvm.MethodName) : Cond) ∈ BW := bw 953 (by decide +kernel) rfl
theorem bw_20 : Cond.selects "HumUnheard$Diary" ⟨"HumUnheard$Diary", "add", "(IIII)V"⟩ ⟨"HumUnheard$Diary", "add", "(IIII)V"⟩ ∈ BW := bw 20 (by decide +kernel) rfl
theorem gX1_34 : ∀ z, xCv (Cf z) RX1 34 MX1_add 4 := fun z => ⟨cmX1_add z, bw_951, bw_953, bw_20⟩
theorem pX1_9 : ∀ z, xFp (Cf z) RX1 9 1 0 (.int) := fun z => ⟨(RX1, TX1, 7), rfl, by decide, bw_133, rfl, by decide +kernel⟩
theorem pX1_15 : ∀ z, xFp (Cf z) RX1 15 1 1 (.int) := fun z => ⟨(RX1, TX1, 7), rfl, by decide, bw_135, rfl, by decide +kernel⟩
theorem pX1_18 : ∀ z, xFp (Cf z) RX1 18 1 2 (.int) := fun z => ⟨(RX1, TX1, 7), rfl, by decide, bw_137, rfl, by decide +kernel⟩
theorem pX1_21 : ∀ z, xFf (Cf z) RX1 21 1 3 (.array .int) := fun z => ⟨(RX1, TX1, 7), rfl, by decide, bw_139, rfl, rfl, by decide +kernel⟩
theorem pX1_25 : ∀ z, xFf (Cf z) RX1 25 1 4 (.array .int) := fun z => ⟨(RX1, TX1, 7), rfl, by decide, bw_141, rfl, rfl, by decide +kernel⟩
theorem pX1_28 : ∀ z, xFf (Cf z) RX1 28 1 5 (.array .int) := fun z => ⟨(RX1, TX1, 7), rfl, by decide, bw_143, rfl, rfl, by decide +kernel⟩
theorem pX1_31 : ∀ z, xFf (Cf z) RX1 31 1 6 (.array .int) := fun z => ⟨(RX1, TX1, 7), rfl, by decide, bw_145, rfl, rfl, by decide +kernel⟩
theorem bw_169 : (Jvm.Cond.fieldLink "HumUnheard$Letters" (9 : Nat) "HumUnheard$Letters" "count" "I" : Cond) ∈ BW := bw 169 (by decide +kernel) rfl
theorem fX2_9 : ∀ z, xFd (Cf z) RX2 9 2 0 := fun z => ⟨(RX2, TX2, 4), rfl, by decide, bw_169⟩
theorem bw_172 : (Jvm.Cond.fieldLink "HumUnheard$Letters" (15 : Nat) "HumUnheard$Letters" "who" "[I" : Cond) ∈ BW := bw 172 (by decide +kernel) rfl
theorem fX2_15 : ∀ z, xFd (Cf z) RX2 15 2 1 := fun z => ⟨(RX2, TX2, 4), rfl, by decide, bw_172⟩
theorem bw_174 : (Jvm.Cond.fieldLink "HumUnheard$Letters" (19 : Nat) "HumUnheard$Letters" "came" "[I" : Cond) ∈ BW := bw 174 (by decide +kernel) rfl
theorem fX2_19 : ∀ z, xFd (Cf z) RX2 19 2 2 := fun z => ⟨(RX2, TX2, 4), rfl, by decide, bw_174⟩
theorem bw_176 : (Jvm.Cond.fieldLink "HumUnheard$Letters" (22 : Nat) "HumUnheard$Letters" "since" "[I" : Cond) ∈ BW := bw 176 (by decide +kernel) rfl
theorem fX2_22 : ∀ z, xFd (Cf z) RX2 22 2 3 := fun z => ⟨(RX2, TX2, 4), rfl, by decide, bw_176⟩
theorem bw_168 : (Jvm.Cond.methodLink "HumUnheard$Letters" (3 : Nat) ({ cls := "java/lang/Object", name := "<init>", desc := "()V" } : Jvm.MethodName) : Cond) ∈ BW := bw 168 (by decide +kernel) rfl
theorem gX2_3 : ∀ z, Cond.methodLink RX2 3 objectInit ∈ (Cf z).1 := fun z => bw_168
theorem bw_1229 : (Jvm.Cond.methodLink "HumUnheard$Letters" (25 : Nat) ({ cls := "java/lang/System", name := "arraycopy", desc := "(Ljava/lang/Object;ILjava/lang/Object;II)V" } : Jvm.MethodName) : Cond) ∈ BW := bw 1229 (by decide +kernel) rfl
theorem gX2_25 : ∀ z, xCp (Cf z) RX2 25 := fun z => ⟨bw_1229, bw_282, bw_281, bw_88⟩
theorem pX2_9 : ∀ z, xFp (Cf z) RX2 9 2 0 (.int) := fun z => ⟨(RX2, TX2, 4), rfl, by decide, bw_169, rfl, by decide +kernel⟩
theorem pX2_15 : ∀ z, xFf (Cf z) RX2 15 2 1 (.array .int) := fun z => ⟨(RX2, TX2, 4), rfl, by decide, bw_172, rfl, rfl, by decide +kernel⟩
theorem pX2_19 : ∀ z, xFf (Cf z) RX2 19 2 2 (.array .int) := fun z => ⟨(RX2, TX2, 4), rfl, by decide, bw_174, rfl, rfl, by decide +kernel⟩
theorem pX2_22 : ∀ z, xFf (Cf z) RX2 22 2 3 (.array .int) := fun z => ⟨(RX2, TX2, 4), rfl, by decide, bw_176, rfl, rfl, by decide +kernel⟩
theorem bw_192 : (Jvm.Cond.fieldLink "HumUnheard$Person" (7 : Nat) "HumUnheard$Person" "spot" "I" : Cond) ∈ BW := bw 192 (by decide +kernel) rfl
theorem fX3_7 : ∀ z, xFd (Cf z) RX3 7 3 0 := fun z => ⟨(RX3, TX3, 5), rfl, by decide, bw_192⟩
theorem bw_196 : (Jvm.Cond.fieldLink "HumUnheard$Person" (13 : Nat) "HumUnheard$Person" "bestTone" "I" : Cond) ∈ BW := bw 196 (by decide +kernel) rfl
theorem fX3_13 : ∀ z, xFd (Cf z) RX3 13 3 1 := fun z => ⟨(RX3, TX3, 5), rfl, by decide, bw_196⟩
theorem bw_197 : (Jvm.Cond.fieldLink "HumUnheard$Person" (16 : Nat) "HumUnheard$Person" "least" "I" : Cond) ∈ BW := bw 197 (by decide +kernel) rfl
theorem fX3_16 : ∀ z, xFd (Cf z) RX3 16 3 2 := fun z => ⟨(RX3, TX3, 5), rfl, by decide, bw_197⟩
theorem bw_198 : (Jvm.Cond.fieldLink "HumUnheard$Person" (19 : Nat) "HumUnheard$Person" "slope" "I" : Cond) ∈ BW := bw 198 (by decide +kernel) rfl
theorem fX3_19 : ∀ z, xFd (Cf z) RX3 19 3 3 := fun z => ⟨(RX3, TX3, 5), rfl, by decide, bw_198⟩
theorem bw_199 : (Jvm.Cond.fieldLink "HumUnheard$Person" (22 : Nat) "HumUnheard$Person" "reads" "Z" : Cond) ∈ BW := bw 199 (by decide +kernel) rfl
theorem fX3_22 : ∀ z, xFd (Cf z) RX3 22 3 4 := fun z => ⟨(RX3, TX3, 5), rfl, by decide, bw_199⟩
theorem bw_191 : (Jvm.Cond.methodLink "HumUnheard$Person" (1 : Nat) ({ cls := "java/lang/Object", name := "<init>", desc := "()V" } : Jvm.MethodName) : Cond) ∈ BW := bw 191 (by decide +kernel) rfl
theorem gX3_1 : ∀ z, Cond.methodLink RX3 1 objectInit ∈ (Cf z).1 := fun z => bw_191
theorem bw_914 : (Jvm.Cond.methodLink "HumUnheard$Person" (30 : Nat) ({ cls := "java/lang/Math", name := "abs", desc := "(I)I" } : Jvm.MethodName) : Cond) ∈ BW := bw 914 (by decide +kernel) rfl
theorem gX3_30 : ∀ z, xMp (Cf z) RX3 30 Lib.Math.abs.name Lib.Math.abs.code 1 := fun z => ⟨bw_914, bw_644, bw_93, bw 645 (by decide +kernel) rfl⟩
theorem bw_619 : (Jvm.Cond.code ({ cls := "HumUnheard$Person", name := "begin", desc := "(IIIIZ)V" } : Jvm.MethodName) prog_5_method_2_code (6 : Nat) (Option.none : Option Jvm.ClassFile.FieldType) : Cond) ∈ BW := bw 619 (by decide +kernel) rfl
theorem cmX3_begin : ∀ z, xCm (Cf z) MX3_begin 5 := fun z => ⟨bw_85, bw_619, by decide +kernel, by decide, by decide +kernel⟩
theorem bw_1215 : (Jvm.Cond.methodLink "HumUnheard$Person" (26 : Nat) ({ cls := "HumUnheard$Person", name := "begin", desc := "(IIIIZ)V" } : Jvm.MethodName) : Cond) ∈ BW := bw 1215 (by decide +kernel) rfl
theorem bw_617 : (Jvm.Cond.instanceMethod ({ cls := "HumUnheard$Person", name := "begin", desc := "(IIIIZ)V" } : Jvm.MethodName) : Cond) ∈ BW := bw 617 (by decide +kernel) rfl
theorem bw_618 : (Jvm.Cond.selects "HumUnheard$Person" ({ cls := "HumUnheard$Person", name := "begin", desc := "(IIIIZ)V" } : Jvm.MethodName) ({ cls := "HumUnheard$Person", name := "begin", desc := "(IIIIZ)V" } : Jvm.MethodName) : Cond) ∈ BW := bw 618 (by decide +kernel) rfl
theorem gX3_26 : ∀ z, xCv (Cf z) RX3 26 MX3_begin 5 := fun z => ⟨cmX3_begin z, bw_1215, bw_617, bw_618⟩
theorem pX3_7 : ∀ z, xFp (Cf z) RX3 7 3 0 (.int) := fun z => ⟨(RX3, TX3, 5), rfl, by decide, bw_192, rfl, by decide +kernel⟩
theorem pX3_13 : ∀ z, xFp (Cf z) RX3 13 3 1 (.int) := fun z => ⟨(RX3, TX3, 5), rfl, by decide, bw_196, rfl, by decide +kernel⟩
theorem pX3_16 : ∀ z, xFp (Cf z) RX3 16 3 2 (.int) := fun z => ⟨(RX3, TX3, 5), rfl, by decide, bw_197, rfl, by decide +kernel⟩
theorem pX3_19 : ∀ z, xFp (Cf z) RX3 19 3 3 (.int) := fun z => ⟨(RX3, TX3, 5), rfl, by decide, bw_198, rfl, by decide +kernel⟩
theorem pX3_22 : ∀ z, xFp (Cf z) RX3 22 3 4 (.boolean) := fun z => ⟨(RX3, TX3, 5), rfl, by decide, bw_199, rfl, by decide +kernel⟩
theorem bw_258 : (Jvm.Cond.fieldLink "HumUnheard$Plan" (9 : Nat) "HumUnheard$Plan" "count" "I" : Cond) ∈ BW := bw 258 (by decide +kernel) rfl
theorem fX4_9 : ∀ z, xFd (Cf z) RX4 9 4 0 := fun z => ⟨(RX4, TX4, 6), rfl, by decide, bw_258⟩
theorem bw_260 : (Jvm.Cond.fieldLink "HumUnheard$Plan" (15 : Nat) "HumUnheard$Plan" "source" "[I" : Cond) ∈ BW := bw 260 (by decide +kernel) rfl
theorem fX4_15 : ∀ z, xFd (Cf z) RX4 15 4 1 := fun z => ⟨(RX4, TX4, 6), rfl, by decide, bw_260⟩
theorem bw_261 : (Jvm.Cond.fieldLink "HumUnheard$Plan" (19 : Nat) "HumUnheard$Plan" "from" "[I" : Cond) ∈ BW := bw 261 (by decide +kernel) rfl
theorem fX4_19 : ∀ z, xFd (Cf z) RX4 19 4 2 := fun z => ⟨(RX4, TX4, 6), rfl, by decide, bw_261⟩
theorem bw_262 : (Jvm.Cond.fieldLink "HumUnheard$Plan" (22 : Nat) "HumUnheard$Plan" "till" "[I" : Cond) ∈ BW := bw 262 (by decide +kernel) rfl
theorem fX4_22 : ∀ z, xFd (Cf z) RX4 22 4 3 := fun z => ⟨(RX4, TX4, 6), rfl, by decide, bw_262⟩
theorem bw_263 : (Jvm.Cond.fieldLink "HumUnheard$Plan" (25 : Nat) "HumUnheard$Plan" "each" "[I" : Cond) ∈ BW := bw 263 (by decide +kernel) rfl
theorem fX4_25 : ∀ z, xFd (Cf z) RX4 25 4 4 := fun z => ⟨(RX4, TX4, 6), rfl, by decide, bw_263⟩
theorem bw_264 : (Jvm.Cond.fieldLink "HumUnheard$Plan" (28 : Nat) "HumUnheard$Plan" "isOff" "[I" : Cond) ∈ BW := bw 264 (by decide +kernel) rfl
theorem fX4_28 : ∀ z, xFd (Cf z) RX4 28 4 5 := fun z => ⟨(RX4, TX4, 6), rfl, by decide, bw_264⟩
theorem bw_257 : (Jvm.Cond.methodLink "HumUnheard$Plan" (3 : Nat) ({ cls := "java/lang/Object", name := "<init>", desc := "()V" } : Jvm.MethodName) : Cond) ∈ BW := bw 257 (by decide +kernel) rfl
theorem gX4_3 : ∀ z, Cond.methodLink RX4 3 objectInit ∈ (Cf z).1 := fun z => bw_257
theorem bw_833 : (Jvm.Cond.methodLink "HumUnheard$Plan" (31 : Nat) ({ cls := "java/lang/System", name := "arraycopy", desc := "(Ljava/lang/Object;ILjava/lang/Object;II)V" } : Jvm.MethodName) : Cond) ∈ BW := bw 833 (by decide +kernel) rfl
theorem gX4_31 : ∀ z, xCp (Cf z) RX4 31 := fun z => ⟨bw_833, bw_282, bw_281, bw_88⟩
theorem gX4_41 : ∀ z, xCs (Cf z) RX4 41 MX10_bit 1 ∨ ∃ h, xCsN (Cf z) RX4 41 MX10_bit 1 h := fun z => Or.inr ⟨"HumUnheard", cmX10_bit z, nw 866 (by decide +kernel) rfl, bw_647⟩
theorem bw_87 : (Jvm.Cond.initialized "HumUnheard$Plan" : Cond) ∈ BW := bw 87 (by decide +kernel) rfl
theorem bw_865 : (Jvm.Cond.code ({ cls := "HumUnheard$Plan", name := "isOfHour", desc := "(II)Z" } : Jvm.MethodName) prog_6_method_4_code (4 : Nat) (Option.some Jvm.ClassFile.FieldType.boolean) : Cond) ∈ BW := bw 865 (by decide +kernel) rfl
theorem cmX4_isOfHour : ∀ z, xCm (Cf z) MX4_isOfHour 2 := fun z => ⟨bw_87, bw_865, by decide +kernel, by decide, by decide +kernel⟩
theorem bw_862 : (Jvm.Cond.methodLink "HumUnheard$Plan" (37 : Nat) ({ cls := "HumUnheard$Plan", name := "isOfHour", desc := "(II)Z" } : Jvm.MethodName) : Cond) ∈ BW := bw 862 (by decide +kernel) rfl
theorem bw_864 : (Jvm.Cond.instanceMethod ({ cls := "HumUnheard$Plan", name := "isOfHour", desc := "(II)Z" } : Jvm.MethodName) : Cond) ∈ BW := bw 864 (by decide +kernel) rfl
theorem bw_16 : Cond.selects "HumUnheard$Plan" ⟨"HumUnheard$Plan", "isOfHour", "(II)Z"⟩ ⟨"HumUnheard$Plan", "isOfHour", "(II)Z"⟩ ∈ BW := bw 16 (by decide +kernel) rfl
theorem gX4_37 : ∀ z, xCv (Cf z) RX4 37 MX4_isOfHour 2 := fun z => ⟨cmX4_isOfHour z, bw_862, bw_864, bw_16⟩
theorem pX4_9 : ∀ z, xFp (Cf z) RX4 9 4 0 (.int) := fun z => ⟨(RX4, TX4, 6), rfl, by decide, bw_258, rfl, by decide +kernel⟩
theorem pX4_15 : ∀ z, xFf (Cf z) RX4 15 4 1 (.array .int) := fun z => ⟨(RX4, TX4, 6), rfl, by decide, bw_260, rfl, rfl, by decide +kernel⟩
theorem pX4_19 : ∀ z, xFf (Cf z) RX4 19 4 2 (.array .int) := fun z => ⟨(RX4, TX4, 6), rfl, by decide, bw_261, rfl, rfl, by decide +kernel⟩
theorem pX4_22 : ∀ z, xFf (Cf z) RX4 22 4 3 (.array .int) := fun z => ⟨(RX4, TX4, 6), rfl, by decide, bw_262, rfl, rfl, by decide +kernel⟩
theorem pX4_25 : ∀ z, xFf (Cf z) RX4 25 4 4 (.array .int) := fun z => ⟨(RX4, TX4, 6), rfl, by decide, bw_263, rfl, rfl, by decide +kernel⟩
theorem pX4_28 : ∀ z, xFf (Cf z) RX4 28 4 5 (.array .int) := fun z => ⟨(RX4, TX4, 6), rfl, by decide, bw_264, rfl, rfl, by decide +kernel⟩
theorem bw_383 : (Jvm.Cond.fieldLink "HumUnheard$Reader" (9 : Nat) "HumUnheard$Reader" "signs" "[I" : Cond) ∈ BW := bw 383 (by decide +kernel) rfl
theorem fX5_9 : ∀ z, xFd (Cf z) RX5 9 5 0 := fun z => ⟨(RX5, TX5, 8), rfl, by decide, bw_383⟩
theorem bw_384 : (Jvm.Cond.fieldLink "HumUnheard$Reader" (15 : Nat) "HumUnheard$Reader" "count" "I" : Cond) ∈ BW := bw 384 (by decide +kernel) rfl
theorem fX5_15 : ∀ z, xFd (Cf z) RX5 15 5 1 := fun z => ⟨(RX5, TX5, 8), rfl, by decide, bw_384⟩
theorem bw_385 : (Jvm.Cond.fieldLink "HumUnheard$Reader" (19 : Nat) "HumUnheard$Reader" "at" "I" : Cond) ∈ BW := bw 385 (by decide +kernel) rfl
theorem fX5_19 : ∀ z, xFd (Cf z) RX5 19 5 2 := fun z => ⟨(RX5, TX5, 8), rfl, by decide, bw_385⟩
theorem bw_386 : (Jvm.Cond.fieldLink "HumUnheard$Reader" (22 : Nat) "HumUnheard$Reader" "number" "I" : Cond) ∈ BW := bw 386 (by decide +kernel) rfl
theorem fX5_22 : ∀ z, xFd (Cf z) RX5 22 5 3 := fun z => ⟨(RX5, TX5, 8), rfl, by decide, bw_386⟩
theorem bw_387 : (Jvm.Cond.fieldLink "HumUnheard$Reader" (25 : Nat) "HumUnheard$Reader" "faultFound" "I" : Cond) ∈ BW := bw 387 (by decide +kernel) rfl
theorem fX5_25 : ∀ z, xFd (Cf z) RX5 25 5 4 := fun z => ⟨(RX5, TX5, 8), rfl, by decide, bw_387⟩
theorem bw_389 : (Jvm.Cond.fieldLink "HumUnheard$Reader" (28 : Nat) "HumUnheard$Reader" "lawsTold" "I" : Cond) ∈ BW := bw 389 (by decide +kernel) rfl
theorem fX5_28 : ∀ z, xFd (Cf z) RX5 28 5 5 := fun z => ⟨(RX5, TX5, 8), rfl, by decide, bw_389⟩
theorem bw_391 : (Jvm.Cond.fieldLink "HumUnheard$Reader" (31 : Nat) "HumUnheard$Reader" "lawsRead" "[I" : Cond) ∈ BW := bw 391 (by decide +kernel) rfl
theorem fX5_31 : ∀ z, xFd (Cf z) RX5 31 5 6 := fun z => ⟨(RX5, TX5, 8), rfl, by decide, bw_391⟩
theorem bw_393 : (Jvm.Cond.fieldLink "HumUnheard$Reader" (37 : Nat) "HumUnheard$Reader" "planRead" "LHumUnheard$Plan;" : Cond) ∈ BW := bw 393 (by decide +kernel) rfl
theorem fX5_37 : ∀ z, xFd (Cf z) RX5 37 5 7 := fun z => ⟨(RX5, TX5, 8), rfl, by decide, bw_393⟩
theorem sX5_109 : ∀ z, Cond.fieldLinkNest RX5 109 "HumUnheard" "LEAST_LAWS" "[I" "HumUnheard" ∈ (Cf z).2.1 := fun z => nw 781 (by decide +kernel) rfl
theorem sX5_112 : ∀ z, Cond.fieldLinkNest RX5 112 "HumUnheard" "MOST_LAWS" "[I" "HumUnheard" ∈ (Cf z).2.1 := fun z => nw 783 (by decide +kernel) rfl
theorem bw_380 : (Jvm.Cond.methodLink "HumUnheard$Reader" (3 : Nat) ({ cls := "java/lang/Object", name := "<init>", desc := "()V" } : Jvm.MethodName) : Cond) ∈ BW := bw 380 (by decide +kernel) rfl
theorem gX5_3 : ∀ z, Cond.methodLink RX5 3 objectInit ∈ (Cf z).1 := fun z => bw_380
theorem bw_256 : (Jvm.Cond.code ({ cls := "HumUnheard$Plan", name := "<init>", desc := "()V" } : Jvm.MethodName) prog_6_method_1_code (1 : Nat) (Option.none : Option Jvm.ClassFile.FieldType) : Cond) ∈ BW := bw 256 (by decide +kernel) rfl
theorem cmX4_init : ∀ z, xCm (Cf z) MX4_init 0 := fun z => ⟨bw_87, bw_256, by decide +kernel, by decide, by decide +kernel⟩
theorem bw_255 : (Jvm.Cond.instanceMethod ({ cls := "HumUnheard$Plan", name := "<init>", desc := "()V" } : Jvm.MethodName) : Cond) ∈ BW := bw 255 (by decide +kernel) rfl
theorem gX5_36 : ∀ z, xCi (Cf z) RX5 36 MX4_init 0 ∨ ∃ h, xCiN (Cf z) RX5 36 MX4_init 0 h := fun z => Or.inr ⟨"HumUnheard", cmX4_init z, nw 382 (by decide +kernel) rfl, bw_255, rfl, rfl⟩
theorem bw_699 : (Jvm.Cond.methodLink "HumUnheard$Reader" (45 : Nat) ({ cls := "java/lang/System", name := "arraycopy", desc := "(Ljava/lang/Object;ILjava/lang/Object;II)V" } : Jvm.MethodName) : Cond) ∈ BW := bw 699 (by decide +kernel) rfl
theorem gX5_45 : ∀ z, xCp (Cf z) RX5 45 := fun z => ⟨bw_699, bw_282, bw_281, bw_88⟩
theorem gX5_94 : ∀ z, xCs (Cf z) RX5 94 MX10_isWithin 3 ∨ ∃ h, xCsN (Cf z) RX5 94 MX10_isWithin 3 h := fun z => Or.inr ⟨"HumUnheard", cmX10_isWithin z, nw 793 (by decide +kernel) rfl, bw_483⟩
theorem bw_706 : (Jvm.Cond.code ({ cls := "HumUnheard$Reader", name := "lawName", desc := "(I)Ljava/lang/String;" } : Jvm.MethodName) prog_7_method_14_code (1 : Nat) (Option.some (Jvm.ClassFile.FieldType.object "java/lang/String")) : Cond) ∈ BW := bw 706 (by decide +kernel) rfl
theorem cmX5_lawName : ∀ z, xCm (Cf z) MX5_lawName 1 := fun z => ⟨bw_89, bw_706, by decide +kernel, by decide, by decide +kernel⟩
theorem bw_704 : (Jvm.Cond.methodLink "HumUnheard$Reader" (98 : Nat) ({ cls := "HumUnheard$Reader", name := "lawName", desc := "(I)Ljava/lang/String;" } : Jvm.MethodName) : Cond) ∈ BW := bw 704 (by decide +kernel) rfl
theorem bw_705 : (Jvm.Cond.static ({ cls := "HumUnheard$Reader", name := "lawName", desc := "(I)Ljava/lang/String;" } : Jvm.MethodName) : Cond) ∈ BW := bw 705 (by decide +kernel) rfl
theorem gX5_98 : ∀ z, xCs (Cf z) RX5 98 MX5_lawName 1 ∨ ∃ h, xCsN (Cf z) RX5 98 MX5_lawName 1 h := fun z => Or.inl ⟨cmX5_lawName z, bw_704, bw_705⟩
theorem bw_689 : (Jvm.Cond.code ({ cls := "HumUnheard$Reader", name := "begin", desc := "(LHumUnheard$Shelf;)V" } : Jvm.MethodName) prog_7_method_4_code (3 : Nat) (Option.none : Option Jvm.ClassFile.FieldType) : Cond) ∈ BW := bw 689 (by decide +kernel) rfl
theorem cmX5_begin : ∀ z, xCm (Cf z) MX5_begin 1 := fun z => ⟨bw_89, bw_689, by decide +kernel, by decide, by decide +kernel⟩
theorem bw_686 : (Jvm.Cond.methodLink "HumUnheard$Reader" (41 : Nat) ({ cls := "HumUnheard$Reader", name := "begin", desc := "(LHumUnheard$Shelf;)V" } : Jvm.MethodName) : Cond) ∈ BW := bw 686 (by decide +kernel) rfl
theorem bw_688 : (Jvm.Cond.instanceMethod ({ cls := "HumUnheard$Reader", name := "begin", desc := "(LHumUnheard$Shelf;)V" } : Jvm.MethodName) : Cond) ∈ BW := bw 688 (by decide +kernel) rfl
theorem bw_4 : Cond.selects "HumUnheard$Reader" ⟨"HumUnheard$Reader", "begin", "(LHumUnheard$Shelf;)V"⟩ ⟨"HumUnheard$Reader", "begin", "(LHumUnheard$Shelf;)V"⟩ ∈ BW := bw 4 (by decide +kernel) rfl
theorem gX5_41 : ∀ z, xCv (Cf z) RX5 41 MX5_begin 1 := fun z => ⟨cmX5_begin z, bw_686, bw_688, bw_4⟩
theorem bw_703 : (Jvm.Cond.code ({ cls := "HumUnheard$Reader", name := "readLaw", desc := "()Z" } : Jvm.MethodName) prog_7_method_12_code (2 : Nat) (Option.some Jvm.ClassFile.FieldType.boolean) : Cond) ∈ BW := bw 703 (by decide +kernel) rfl
theorem cmX5_readLaw : ∀ z, xCm (Cf z) MX5_readLaw 0 := fun z => ⟨bw_89, bw_703, by decide +kernel, by decide, by decide +kernel⟩
theorem bw_700 : (Jvm.Cond.methodLink "HumUnheard$Reader" (51 : Nat) ({ cls := "HumUnheard$Reader", name := "readLaw", desc := "()Z" } : Jvm.MethodName) : Cond) ∈ BW := bw 700 (by decide +kernel) rfl
theorem bw_702 : (Jvm.Cond.instanceMethod ({ cls := "HumUnheard$Reader", name := "readLaw", desc := "()Z" } : Jvm.MethodName) : Cond) ∈ BW := bw 702 (by decide +kernel) rfl
theorem bw_5 : Cond.selects "HumUnheard$Reader" ⟨"HumUnheard$Reader", "readLaw", "()Z"⟩ ⟨"HumUnheard$Reader", "readLaw", "()Z"⟩ ∈ BW := bw 5 (by decide +kernel) rfl
theorem gX5_51 : ∀ z, xCv (Cf z) RX5 51 MX5_readLaw 0 := fun z => ⟨cmX5_readLaw z, bw_700, bw_702, bw_5⟩
theorem bw_797 : (Jvm.Cond.code ({ cls := "HumUnheard$Reader", name := "goesOn", desc := "()Z" } : Jvm.MethodName) prog_7_method_9_code (1 : Nat) (Option.some Jvm.ClassFile.FieldType.boolean) : Cond) ∈ BW := bw 797 (by decide +kernel) rfl
theorem cmX5_goesOn : ∀ z, xCm (Cf z) MX5_goesOn 0 := fun z => ⟨bw_89, bw_797, by decide +kernel, by decide, by decide +kernel⟩
theorem bw_794 : (Jvm.Cond.methodLink "HumUnheard$Reader" (55 : Nat) ({ cls := "HumUnheard$Reader", name := "goesOn", desc := "()Z" } : Jvm.MethodName) : Cond) ∈ BW := bw 794 (by decide +kernel) rfl
theorem bw_796 : (Jvm.Cond.instanceMethod ({ cls := "HumUnheard$Reader", name := "goesOn", desc := "()Z" } : Jvm.MethodName) : Cond) ∈ BW := bw 796 (by decide +kernel) rfl
theorem bw_13 : Cond.selects "HumUnheard$Reader" ⟨"HumUnheard$Reader", "goesOn", "()Z"⟩ ⟨"HumUnheard$Reader", "goesOn", "()Z"⟩ ∈ BW := bw 13 (by decide +kernel) rfl
theorem gX5_55 : ∀ z, xCv (Cf z) RX5 55 MX5_goesOn 0 := fun z => ⟨cmX5_goesOn z, bw_794, bw_796, bw_13⟩
theorem bw_815 : (Jvm.Cond.code ({ cls := "HumUnheard$Reader", name := "readItem", desc := "(I)Z" } : Jvm.MethodName) prog_7_method_15_code (7 : Nat) (Option.some Jvm.ClassFile.FieldType.boolean) : Cond) ∈ BW := bw 815 (by decide +kernel) rfl
theorem cmX5_readItem : ∀ z, xCm (Cf z) MX5_readItem 1 := fun z => ⟨bw_89, bw_815, by decide +kernel, by decide, by decide +kernel⟩
theorem bw_812 : (Jvm.Cond.methodLink "HumUnheard$Reader" (59 : Nat) ({ cls := "HumUnheard$Reader", name := "readItem", desc := "(I)Z" } : Jvm.MethodName) : Cond) ∈ BW := bw 812 (by decide +kernel) rfl
theorem bw_814 : (Jvm.Cond.instanceMethod ({ cls := "HumUnheard$Reader", name := "readItem", desc := "(I)Z" } : Jvm.MethodName) : Cond) ∈ BW := bw 814 (by decide +kernel) rfl
theorem bw_14 : Cond.selects "HumUnheard$Reader" ⟨"HumUnheard$Reader", "readItem", "(I)Z"⟩ ⟨"HumUnheard$Reader", "readItem", "(I)Z"⟩ ∈ BW := bw 14 (by decide +kernel) rfl
theorem gX5_59 : ∀ z, xCv (Cf z) RX5 59 MX5_readItem 1 := fun z => ⟨cmX5_readItem z, bw_812, bw_814, bw_14⟩
theorem bw_780 : (Jvm.Cond.code ({ cls := "HumUnheard$Reader", name := "failAt", desc := "(I)Z" } : Jvm.MethodName) prog_7_method_5_code (2 : Nat) (Option.some Jvm.ClassFile.FieldType.boolean) : Cond) ∈ BW := bw 780 (by decide +kernel) rfl
theorem cmX5_failAt : ∀ z, xCm (Cf z) MX5_failAt 1 := fun z => ⟨bw_89, bw_780, by decide +kernel, by decide, by decide +kernel⟩
theorem bw_777 : (Jvm.Cond.methodLink "HumUnheard$Reader" (63 : Nat) ({ cls := "HumUnheard$Reader", name := "failAt", desc := "(I)Z" } : Jvm.MethodName) : Cond) ∈ BW := bw 777 (by decide +kernel) rfl
theorem bw_779 : (Jvm.Cond.instanceMethod ({ cls := "HumUnheard$Reader", name := "failAt", desc := "(I)Z" } : Jvm.MethodName) : Cond) ∈ BW := bw 779 (by decide +kernel) rfl
theorem bw_10 : Cond.selects "HumUnheard$Reader" ⟨"HumUnheard$Reader", "failAt", "(I)Z"⟩ ⟨"HumUnheard$Reader", "failAt", "(I)Z"⟩ ∈ BW := bw 10 (by decide +kernel) rfl
theorem gX5_63 : ∀ z, xCv (Cf z) RX5 63 MX5_failAt 1 := fun z => ⟨cmX5_failAt z, bw_777, bw_779, bw_10⟩
theorem bw_693 : (Jvm.Cond.code ({ cls := "HumUnheard$Shelf", name := "count", desc := "()I" } : Jvm.MethodName) prog_9_method_3_code (1 : Nat) (Option.some Jvm.ClassFile.FieldType.int) : Cond) ∈ BW := bw 693 (by decide +kernel) rfl
theorem cmX7_count : ∀ z, xCm (Cf z) MX7_count 0 := fun z => ⟨bw_91, bw_693, by decide +kernel, by decide, by decide +kernel⟩
theorem bw_690 : (Jvm.Cond.methodLink "HumUnheard$Reader" (66 : Nat) ({ cls := "HumUnheard$Shelf", name := "count", desc := "()I" } : Jvm.MethodName) : Cond) ∈ BW := bw 690 (by decide +kernel) rfl
theorem bw_691 : (Jvm.Cond.instanceMethod ({ cls := "HumUnheard$Shelf", name := "count", desc := "()I" } : Jvm.MethodName) : Cond) ∈ BW := bw 691 (by decide +kernel) rfl
theorem bw_692 : (Jvm.Cond.selects "HumUnheard$Shelf" ({ cls := "HumUnheard$Shelf", name := "count", desc := "()I" } : Jvm.MethodName) ({ cls := "HumUnheard$Shelf", name := "count", desc := "()I" } : Jvm.MethodName) : Cond) ∈ BW := bw 692 (by decide +kernel) rfl
theorem gX5_66 : ∀ z, xCv (Cf z) RX5 66 MX7_count 0 := fun z => ⟨cmX7_count z, bw_690, bw_691, bw_692⟩
theorem bw_697 : (Jvm.Cond.code ({ cls := "HumUnheard$Shelf", name := "intAt", desc := "(I)I" } : Jvm.MethodName) prog_9_method_14_code (2 : Nat) (Option.some Jvm.ClassFile.FieldType.int) : Cond) ∈ BW := bw 697 (by decide +kernel) rfl
theorem cmX7_intAt : ∀ z, xCm (Cf z) MX7_intAt 1 := fun z => ⟨bw_91, bw_697, by decide +kernel, by decide, by decide +kernel⟩
theorem bw_694 : (Jvm.Cond.methodLink "HumUnheard$Reader" (71 : Nat) ({ cls := "HumUnheard$Shelf", name := "intAt", desc := "(I)I" } : Jvm.MethodName) : Cond) ∈ BW := bw 694 (by decide +kernel) rfl
theorem bw_695 : (Jvm.Cond.instanceMethod ({ cls := "HumUnheard$Shelf", name := "intAt", desc := "(I)I" } : Jvm.MethodName) : Cond) ∈ BW := bw 695 (by decide +kernel) rfl
theorem bw_696 : (Jvm.Cond.selects "HumUnheard$Shelf" ({ cls := "HumUnheard$Shelf", name := "intAt", desc := "(I)I" } : Jvm.MethodName) ({ cls := "HumUnheard$Shelf", name := "intAt", desc := "(I)I" } : Jvm.MethodName) : Cond) ∈ BW := bw 696 (by decide +kernel) rfl
theorem gX5_71 : ∀ z, xCv (Cf z) RX5 71 MX7_intAt 1 := fun z => ⟨cmX7_intAt z, bw_694, bw_695, bw_696⟩
theorem bw_756 : (Jvm.Cond.code ({ cls := "HumUnheard$Reader", name := "isNext", desc := "(C)Z" } : Jvm.MethodName) prog_7_method_6_code (2 : Nat) (Option.some Jvm.ClassFile.FieldType.boolean) : Cond) ∈ BW := bw 756 (by decide +kernel) rfl
theorem cmX5_isNext : ∀ z, xCm (Cf z) MX5_isNext 1 := fun z => ⟨bw_89, bw_756, by decide +kernel, by decide, by decide +kernel⟩
theorem bw_753 : (Jvm.Cond.methodLink "HumUnheard$Reader" (75 : Nat) ({ cls := "HumUnheard$Reader", name := "isNext", desc := "(C)Z" } : Jvm.MethodName) : Cond) ∈ BW := bw 753 (by decide +kernel) rfl
theorem bw_755 : (Jvm.Cond.instanceMethod ({ cls := "HumUnheard$Reader", name := "isNext", desc := "(C)Z" } : Jvm.MethodName) : Cond) ∈ BW := bw 755 (by decide +kernel) rfl
theorem bw_6 : Cond.selects "HumUnheard$Reader" ⟨"HumUnheard$Reader", "isNext", "(C)Z"⟩ ⟨"HumUnheard$Reader", "isNext", "(C)Z"⟩ ∈ BW := bw 6 (by decide +kernel) rfl
theorem gX5_75 : ∀ z, xCv (Cf z) RX5 75 MX5_isNext 1 := fun z => ⟨cmX5_isNext z, bw_753, bw_755, bw_6⟩
theorem bw_94 : (Jvm.Cond.initialized "java/lang/String" : Cond) ∈ BW := bw 94 (by decide +kernel) rfl
theorem bw_768 : (Jvm.Cond.code ({ cls := "java/lang/String", name := "length", desc := "()I" } : Jvm.MethodName) prog_16_method_54_code (1 : Nat) (Option.some Jvm.ClassFile.FieldType.int) : Cond) ∈ BW := bw 768 (by decide +kernel) rfl
theorem cmJ0_length_8abf5 : ∀ z, xCm (Cf z) MJ0_length_8abf5 0 := fun z => ⟨bw_94, bw_768, by decide +kernel, by decide, by decide +kernel⟩
theorem bw_765 : (Jvm.Cond.methodLink "HumUnheard$Reader" (79 : Nat) ({ cls := "java/lang/String", name := "length", desc := "()I" } : Jvm.MethodName) : Cond) ∈ BW := bw 765 (by decide +kernel) rfl
theorem bw_766 : (Jvm.Cond.instanceMethod ({ cls := "java/lang/String", name := "length", desc := "()I" } : Jvm.MethodName) : Cond) ∈ BW := bw 766 (by decide +kernel) rfl
theorem bw_767 : (Jvm.Cond.selects "java/lang/String" ({ cls := "java/lang/String", name := "length", desc := "()I" } : Jvm.MethodName) ({ cls := "java/lang/String", name := "length", desc := "()I" } : Jvm.MethodName) : Cond) ∈ BW := bw 767 (by decide +kernel) rfl
theorem gX5_79 : ∀ z, xCv (Cf z) RX5 79 MJ0_length_8abf5 0 := fun z => ⟨cmJ0_length_8abf5 z, bw_765, bw_766, bw_767⟩
theorem bw_716 : (Jvm.Cond.code ({ cls := "java/lang/String", name := "charAt", desc := "(I)C" } : Jvm.MethodName) prog_16_method_56_code (2 : Nat) (Option.some Jvm.ClassFile.FieldType.char) : Cond) ∈ BW := bw 716 (by decide +kernel) rfl
theorem cmJ0_charAt_5068e : ∀ z, xCm (Cf z) MJ0_charAt_5068e 1 := fun z => ⟨bw_94, bw_716, by decide +kernel, by decide, by decide +kernel⟩
theorem bw_713 : (Jvm.Cond.methodLink "HumUnheard$Reader" (84 : Nat) ({ cls := "java/lang/String", name := "charAt", desc := "(I)C" } : Jvm.MethodName) : Cond) ∈ BW := bw 713 (by decide +kernel) rfl
theorem bw_714 : (Jvm.Cond.instanceMethod ({ cls := "java/lang/String", name := "charAt", desc := "(I)C" } : Jvm.MethodName) : Cond) ∈ BW := bw 714 (by decide +kernel) rfl
theorem bw_715 : (Jvm.Cond.selects "java/lang/String" ({ cls := "java/lang/String", name := "charAt", desc := "(I)C" } : Jvm.MethodName) ({ cls := "java/lang/String", name := "charAt", desc := "(I)C" } : Jvm.MethodName) : Cond) ∈ BW := bw 715 (by decide +kernel) rfl
theorem gX5_84 : ∀ z, xCv (Cf z) RX5 84 MJ0_charAt_5068e 1 := fun z => ⟨cmJ0_charAt_5068e z, bw_713, bw_714, bw_715⟩
theorem bw_776 : (Jvm.Cond.code ({ cls := "HumUnheard$Reader", name := "take", desc := "(C)Z" } : Jvm.MethodName) prog_7_method_7_code (2 : Nat) (Option.some Jvm.ClassFile.FieldType.boolean) : Cond) ∈ BW := bw 776 (by decide +kernel) rfl
theorem cmX5_take : ∀ z, xCm (Cf z) MX5_take 1 := fun z => ⟨bw_89, bw_776, by decide +kernel, by decide, by decide +kernel⟩
theorem bw_773 : (Jvm.Cond.methodLink "HumUnheard$Reader" (88 : Nat) ({ cls := "HumUnheard$Reader", name := "take", desc := "(C)Z" } : Jvm.MethodName) : Cond) ∈ BW := bw 773 (by decide +kernel) rfl
theorem bw_775 : (Jvm.Cond.instanceMethod ({ cls := "HumUnheard$Reader", name := "take", desc := "(C)Z" } : Jvm.MethodName) : Cond) ∈ BW := bw 775 (by decide +kernel) rfl
theorem bw_9 : Cond.selects "HumUnheard$Reader" ⟨"HumUnheard$Reader", "take", "(C)Z"⟩ ⟨"HumUnheard$Reader", "take", "(C)Z"⟩ ∈ BW := bw 9 (by decide +kernel) rfl
theorem gX5_88 : ∀ z, xCv (Cf z) RX5 88 MX5_take 1 := fun z => ⟨cmX5_take z, bw_773, bw_775, bw_9⟩
theorem bw_792 : (Jvm.Cond.code ({ cls := "HumUnheard$Reader", name := "isDigitNext", desc := "()Z" } : Jvm.MethodName) prog_7_method_10_code (1 : Nat) (Option.some Jvm.ClassFile.FieldType.boolean) : Cond) ∈ BW := bw 792 (by decide +kernel) rfl
theorem cmX5_isDigitNext : ∀ z, xCm (Cf z) MX5_isDigitNext 0 := fun z => ⟨bw_89, bw_792, by decide +kernel, by decide, by decide +kernel⟩
theorem bw_789 : (Jvm.Cond.methodLink "HumUnheard$Reader" (91 : Nat) ({ cls := "HumUnheard$Reader", name := "isDigitNext", desc := "()Z" } : Jvm.MethodName) : Cond) ∈ BW := bw 789 (by decide +kernel) rfl
theorem bw_791 : (Jvm.Cond.instanceMethod ({ cls := "HumUnheard$Reader", name := "isDigitNext", desc := "()Z" } : Jvm.MethodName) : Cond) ∈ BW := bw 791 (by decide +kernel) rfl
theorem bw_12 : Cond.selects "HumUnheard$Reader" ⟨"HumUnheard$Reader", "isDigitNext", "()Z"⟩ ⟨"HumUnheard$Reader", "isDigitNext", "()Z"⟩ ∈ BW := bw 12 (by decide +kernel) rfl
theorem gX5_91 : ∀ z, xCv (Cf z) RX5 91 MX5_isDigitNext 0 := fun z => ⟨cmX5_isDigitNext z, bw_789, bw_791, bw_12⟩
theorem bw_760 : (Jvm.Cond.code ({ cls := "HumUnheard$Reader", name := "readLawOf", desc := "(I)Z" } : Jvm.MethodName) prog_7_method_13_code (2 : Nat) (Option.some Jvm.ClassFile.FieldType.boolean) : Cond) ∈ BW := bw 760 (by decide +kernel) rfl
theorem cmX5_readLawOf : ∀ z, xCm (Cf z) MX5_readLawOf 1 := fun z => ⟨bw_89, bw_760, by decide +kernel, by decide, by decide +kernel⟩
theorem bw_757 : (Jvm.Cond.methodLink "HumUnheard$Reader" (102 : Nat) ({ cls := "HumUnheard$Reader", name := "readLawOf", desc := "(I)Z" } : Jvm.MethodName) : Cond) ∈ BW := bw 757 (by decide +kernel) rfl
theorem bw_759 : (Jvm.Cond.instanceMethod ({ cls := "HumUnheard$Reader", name := "readLawOf", desc := "(I)Z" } : Jvm.MethodName) : Cond) ∈ BW := bw 759 (by decide +kernel) rfl
theorem bw_7 : Cond.selects "HumUnheard$Reader" ⟨"HumUnheard$Reader", "readLawOf", "(I)Z"⟩ ⟨"HumUnheard$Reader", "readLawOf", "(I)Z"⟩ ∈ BW := bw 7 (by decide +kernel) rfl
theorem gX5_102 : ∀ z, xCv (Cf z) RX5 102 MX5_readLawOf 1 := fun z => ⟨cmX5_readLawOf z, bw_757, bw_759, bw_7⟩
theorem bw_764 : (Jvm.Cond.code ({ cls := "HumUnheard$Reader", name := "takeAll", desc := "(Ljava/lang/String;)Z" } : Jvm.MethodName) prog_7_method_8_code (3 : Nat) (Option.some Jvm.ClassFile.FieldType.boolean) : Cond) ∈ BW := bw 764 (by decide +kernel) rfl
theorem cmX5_takeAll : ∀ z, xCm (Cf z) MX5_takeAll 1 := fun z => ⟨bw_89, bw_764, by decide +kernel, by decide, by decide +kernel⟩
theorem bw_761 : (Jvm.Cond.methodLink "HumUnheard$Reader" (105 : Nat) ({ cls := "HumUnheard$Reader", name := "takeAll", desc := "(Ljava/lang/String;)Z" } : Jvm.MethodName) : Cond) ∈ BW := bw 761 (by decide +kernel) rfl
theorem bw_763 : (Jvm.Cond.instanceMethod ({ cls := "HumUnheard$Reader", name := "takeAll", desc := "(Ljava/lang/String;)Z" } : Jvm.MethodName) : Cond) ∈ BW := bw 763 (by decide +kernel) rfl
theorem bw_8 : Cond.selects "HumUnheard$Reader" ⟨"HumUnheard$Reader", "takeAll", "(Ljava/lang/String;)Z"⟩ ⟨"HumUnheard$Reader", "takeAll", "(Ljava/lang/String;)Z"⟩ ∈ BW := bw 8 (by decide +kernel) rfl
theorem gX5_105 : ∀ z, xCv (Cf z) RX5 105 MX5_takeAll 1 := fun z => ⟨cmX5_takeAll z, bw_761, bw_763, bw_8⟩
theorem bw_788 : (Jvm.Cond.code ({ cls := "HumUnheard$Reader", name := "readNumber", desc := "(II)Z" } : Jvm.MethodName) prog_7_method_11_code (4 : Nat) (Option.some Jvm.ClassFile.FieldType.boolean) : Cond) ∈ BW := bw 788 (by decide +kernel) rfl
theorem cmX5_readNumber : ∀ z, xCm (Cf z) MX5_readNumber 2 := fun z => ⟨bw_89, bw_788, by decide +kernel, by decide, by decide +kernel⟩
theorem bw_785 : (Jvm.Cond.methodLink "HumUnheard$Reader" (115 : Nat) ({ cls := "HumUnheard$Reader", name := "readNumber", desc := "(II)Z" } : Jvm.MethodName) : Cond) ∈ BW := bw 785 (by decide +kernel) rfl
theorem bw_787 : (Jvm.Cond.instanceMethod ({ cls := "HumUnheard$Reader", name := "readNumber", desc := "(II)Z" } : Jvm.MethodName) : Cond) ∈ BW := bw 787 (by decide +kernel) rfl
theorem bw_11 : Cond.selects "HumUnheard$Reader" ⟨"HumUnheard$Reader", "readNumber", "(II)Z"⟩ ⟨"HumUnheard$Reader", "readNumber", "(II)Z"⟩ ∈ BW := bw 11 (by decide +kernel) rfl
theorem gX5_115 : ∀ z, xCv (Cf z) RX5 115 MX5_readNumber 2 := fun z => ⟨cmX5_readNumber z, bw_785, bw_787, bw_11⟩
theorem bw_824 : (Jvm.Cond.code ({ cls := "HumUnheard$Plan", name := "add", desc := "(ZIIII)V" } : Jvm.MethodName) prog_6_method_2_code (6 : Nat) (Option.none : Option Jvm.ClassFile.FieldType) : Cond) ∈ BW := bw 824 (by decide +kernel) rfl
theorem cmX4_add : ∀ z, xCm (Cf z) MX4_add 5 := fun z => ⟨bw_87, bw_824, by decide +kernel, by decide, by decide +kernel⟩
theorem bw_821 : (Jvm.Cond.methodLink "HumUnheard$Reader" (141 : Nat) ({ cls := "HumUnheard$Plan", name := "add", desc := "(ZIIII)V" } : Jvm.MethodName) : Cond) ∈ BW := bw 821 (by decide +kernel) rfl
theorem bw_822 : (Jvm.Cond.instanceMethod ({ cls := "HumUnheard$Plan", name := "add", desc := "(ZIIII)V" } : Jvm.MethodName) : Cond) ∈ BW := bw 822 (by decide +kernel) rfl
theorem bw_823 : (Jvm.Cond.selects "HumUnheard$Plan" ({ cls := "HumUnheard$Plan", name := "add", desc := "(ZIIII)V" } : Jvm.MethodName) ({ cls := "HumUnheard$Plan", name := "add", desc := "(ZIIII)V" } : Jvm.MethodName) : Cond) ∈ BW := bw 823 (by decide +kernel) rfl
theorem gX5_141 : ∀ z, xCv (Cf z) RX5 141 MX4_add 5 := fun z => ⟨cmX4_add z, bw_821, bw_822, bw_823⟩
theorem kX5_119 : ∀ z : xZ, (RX5, 119, "loss ", z.2.1 (5 + 0)) ∈ (Cf z).2.2.2.2.2.2.2.2 := fun z => List.mem_map.mpr ⟨0, by decide, rfl⟩
theorem kX5_121 : ∀ z : xZ, (RX5, 121, "gain ", z.2.1 (5 + 1)) ∈ (Cf z).2.2.2.2.2.2.2.2 := fun z => List.mem_map.mpr ⟨1, by decide, rfl⟩
theorem kX5_123 : ∀ z : xZ, (RX5, 123, "right ", z.2.1 (5 + 2)) ∈ (Cf z).2.2.2.2.2.2.2.2 := fun z => List.mem_map.mpr ⟨2, by decide, rfl⟩
theorem kX5_125 : ∀ z : xZ, (RX5, 125, "wrong ", z.2.1 (5 + 3)) ∈ (Cf z).2.2.2.2.2.2.2.2 := fun z => List.mem_map.mpr ⟨3, by decide, rfl⟩
theorem kX5_127 : ∀ z : xZ, (RX5, 127, "span ", z.2.1 (5 + 4)) ∈ (Cf z).2.2.2.2.2.2.2.2 := fun z => List.mem_map.mpr ⟨4, by decide, rfl⟩
theorem kX5_129 : ∀ z : xZ, (RX5, 129, "paper ", z.2.1 (5 + 5)) ∈ (Cf z).2.2.2.2.2.2.2.2 := fun z => List.mem_map.mpr ⟨5, by decide, rfl⟩
theorem kX5_131 : ∀ z : xZ, (RX5, 131, "ff ", z.2.1 (5 + 6)) ∈ (Cf z).2.2.2.2.2.2.2.2 := fun z => List.mem_map.mpr ⟨6, by decide, rfl⟩
theorem kX5_133 : ∀ z : xZ, (RX5, 133, "n ", z.2.1 (5 + 7)) ∈ (Cf z).2.2.2.2.2.2.2.2 := fun z => List.mem_map.mpr ⟨7, by decide, rfl⟩
theorem kX5_135 : ∀ z : xZ, (RX5, 135, " from ", z.2.1 (5 + 8)) ∈ (Cf z).2.2.2.2.2.2.2.2 := fun z => List.mem_map.mpr ⟨8, by decide, rfl⟩
theorem kX5_137 : ∀ z : xZ, (RX5, 137, " to ", z.2.1 (5 + 9)) ∈ (Cf z).2.2.2.2.2.2.2.2 := fun z => List.mem_map.mpr ⟨9, by decide, rfl⟩
theorem kX5_139 : ∀ z : xZ, (RX5, 139, " each ", z.2.1 (5 + 10)) ∈ (Cf z).2.2.2.2.2.2.2.2 := fun z => List.mem_map.mpr ⟨10, by decide, rfl⟩
theorem bw_381 : (Jvm.Cond.classLink "HumUnheard$Reader" (34 : Nat) "HumUnheard$Plan" : Cond) ∈ BW := bw 381 (by decide +kernel) rfl
theorem bw_253 : (Jvm.Cond.instantiable "HumUnheard$Plan" (6 : Nat) : Cond) ∈ BW := bw 253 (by decide +kernel) rfl
theorem nX5_34 : ∀ z, Cond.classLink RX5 34 RX4 ∈ (Cf z).1 ∧ Cond.instantiable RX4 6 ∈ (Cf z).1 ∧ Cond.initialized RX4 ∈ (Cf z).1 := fun z => ⟨bw_381, bw_253, bw_87⟩
theorem pX5_9 : ∀ z, xFf (Cf z) RX5 9 5 0 (.array .int) := fun z => ⟨(RX5, TX5, 8), rfl, by decide, bw_383, rfl, rfl, by decide +kernel⟩
theorem pX5_15 : ∀ z, xFp (Cf z) RX5 15 5 1 (.int) := fun z => ⟨(RX5, TX5, 8), rfl, by decide, bw_384, rfl, by decide +kernel⟩
theorem pX5_19 : ∀ z, xFp (Cf z) RX5 19 5 2 (.int) := fun z => ⟨(RX5, TX5, 8), rfl, by decide, bw_385, rfl, by decide +kernel⟩
theorem pX5_22 : ∀ z, xFp (Cf z) RX5 22 5 3 (.int) := fun z => ⟨(RX5, TX5, 8), rfl, by decide, bw_386, rfl, by decide +kernel⟩
theorem pX5_25 : ∀ z, xFp (Cf z) RX5 25 5 4 (.int) := fun z => ⟨(RX5, TX5, 8), rfl, by decide, bw_387, rfl, by decide +kernel⟩
theorem pX5_28 : ∀ z, xFp (Cf z) RX5 28 5 5 (.int) := fun z => ⟨(RX5, TX5, 8), rfl, by decide, bw_389, rfl, by decide +kernel⟩
theorem pX5_31 : ∀ z, xFf (Cf z) RX5 31 5 6 (.array .int) := fun z => ⟨(RX5, TX5, 8), rfl, by decide, bw_391, rfl, rfl, by decide +kernel⟩
theorem pX5_37 : ∀ z, xFf (Cf z) RX5 37 5 7 (.object "HumUnheard$Plan") := fun z => ⟨(RX5, TX5, 8), rfl, by decide, bw_393, rfl, rfl, by decide +kernel⟩
theorem bw_259 : (Jvm.Cond.fieldLink "HumUnheard$Reader" (58 : Nat) "HumUnheard$Plan" "count" "I" : Cond) ∈ BW := bw 259 (by decide +kernel) rfl
theorem pX5_58 : ∀ z, xFp (Cf z) RX5 58 4 0 (.int) := fun z => ⟨(RX4, TX4, 6), rfl, by decide, bw_259, rfl, by decide +kernel⟩
theorem bw_345 : (Jvm.Cond.fieldLink "HumUnheard$Seeker" (12 : Nat) "HumUnheard$Seeker" "town" "LHumUnheard$Town;" : Cond) ∈ BW := bw 345 (by decide +kernel) rfl
theorem fX6_12 : ∀ z, xFd (Cf z) RX6 12 6 0 := fun z => ⟨(RX6, TX6, 8), rfl, by decide, bw_345⟩
theorem bw_347 : (Jvm.Cond.fieldLink "HumUnheard$Seeker" (18 : Nat) "HumUnheard$Seeker" "worths" "[J" : Cond) ∈ BW := bw 347 (by decide +kernel) rfl
theorem fX6_18 : ∀ z, xFd (Cf z) RX6 18 6 1 := fun z => ⟨(RX6, TX6, 8), rfl, by decide, bw_347⟩
theorem bw_349 : (Jvm.Cond.fieldLink "HumUnheard$Seeker" (22 : Nat) "HumUnheard$Seeker" "wanted" "[I" : Cond) ∈ BW := bw 349 (by decide +kernel) rfl
theorem fX6_22 : ∀ z, xFd (Cf z) RX6 22 6 2 := fun z => ⟨(RX6, TX6, 8), rfl, by decide, bw_349⟩
theorem bw_350 : (Jvm.Cond.fieldLink "HumUnheard$Seeker" (26 : Nat) "HumUnheard$Seeker" "wantedCount" "I" : Cond) ∈ BW := bw 350 (by decide +kernel) rfl
theorem fX6_26 : ∀ z, xFd (Cf z) RX6 26 6 3 := fun z => ⟨(RX6, TX6, 8), rfl, by decide, bw_350⟩
theorem bw_351 : (Jvm.Cond.fieldLink "HumUnheard$Seeker" (30 : Nat) "HumUnheard$Seeker" "budget" "I" : Cond) ∈ BW := bw 351 (by decide +kernel) rfl
theorem fX6_30 : ∀ z, xFd (Cf z) RX6 30 6 4 := fun z => ⟨(RX6, TX6, 8), rfl, by decide, bw_351⟩
theorem bw_352 : (Jvm.Cond.fieldLink "HumUnheard$Seeker" (33 : Nat) "HumUnheard$Seeker" "bestSet" "I" : Cond) ∈ BW := bw 352 (by decide +kernel) rfl
theorem fX6_33 : ∀ z, xFd (Cf z) RX6 33 6 5 := fun z => ⟨(RX6, TX6, 8), rfl, by decide, bw_352⟩
theorem bw_353 : (Jvm.Cond.fieldLink "HumUnheard$Seeker" (36 : Nat) "HumUnheard$Seeker" "bestRid" "I" : Cond) ∈ BW := bw 353 (by decide +kernel) rfl
theorem fX6_36 : ∀ z, xFd (Cf z) RX6 36 6 6 := fun z => ⟨(RX6, TX6, 8), rfl, by decide, bw_353⟩
theorem bw_354 : (Jvm.Cond.fieldLink "HumUnheard$Seeker" (39 : Nat) "HumUnheard$Seeker" "bestPrice" "I" : Cond) ∈ BW := bw 354 (by decide +kernel) rfl
theorem fX6_39 : ∀ z, xFd (Cf z) RX6 39 6 7 := fun z => ⟨(RX6, TX6, 8), rfl, by decide, bw_354⟩
theorem bw_289 : (Jvm.Cond.fieldLink "HumUnheard$Seeker" (42 : Nat) "HumUnheard$Town" "sourceCount" "I" : Cond) ∈ BW := bw 289 (by decide +kernel) rfl
theorem fX6_42 : ∀ z, xFd (Cf z) RX6 42 9 2 := fun z => ⟨(RX9, TX9, 14), rfl, by decide, bw_289⟩
theorem bw_305 : (Jvm.Cond.fieldLink "HumUnheard$Seeker" (45 : Nat) "HumUnheard$Town" "diary" "LHumUnheard$Diary;" : Cond) ∈ BW := bw 305 (by decide +kernel) rfl
theorem fX6_45 : ∀ z, xFd (Cf z) RX6 45 9 9 := fun z => ⟨(RX9, TX9, 14), rfl, by decide, bw_305⟩
theorem bw_134 : (Jvm.Cond.fieldLink "HumUnheard$Seeker" (49 : Nat) "HumUnheard$Diary" "count" "I" : Cond) ∈ BW := bw 134 (by decide +kernel) rfl
theorem fX6_49 : ∀ z, xFd (Cf z) RX6 49 1 0 := fun z => ⟨(RX1, TX1, 7), rfl, by decide, bw_134⟩
theorem bw_140 : (Jvm.Cond.fieldLink "HumUnheard$Seeker" (54 : Nat) "HumUnheard$Diary" "who" "[I" : Cond) ∈ BW := bw 140 (by decide +kernel) rfl
theorem fX6_54 : ∀ z, xFd (Cf z) RX6 54 1 3 := fun z => ⟨(RX1, TX1, 7), rfl, by decide, bw_140⟩
theorem bw_146 : (Jvm.Cond.fieldLink "HumUnheard$Seeker" (69 : Nat) "HumUnheard$Diary" "what" "[I" : Cond) ∈ BW := bw 146 (by decide +kernel) rfl
theorem fX6_69 : ∀ z, xFd (Cf z) RX6 69 1 6 := fun z => ⟨(RX1, TX1, 7), rfl, by decide, bw_146⟩
theorem bw_144 : (Jvm.Cond.fieldLink "HumUnheard$Seeker" (76 : Nat) "HumUnheard$Diary" "spot" "[I" : Cond) ∈ BW := bw 144 (by decide +kernel) rfl
theorem fX6_76 : ∀ z, xFd (Cf z) RX6 76 1 5 := fun z => ⟨(RX1, TX1, 7), rfl, by decide, bw_144⟩
theorem bw_142 : (Jvm.Cond.fieldLink "HumUnheard$Seeker" (82 : Nat) "HumUnheard$Diary" "hour" "[I" : Cond) ∈ BW := bw 142 (by decide +kernel) rfl
theorem fX6_82 : ∀ z, xFd (Cf z) RX6 82 1 4 := fun z => ⟨(RX1, TX1, 7), rfl, by decide, bw_142⟩
theorem bw_314 : (Jvm.Cond.fieldLink "HumUnheard$Seeker" (88 : Nat) "HumUnheard$Town" "laws" "[I" : Cond) ∈ BW := bw 314 (by decide +kernel) rfl
theorem fX6_88 : ∀ z, xFd (Cf z) RX6 88 9 13 := fun z => ⟨(RX9, TX9, 14), rfl, by decide, bw_314⟩
theorem bw_286 : (Jvm.Cond.fieldLink "HumUnheard$Seeker" (100 : Nat) "HumUnheard$Town" "personCount" "I" : Cond) ∈ BW := bw 286 (by decide +kernel) rfl
theorem fX6_100 : ∀ z, xFd (Cf z) RX6 100 9 1 := fun z => ⟨(RX9, TX9, 14), rfl, by decide, bw_286⟩
theorem bw_298 : (Jvm.Cond.fieldLink "HumUnheard$Seeker" (106 : Nat) "HumUnheard$Town" "people" "[LHumUnheard$Person;" : Cond) ∈ BW := bw 298 (by decide +kernel) rfl
theorem fX6_106 : ∀ z, xFd (Cf z) RX6 106 9 6 := fun z => ⟨(RX9, TX9, 14), rfl, by decide, bw_298⟩
theorem bw_193 : (Jvm.Cond.fieldLink "HumUnheard$Seeker" (110 : Nat) "HumUnheard$Person" "spot" "I" : Cond) ∈ BW := bw 193 (by decide +kernel) rfl
theorem fX6_110 : ∀ z, xFd (Cf z) RX6 110 3 0 := fun z => ⟨(RX3, TX3, 5), rfl, by decide, bw_193⟩
theorem bw_302 : (Jvm.Cond.fieldLink "HumUnheard$Seeker" (129 : Nat) "HumUnheard$Town" "sources" "[LHumUnheard$Source;" : Cond) ∈ BW := bw 302 (by decide +kernel) rfl
theorem fX6_129 : ∀ z, xFd (Cf z) RX6 129 9 7 := fun z => ⟨(RX9, TX9, 14), rfl, by decide, bw_302⟩
theorem bw_232 : (Jvm.Cond.fieldLink "HumUnheard$Seeker" (133 : Nat) "HumUnheard$Source" "price" "I" : Cond) ∈ BW := bw 232 (by decide +kernel) rfl
theorem fX6_133 : ∀ z, xFd (Cf z) RX6 133 8 6 := fun z => ⟨(RX8, TX8, 8), rfl, by decide, bw_232⟩
theorem bw_114 : (Jvm.Cond.methodLink "HumUnheard$Seeker" (3 : Nat) ({ cls := "java/lang/Object", name := "<init>", desc := "()V" } : Jvm.MethodName) : Cond) ∈ BW := bw 114 (by decide +kernel) rfl
theorem gX6_3 : ∀ z, Cond.methodLink RX6 3 objectInit ∈ (Cf z).1 := fun z => bw_114
theorem bw_117 : (Jvm.Cond.methodLink "HumUnheard$Seeker" (11 : Nat) ({ cls := "HumUnheard$Town", name := "<init>", desc := "()V" } : Jvm.MethodName) : Cond) ∈ BW := bw 117 (by decide +kernel) rfl
theorem gX6_11 : ∀ z, xCi (Cf z) RX6 11 MX9_init 0 ∨ ∃ h, xCiN (Cf z) RX6 11 MX9_init 0 h := fun z => Or.inl ⟨cmX9_init z, bw_117, bw_118, rfl, rfl⟩
theorem gX6_91 : ∀ z, xCs (Cf z) RX6 91 MX10_hasBit 2 ∨ ∃ h, xCsN (Cf z) RX6 91 MX10_hasBit 2 h := fun z => Or.inr ⟨"HumUnheard", cmX10_hasBit z, nw 1018 (by decide +kernel) rfl, bw_877⟩
theorem bw_98 : (Jvm.Cond.initialized "java/lang/Integer" : Cond) ∈ BW := bw 98 (by decide +kernel) rfl
theorem bw_1121 : (Jvm.Cond.code ({ cls := "java/lang/Integer", name := "bitCount", desc := "(I)I" } : Jvm.MethodName) prog_14_method_49_code (1 : Nat) (Option.some Jvm.ClassFile.FieldType.int) : Cond) ∈ BW := bw 1121 (by decide +kernel) rfl
theorem cmJ6_bitCount_0f7a4 : ∀ z, xCm (Cf z) MJ6_bitCount_0f7a4 1 := fun z => ⟨bw_98, bw_1121, by decide +kernel, by decide, by decide +kernel⟩
theorem bw_1157 : (Jvm.Cond.methodLink "HumUnheard$Seeker" (149 : Nat) ({ cls := "java/lang/Integer", name := "bitCount", desc := "(I)I" } : Jvm.MethodName) : Cond) ∈ BW := bw 1157 (by decide +kernel) rfl
theorem bw_1120 : (Jvm.Cond.static ({ cls := "java/lang/Integer", name := "bitCount", desc := "(I)I" } : Jvm.MethodName) : Cond) ∈ BW := bw 1120 (by decide +kernel) rfl
theorem gX6_149 : ∀ z, xCs (Cf z) RX6 149 MJ6_bitCount_0f7a4 1 ∨ ∃ h, xCsN (Cf z) RX6 149 MJ6_bitCount_0f7a4 1 h := fun z => Or.inl ⟨cmJ6_bitCount_0f7a4 z, bw_1157, bw_1120⟩
theorem bw_898 : (Jvm.Cond.code ({ cls := "HumUnheard", name := "farApart", desc := "(II)I" } : Jvm.MethodName) prog_1_method_62_code (2 : Nat) (Option.some Jvm.ClassFile.FieldType.int) : Cond) ∈ BW := bw 898 (by decide +kernel) rfl
theorem cmX10_farApart : ∀ z, xCm (Cf z) MX10_farApart 2 := fun z => ⟨bw_80, bw_898, by decide +kernel, by decide, by decide +kernel⟩
theorem bw_897 : (Jvm.Cond.static ({ cls := "HumUnheard", name := "farApart", desc := "(II)I" } : Jvm.MethodName) : Cond) ∈ BW := bw 897 (by decide +kernel) rfl
theorem gX6_154 : ∀ z, xCs (Cf z) RX6 154 MX10_farApart 2 ∨ ∃ h, xCsN (Cf z) RX6 154 MX10_farApart 2 h := fun z => Or.inr ⟨"HumUnheard", cmX10_farApart z, nw 1158 (by decide +kernel) rfl, bw_897⟩
theorem bw_1002 : (Jvm.Cond.code ({ cls := "HumUnheard$Seeker", name := "agreeing", desc := "(II)I" } : Jvm.MethodName) prog_8_method_3_code (5 : Nat) (Option.some Jvm.ClassFile.FieldType.int) : Cond) ∈ BW := bw 1002 (by decide +kernel) rfl
theorem cmX6_agreeing : ∀ z, xCm (Cf z) MX6_agreeing 2 := fun z => ⟨bw_81, bw_1002, by decide +kernel, by decide, by decide +kernel⟩
theorem bw_999 : (Jvm.Cond.methodLink "HumUnheard$Seeker" (57 : Nat) ({ cls := "HumUnheard$Seeker", name := "agreeing", desc := "(II)I" } : Jvm.MethodName) : Cond) ∈ BW := bw 999 (by decide +kernel) rfl
theorem bw_1001 : (Jvm.Cond.instanceMethod ({ cls := "HumUnheard$Seeker", name := "agreeing", desc := "(II)I" } : Jvm.MethodName) : Cond) ∈ BW := bw 1001 (by decide +kernel) rfl
theorem bw_21 : Cond.selects "HumUnheard$Seeker" ⟨"HumUnheard$Seeker", "agreeing", "(II)I"⟩ ⟨"HumUnheard$Seeker", "agreeing", "(II)I"⟩ ∈ BW := bw 21 (by decide +kernel) rfl
theorem gX6_57 : ∀ z, xCv (Cf z) RX6 57 MX6_agreeing 2 := fun z => ⟨cmX6_agreeing z, bw_999, bw_1001, bw_21⟩
theorem bw_1017 : (Jvm.Cond.code ({ cls := "HumUnheard$Seeker", name := "multiply", desc := "(I)V" } : Jvm.MethodName) prog_8_method_4_code (3 : Nat) (Option.none : Option Jvm.ClassFile.FieldType) : Cond) ∈ BW := bw 1017 (by decide +kernel) rfl
theorem cmX6_multiply : ∀ z, xCm (Cf z) MX6_multiply 1 := fun z => ⟨bw_81, bw_1017, by decide +kernel, by decide, by decide +kernel⟩
theorem bw_1014 : (Jvm.Cond.methodLink "HumUnheard$Seeker" (61 : Nat) ({ cls := "HumUnheard$Seeker", name := "multiply", desc := "(I)V" } : Jvm.MethodName) : Cond) ∈ BW := bw 1014 (by decide +kernel) rfl
theorem bw_1016 : (Jvm.Cond.instanceMethod ({ cls := "HumUnheard$Seeker", name := "multiply", desc := "(I)V" } : Jvm.MethodName) : Cond) ∈ BW := bw 1016 (by decide +kernel) rfl
theorem bw_22 : Cond.selects "HumUnheard$Seeker" ⟨"HumUnheard$Seeker", "multiply", "(I)V"⟩ ⟨"HumUnheard$Seeker", "multiply", "(I)V"⟩ ∈ BW := bw 22 (by decide +kernel) rfl
theorem gX6_61 : ∀ z, xCv (Cf z) RX6 61 MX6_multiply 1 := fun z => ⟨cmX6_multiply z, bw_1014, bw_1016, bw_22⟩
theorem bw_1006 : (Jvm.Cond.code ({ cls := "HumUnheard$Diary", name := "isMatch", desc := "(I)Z" } : Jvm.MethodName) prog_3_method_5_code (2 : Nat) (Option.some Jvm.ClassFile.FieldType.boolean) : Cond) ∈ BW := bw 1006 (by decide +kernel) rfl
theorem cmX1_isMatch : ∀ z, xCm (Cf z) MX1_isMatch 1 := fun z => ⟨bw_83, bw_1006, by decide +kernel, by decide, by decide +kernel⟩
theorem bw_1003 : (Jvm.Cond.methodLink "HumUnheard$Seeker" (65 : Nat) ({ cls := "HumUnheard$Diary", name := "isMatch", desc := "(I)Z" } : Jvm.MethodName) : Cond) ∈ BW := bw 1003 (by decide +kernel) rfl
theorem bw_1004 : (Jvm.Cond.instanceMethod ({ cls := "HumUnheard$Diary", name := "isMatch", desc := "(I)Z" } : Jvm.MethodName) : Cond) ∈ BW := bw 1004 (by decide +kernel) rfl
theorem bw_1005 : (Jvm.Cond.selects "HumUnheard$Diary" ({ cls := "HumUnheard$Diary", name := "isMatch", desc := "(I)Z" } : Jvm.MethodName) ({ cls := "HumUnheard$Diary", name := "isMatch", desc := "(I)Z" } : Jvm.MethodName) : Cond) ∈ BW := bw 1005 (by decide +kernel) rfl
theorem gX6_65 : ∀ z, xCv (Cf z) RX6 65 MX1_isMatch 1 := fun z => ⟨cmX1_isMatch z, bw_1003, bw_1004, bw_1005⟩
theorem bw_1007 : (Jvm.Cond.methodLink "HumUnheard$Seeker" (72 : Nat) ({ cls := "HumUnheard$Town", name := "nearTo", desc := "(I)I" } : Jvm.MethodName) : Cond) ∈ BW := bw 1007 (by decide +kernel) rfl
theorem gX6_72 : ∀ z, xCv (Cf z) RX6 72 MX9_nearTo 1 := fun z => ⟨cmX9_nearTo z, bw_1007, bw_1008, bw_1009⟩
theorem bw_1012 : (Jvm.Cond.methodLink "HumUnheard$Seeker" (79 : Nat) ({ cls := "HumUnheard$Town", name := "audibleTo", desc := "(II)I" } : Jvm.MethodName) : Cond) ∈ BW := bw 1012 (by decide +kernel) rfl
theorem gX6_79 : ∀ z, xCv (Cf z) RX6 79 MX9_audibleTo 2 := fun z => ⟨cmX9_audibleTo z, bw_1012, bw_924, bw_925⟩
theorem bw_1013 : (Jvm.Cond.methodLink "HumUnheard$Seeker" (85 : Nat) ({ cls := "HumUnheard$Town", name := "soundingAt", desc := "(I)I" } : Jvm.MethodName) : Cond) ∈ BW := bw 1013 (by decide +kernel) rfl
theorem gX6_85 : ∀ z, xCv (Cf z) RX6 85 MX9_soundingAt 1 := fun z => ⟨cmX9_soundingAt z, bw_1013, bw_847, bw_848⟩
theorem bw_1070 : (Jvm.Cond.methodLink "HumUnheard$Seeker" (97 : Nat) ({ cls := "HumUnheard$Town", name := "soundingWithin", desc := "(II)I" } : Jvm.MethodName) : Cond) ∈ BW := bw 1070 (by decide +kernel) rfl
theorem gX6_97 : ∀ z, xCv (Cf z) RX6 97 MX9_soundingWithin 2 := fun z => ⟨cmX9_soundingWithin z, bw_1070, bw_1071, bw_1072⟩
theorem bw_1077 : (Jvm.Cond.code ({ cls := "HumUnheard$Seeker", name := "heardOf", desc := "(II)I" } : Jvm.MethodName) prog_8_method_7_code (3 : Nat) (Option.some Jvm.ClassFile.FieldType.int) : Cond) ∈ BW := bw 1077 (by decide +kernel) rfl
theorem cmX6_heardOf : ∀ z, xCm (Cf z) MX6_heardOf 2 := fun z => ⟨bw_81, bw_1077, by decide +kernel, by decide, by decide +kernel⟩
theorem bw_1074 : (Jvm.Cond.methodLink "HumUnheard$Seeker" (103 : Nat) ({ cls := "HumUnheard$Seeker", name := "heardOf", desc := "(II)I" } : Jvm.MethodName) : Cond) ∈ BW := bw 1074 (by decide +kernel) rfl
theorem bw_1076 : (Jvm.Cond.instanceMethod ({ cls := "HumUnheard$Seeker", name := "heardOf", desc := "(II)I" } : Jvm.MethodName) : Cond) ∈ BW := bw 1076 (by decide +kernel) rfl
theorem bw_23 : Cond.selects "HumUnheard$Seeker" ⟨"HumUnheard$Seeker", "heardOf", "(II)I"⟩ ⟨"HumUnheard$Seeker", "heardOf", "(II)I"⟩ ∈ BW := bw 23 (by decide +kernel) rfl
theorem gX6_103 : ∀ z, xCv (Cf z) RX6 103 MX6_heardOf 2 := fun z => ⟨cmX6_heardOf z, bw_1074, bw_1076, bw_23⟩
theorem bw_1086 : (Jvm.Cond.methodLink "HumUnheard$Seeker" (114 : Nat) ({ cls := "HumUnheard$Town", name := "airborne", desc := "()I" } : Jvm.MethodName) : Cond) ∈ BW := bw 1086 (by decide +kernel) rfl
theorem gX6_114 : ∀ z, xCv (Cf z) RX6 114 MX9_airborne 0 := fun z => ⟨cmX9_airborne z, bw_1086, bw_1033, bw_1034⟩
theorem bw_1090 : (Jvm.Cond.code ({ cls := "HumUnheard$Seeker", name := "choose", desc := "(IIII)V" } : Jvm.MethodName) prog_8_method_9_code (6 : Nat) (Option.none : Option Jvm.ClassFile.FieldType) : Cond) ∈ BW := bw 1090 (by decide +kernel) rfl
theorem cmX6_choose : ∀ z, xCm (Cf z) MX6_choose 4 := fun z => ⟨bw_81, bw_1090, by decide +kernel, by decide, by decide +kernel⟩
theorem bw_1087 : (Jvm.Cond.methodLink "HumUnheard$Seeker" (118 : Nat) ({ cls := "HumUnheard$Seeker", name := "choose", desc := "(IIII)V" } : Jvm.MethodName) : Cond) ∈ BW := bw 1087 (by decide +kernel) rfl
theorem bw_1089 : (Jvm.Cond.instanceMethod ({ cls := "HumUnheard$Seeker", name := "choose", desc := "(IIII)V" } : Jvm.MethodName) : Cond) ∈ BW := bw 1089 (by decide +kernel) rfl
theorem bw_24 : Cond.selects "HumUnheard$Seeker" ⟨"HumUnheard$Seeker", "choose", "(IIII)V"⟩ ⟨"HumUnheard$Seeker", "choose", "(IIII)V"⟩ ∈ BW := bw 24 (by decide +kernel) rfl
theorem gX6_118 : ∀ z, xCv (Cf z) RX6 118 MX6_choose 4 := fun z => ⟨cmX6_choose z, bw_1087, bw_1089, bw_24⟩
theorem bw_1094 : (Jvm.Cond.code ({ cls := "HumUnheard$Seeker", name := "keepIfBetter", desc := "(III)V" } : Jvm.MethodName) prog_8_method_10_code (5 : Nat) (Option.none : Option Jvm.ClassFile.FieldType) : Cond) ∈ BW := bw 1094 (by decide +kernel) rfl
theorem cmX6_keepIfBetter : ∀ z, xCm (Cf z) MX6_keepIfBetter 3 := fun z => ⟨bw_81, bw_1094, by decide +kernel, by decide, by decide +kernel⟩
theorem bw_1091 : (Jvm.Cond.methodLink "HumUnheard$Seeker" (122 : Nat) ({ cls := "HumUnheard$Seeker", name := "keepIfBetter", desc := "(III)V" } : Jvm.MethodName) : Cond) ∈ BW := bw 1091 (by decide +kernel) rfl
theorem bw_1093 : (Jvm.Cond.instanceMethod ({ cls := "HumUnheard$Seeker", name := "keepIfBetter", desc := "(III)V" } : Jvm.MethodName) : Cond) ∈ BW := bw 1093 (by decide +kernel) rfl
theorem bw_25 : Cond.selects "HumUnheard$Seeker" ⟨"HumUnheard$Seeker", "keepIfBetter", "(III)V"⟩ ⟨"HumUnheard$Seeker", "keepIfBetter", "(III)V"⟩ ∈ BW := bw 25 (by decide +kernel) rfl
theorem gX6_122 : ∀ z, xCv (Cf z) RX6 122 MX6_keepIfBetter 3 := fun z => ⟨cmX6_keepIfBetter z, bw_1091, bw_1093, bw_25⟩
theorem bw_1098 : (Jvm.Cond.code ({ cls := "HumUnheard$Seeker", name := "priceOf", desc := "(I)I" } : Jvm.MethodName) prog_8_method_11_code (4 : Nat) (Option.some Jvm.ClassFile.FieldType.int) : Cond) ∈ BW := bw 1098 (by decide +kernel) rfl
theorem cmX6_priceOf : ∀ z, xCm (Cf z) MX6_priceOf 1 := fun z => ⟨bw_81, bw_1098, by decide +kernel, by decide, by decide +kernel⟩
theorem bw_1095 : (Jvm.Cond.methodLink "HumUnheard$Seeker" (126 : Nat) ({ cls := "HumUnheard$Seeker", name := "priceOf", desc := "(I)I" } : Jvm.MethodName) : Cond) ∈ BW := bw 1095 (by decide +kernel) rfl
theorem bw_1097 : (Jvm.Cond.instanceMethod ({ cls := "HumUnheard$Seeker", name := "priceOf", desc := "(I)I" } : Jvm.MethodName) : Cond) ∈ BW := bw 1097 (by decide +kernel) rfl
theorem bw_26 : Cond.selects "HumUnheard$Seeker" ⟨"HumUnheard$Seeker", "priceOf", "(I)I"⟩ ⟨"HumUnheard$Seeker", "priceOf", "(I)I"⟩ ∈ BW := bw 26 (by decide +kernel) rfl
theorem gX6_126 : ∀ z, xCv (Cf z) RX6 126 MX6_priceOf 1 := fun z => ⟨cmX6_priceOf z, bw_1095, bw_1097, bw_26⟩
theorem bw_895 : (Jvm.Cond.code ({ cls := "HumUnheard$Source", name := "isAirborne", desc := "()Z" } : Jvm.MethodName) prog_10_method_5_code (1 : Nat) (Option.some Jvm.ClassFile.FieldType.boolean) : Cond) ∈ BW := bw 895 (by decide +kernel) rfl
theorem cmX8_isAirborne : ∀ z, xCm (Cf z) MX8_isAirborne 0 := fun z => ⟨bw_86, bw_895, by decide +kernel, by decide, by decide +kernel⟩
theorem bw_1138 : (Jvm.Cond.methodLink "HumUnheard$Seeker" (138 : Nat) ({ cls := "HumUnheard$Source", name := "isAirborne", desc := "()Z" } : Jvm.MethodName) : Cond) ∈ BW := bw 1138 (by decide +kernel) rfl
theorem bw_893 : (Jvm.Cond.instanceMethod ({ cls := "HumUnheard$Source", name := "isAirborne", desc := "()Z" } : Jvm.MethodName) : Cond) ∈ BW := bw 893 (by decide +kernel) rfl
theorem bw_894 : (Jvm.Cond.selects "HumUnheard$Source" ({ cls := "HumUnheard$Source", name := "isAirborne", desc := "()Z" } : Jvm.MethodName) ({ cls := "HumUnheard$Source", name := "isAirborne", desc := "()Z" } : Jvm.MethodName) : Cond) ∈ BW := bw 894 (by decide +kernel) rfl
theorem gX6_138 : ∀ z, xCv (Cf z) RX6 138 MX8_isAirborne 0 := fun z => ⟨cmX8_isAirborne z, bw_1138, bw_893, bw_894⟩
theorem bw_1139 : (Jvm.Cond.methodLink "HumUnheard$Seeker" (142 : Nat) ({ cls := "HumUnheard$Town", name := "levelAt", desc := "(II)I" } : Jvm.MethodName) : Cond) ∈ BW := bw 1139 (by decide +kernel) rfl
theorem gX6_142 : ∀ z, xCv (Cf z) RX6 142 MX9_levelAt 2 := fun z => ⟨cmX9_levelAt z, bw_1139, bw_889, bw_890⟩
theorem bw_1148 : (Jvm.Cond.methodLink "HumUnheard$Seeker" (145 : Nat) ({ cls := "HumUnheard$Seeker", name := "countMetered", desc := "(III)I" } : Jvm.MethodName) : Cond) ∈ BW := bw 1148 (by decide +kernel) rfl
theorem gX6_145 : ∀ z, xCv (Cf z) RX6 145 MX6_countMetered 3 := fun z => ⟨cmX6_countMetered z, bw_1148, bw_1135, bw_1136⟩
theorem bw_1027 : (Jvm.Cond.constantLong "HumUnheard$Seeker" (95 : Nat) (100 : Int64) : Cond) ∈ BW := bw 1027 (by decide +kernel) rfl
theorem kX6_95 : ∀ z, Cond.constantLong RX6 95 100 ∈ (Cf z).1 := fun z => bw_1027
theorem bw_115 : (Jvm.Cond.classLink "HumUnheard$Seeker" (9 : Nat) "HumUnheard$Town" : Cond) ∈ BW := bw 115 (by decide +kernel) rfl
theorem nX6_9 : ∀ z, Cond.classLink RX6 9 RX9 ∈ (Cf z).1 ∧ Cond.instantiable RX9 14 ∈ (Cf z).1 ∧ Cond.initialized RX9 ∈ (Cf z).1 := fun z => ⟨bw_115, bw_116, bw_82⟩
theorem pX6_12 : ∀ z, xFf (Cf z) RX6 12 6 0 (.object "HumUnheard$Town") := fun z => ⟨(RX6, TX6, 8), rfl, by decide, bw_345, rfl, rfl, by decide +kernel⟩
theorem pX6_18 : ∀ z, xFf (Cf z) RX6 18 6 1 (.array .long) := fun z => ⟨(RX6, TX6, 8), rfl, by decide, bw_347, rfl, rfl, by decide +kernel⟩
theorem pX6_22 : ∀ z, xFf (Cf z) RX6 22 6 2 (.array .int) := fun z => ⟨(RX6, TX6, 8), rfl, by decide, bw_349, rfl, rfl, by decide +kernel⟩
theorem pX6_26 : ∀ z, xFp (Cf z) RX6 26 6 3 (.int) := fun z => ⟨(RX6, TX6, 8), rfl, by decide, bw_350, rfl, by decide +kernel⟩
theorem pX6_30 : ∀ z, xFp (Cf z) RX6 30 6 4 (.int) := fun z => ⟨(RX6, TX6, 8), rfl, by decide, bw_351, rfl, by decide +kernel⟩
theorem pX6_33 : ∀ z, xFp (Cf z) RX6 33 6 5 (.int) := fun z => ⟨(RX6, TX6, 8), rfl, by decide, bw_352, rfl, by decide +kernel⟩
theorem pX6_36 : ∀ z, xFp (Cf z) RX6 36 6 6 (.int) := fun z => ⟨(RX6, TX6, 8), rfl, by decide, bw_353, rfl, by decide +kernel⟩
theorem pX6_39 : ∀ z, xFp (Cf z) RX6 39 6 7 (.int) := fun z => ⟨(RX6, TX6, 8), rfl, by decide, bw_354, rfl, by decide +kernel⟩
theorem bw_440 : (Jvm.Cond.fieldLink "HumUnheard$Shelf" (9 : Nat) "HumUnheard$Shelf" "content" "I" : Cond) ∈ BW := bw 440 (by decide +kernel) rfl
theorem fX7_9 : ∀ z, xFd (Cf z) RX7 9 7 0 := fun z => ⟨(RX7, TX7, 3), rfl, by decide, bw_440⟩
theorem bw_441 : (Jvm.Cond.fieldLink "HumUnheard$Shelf" (15 : Nat) "HumUnheard$Shelf" "count" "I" : Cond) ∈ BW := bw 441 (by decide +kernel) rfl
theorem fX7_15 : ∀ z, xFd (Cf z) RX7 15 7 1 := fun z => ⟨(RX7, TX7, 3), rfl, by decide, bw_441⟩
theorem bw_442 : (Jvm.Cond.fieldLink "HumUnheard$Shelf" (18 : Nat) "HumUnheard$Shelf" "elements" "[J" : Cond) ∈ BW := bw 442 (by decide +kernel) rfl
theorem fX7_18 : ∀ z, xFd (Cf z) RX7 18 7 2 := fun z => ⟨(RX7, TX7, 3), rfl, by decide, bw_442⟩
theorem bw_439 : (Jvm.Cond.methodLink "HumUnheard$Shelf" (3 : Nat) ({ cls := "java/lang/Object", name := "<init>", desc := "()V" } : Jvm.MethodName) : Cond) ∈ BW := bw 439 (by decide +kernel) rfl
theorem gX7_3 : ∀ z, Cond.methodLink RX7 3 objectInit ∈ (Cf z).1 := fun z => bw_439
theorem bw_544 : (Jvm.Cond.methodLink "HumUnheard$Shelf" (45 : Nat) ({ cls := "java/lang/System", name := "arraycopy", desc := "(Ljava/lang/Object;ILjava/lang/Object;II)V" } : Jvm.MethodName) : Cond) ∈ BW := bw 544 (by decide +kernel) rfl
theorem gX7_45 : ∀ z, xCp (Cf z) RX7 45 := fun z => ⟨bw_544, bw_282, bw_281, bw_88⟩
theorem bw_505 : (Jvm.Cond.methodLink "HumUnheard$Shelf" (22 : Nat) ({ cls := "HumUnheard$Shelf", name := "holdsNothing", desc := "()Z" } : Jvm.MethodName) : Cond) ∈ BW := bw 505 (by decide +kernel) rfl
theorem gX7_22 : ∀ z, xCv (Cf z) RX7 22 MX7_holdsNothing 0 := fun z => ⟨cmX7_holdsNothing z, bw_505, bw_506, bw_507⟩
theorem bw_509 : (Jvm.Cond.methodLink "HumUnheard$Shelf" (26 : Nat) ({ cls := "HumUnheard$Shelf", name := "holdsRow", desc := "()Z" } : Jvm.MethodName) : Cond) ∈ BW := bw 509 (by decide +kernel) rfl
theorem gX7_26 : ∀ z, xCv (Cf z) RX7 26 MX7_holdsRow 0 := fun z => ⟨cmX7_holdsRow z, bw_509, bw_510, bw_511⟩
theorem bw_522 : (Jvm.Cond.methodLink "HumUnheard$Shelf" (29 : Nat) ({ cls := "HumUnheard$Shelf", name := "hasElement", desc := "(I)Z" } : Jvm.MethodName) : Cond) ∈ BW := bw 522 (by decide +kernel) rfl
theorem gX7_29 : ∀ z, xCv (Cf z) RX7 29 MX7_hasElement 1 := fun z => ⟨cmX7_hasElement z, bw_522, bw_515, bw_516⟩
theorem bw_698 : (Jvm.Cond.methodLink "HumUnheard$Shelf" (33 : Nat) ({ cls := "HumUnheard$Shelf", name := "elementAt", desc := "(I)J" } : Jvm.MethodName) : Cond) ∈ BW := bw 698 (by decide +kernel) rfl
theorem gX7_33 : ∀ z, xCv (Cf z) RX7 33 MX7_elementAt 1 := fun z => ⟨cmX7_elementAt z, bw_698, bw_550, bw_551⟩
theorem bw_526 : (Jvm.Cond.code ({ cls := "HumUnheard$Shelf", name := "lowestBits", desc := "(J)J" } : Jvm.MethodName) prog_9_method_16_code (3 : Nat) (Option.some Jvm.ClassFile.FieldType.long) : Cond) ∈ BW := bw 526 (by decide +kernel) rfl
theorem cmX7_lowestBits : ∀ z, xCm (Cf z) MX7_lowestBits 1 := fun z => ⟨bw_91, bw_526, by decide +kernel, by decide, by decide +kernel⟩
theorem bw_523 : (Jvm.Cond.methodLink "HumUnheard$Shelf" (37 : Nat) ({ cls := "HumUnheard$Shelf", name := "lowestBits", desc := "(J)J" } : Jvm.MethodName) : Cond) ∈ BW := bw 523 (by decide +kernel) rfl
theorem bw_525 : (Jvm.Cond.instanceMethod ({ cls := "HumUnheard$Shelf", name := "lowestBits", desc := "(J)J" } : Jvm.MethodName) : Cond) ∈ BW := bw 525 (by decide +kernel) rfl
theorem bw_2 : Cond.selects "HumUnheard$Shelf" ⟨"HumUnheard$Shelf", "lowestBits", "(J)J"⟩ ⟨"HumUnheard$Shelf", "lowestBits", "(J)J"⟩ ∈ BW := bw 2 (by decide +kernel) rfl
theorem gX7_37 : ∀ z, xCv (Cf z) RX7 37 MX7_lowestBits 1 := fun z => ⟨cmX7_lowestBits z, bw_523, bw_525, bw_2⟩
theorem bw_543 : (Jvm.Cond.methodLink "HumUnheard$Shelf" (41 : Nat) ({ cls := "HumUnheard$Shelf", name := "hasElements", desc := "(II)Z" } : Jvm.MethodName) : Cond) ∈ BW := bw 543 (by decide +kernel) rfl
theorem gX7_41 : ∀ z, xCv (Cf z) RX7 41 MX7_hasElements 2 := fun z => ⟨cmX7_hasElements z, bw_543, bw_536, bw_537⟩
theorem bw_967 : (Jvm.Cond.methodLink "HumUnheard$Shelf" (51 : Nat) ({ cls := "HumUnheard$Shelf", name := "intAt", desc := "(I)I" } : Jvm.MethodName) : Cond) ∈ BW := bw 967 (by decide +kernel) rfl
theorem gX7_51 : ∀ z, xCv (Cf z) RX7 51 MX7_intAt 1 := fun z => ⟨cmX7_intAt z, bw_967, bw_695, bw_696⟩
theorem bw_966 : (Jvm.Cond.code ({ cls := "HumUnheard$Shelf", name := "isPress", desc := "(I)Z" } : Jvm.MethodName) prog_9_method_18_code (3 : Nat) (Option.some Jvm.ClassFile.FieldType.boolean) : Cond) ∈ BW := bw 966 (by decide +kernel) rfl
theorem cmX7_isPress : ∀ z, xCm (Cf z) MX7_isPress 1 := fun z => ⟨bw_91, bw_966, by decide +kernel, by decide, by decide +kernel⟩
theorem bw_963 : (Jvm.Cond.methodLink "HumUnheard$Shelf" (55 : Nat) ({ cls := "HumUnheard$Shelf", name := "isPress", desc := "(I)Z" } : Jvm.MethodName) : Cond) ∈ BW := bw 963 (by decide +kernel) rfl
theorem bw_964 : (Jvm.Cond.instanceMethod ({ cls := "HumUnheard$Shelf", name := "isPress", desc := "(I)Z" } : Jvm.MethodName) : Cond) ∈ BW := bw 964 (by decide +kernel) rfl
theorem bw_965 : (Jvm.Cond.selects "HumUnheard$Shelf" ({ cls := "HumUnheard$Shelf", name := "isPress", desc := "(I)Z" } : Jvm.MethodName) ({ cls := "HumUnheard$Shelf", name := "isPress", desc := "(I)Z" } : Jvm.MethodName) : Cond) ∈ BW := bw 965 (by decide +kernel) rfl
theorem gX7_55 : ∀ z, xCv (Cf z) RX7 55 MX7_isPress 1 := fun z => ⟨cmX7_isPress z, bw_963, bw_964, bw_965⟩
theorem pX7_9 : ∀ z, xFp (Cf z) RX7 9 7 0 (.int) := fun z => ⟨(RX7, TX7, 3), rfl, by decide, bw_440, rfl, by decide +kernel⟩
theorem pX7_15 : ∀ z, xFp (Cf z) RX7 15 7 1 (.int) := fun z => ⟨(RX7, TX7, 3), rfl, by decide, bw_441, rfl, by decide +kernel⟩
theorem pX7_18 : ∀ z, xFf (Cf z) RX7 18 7 2 (.array .long) := fun z => ⟨(RX7, TX7, 3), rfl, by decide, bw_442, rfl, rfl, by decide +kernel⟩
theorem bw_217 : (Jvm.Cond.fieldLink "HumUnheard$Source" (9 : Nat) "HumUnheard$Source" "kind" "I" : Cond) ∈ BW := bw 217 (by decide +kernel) rfl
theorem fX8_9 : ∀ z, xFd (Cf z) RX8 9 8 0 := fun z => ⟨(RX8, TX8, 8), rfl, by decide, bw_217⟩
theorem bw_220 : (Jvm.Cond.fieldLink "HumUnheard$Source" (15 : Nat) "HumUnheard$Source" "where" "I" : Cond) ∈ BW := bw 220 (by decide +kernel) rfl
theorem fX8_15 : ∀ z, xFd (Cf z) RX8 15 8 1 := fun z => ⟨(RX8, TX8, 8), rfl, by decide, bw_220⟩
theorem bw_222 : (Jvm.Cond.fieldLink "HumUnheard$Source" (18 : Nat) "HumUnheard$Source" "tone" "I" : Cond) ∈ BW := bw 222 (by decide +kernel) rfl
theorem fX8_18 : ∀ z, xFd (Cf z) RX8 18 8 2 := fun z => ⟨(RX8, TX8, 8), rfl, by decide, bw_222⟩
theorem bw_225 : (Jvm.Cond.fieldLink "HumUnheard$Source" (21 : Nat) "HumUnheard$Source" "strength" "I" : Cond) ∈ BW := bw 225 (by decide +kernel) rfl
theorem fX8_21 : ∀ z, xFd (Cf z) RX8 21 8 3 := fun z => ⟨(RX8, TX8, 8), rfl, by decide, bw_225⟩
theorem bw_227 : (Jvm.Cond.fieldLink "HumUnheard$Source" (24 : Nat) "HumUnheard$Source" "from" "I" : Cond) ∈ BW := bw 227 (by decide +kernel) rfl
theorem fX8_24 : ∀ z, xFd (Cf z) RX8 24 8 4 := fun z => ⟨(RX8, TX8, 8), rfl, by decide, bw_227⟩
theorem bw_229 : (Jvm.Cond.fieldLink "HumUnheard$Source" (27 : Nat) "HumUnheard$Source" "till" "I" : Cond) ∈ BW := bw 229 (by decide +kernel) rfl
theorem fX8_27 : ∀ z, xFd (Cf z) RX8 27 8 5 := fun z => ⟨(RX8, TX8, 8), rfl, by decide, bw_229⟩
theorem bw_231 : (Jvm.Cond.fieldLink "HumUnheard$Source" (30 : Nat) "HumUnheard$Source" "price" "I" : Cond) ∈ BW := bw 231 (by decide +kernel) rfl
theorem fX8_30 : ∀ z, xFd (Cf z) RX8 30 8 6 := fun z => ⟨(RX8, TX8, 8), rfl, by decide, bw_231⟩
theorem bw_234 : (Jvm.Cond.fieldLink "HumUnheard$Source" (33 : Nat) "HumUnheard$Source" "beating" "I" : Cond) ∈ BW := bw 234 (by decide +kernel) rfl
theorem fX8_33 : ∀ z, xFd (Cf z) RX8 33 8 7 := fun z => ⟨(RX8, TX8, 8), rfl, by decide, bw_234⟩
theorem bw_216 : (Jvm.Cond.methodLink "HumUnheard$Source" (3 : Nat) ({ cls := "java/lang/Object", name := "<init>", desc := "()V" } : Jvm.MethodName) : Cond) ∈ BW := bw 216 (by decide +kernel) rfl
theorem gX8_3 : ∀ z, Cond.methodLink RX8 3 objectInit ∈ (Cf z).1 := fun z => bw_216
theorem bw_903 : (Jvm.Cond.methodLink "HumUnheard$Source" (40 : Nat) ({ cls := "java/lang/Math", name := "max", desc := "(II)I" } : Jvm.MethodName) : Cond) ∈ BW := bw 903 (by decide +kernel) rfl
theorem bw_904 : (Jvm.Cond.static ({ cls := "java/lang/Math", name := "max", desc := "(II)I" } : Jvm.MethodName) : Cond) ∈ BW := bw 904 (by decide +kernel) rfl
theorem gX8_40 : ∀ z, xMp (Cf z) RX8 40 Lib.Math.max.name Lib.Math.max.code 2 := fun z => ⟨bw_903, bw_904, bw_93, bw 905 (by decide +kernel) rfl⟩
theorem bw_589 : (Jvm.Cond.code ({ cls := "HumUnheard$Source", name := "isFan", desc := "()Z" } : Jvm.MethodName) prog_10_method_4_code (1 : Nat) (Option.some Jvm.ClassFile.FieldType.boolean) : Cond) ∈ BW := bw 589 (by decide +kernel) rfl
theorem cmX8_isFan : ∀ z, xCm (Cf z) MX8_isFan 0 := fun z => ⟨bw_86, bw_589, by decide +kernel, by decide, by decide +kernel⟩
theorem bw_586 : (Jvm.Cond.methodLink "HumUnheard$Source" (36 : Nat) ({ cls := "HumUnheard$Source", name := "isFan", desc := "()Z" } : Jvm.MethodName) : Cond) ∈ BW := bw 586 (by decide +kernel) rfl
theorem bw_587 : (Jvm.Cond.instanceMethod ({ cls := "HumUnheard$Source", name := "isFan", desc := "()Z" } : Jvm.MethodName) : Cond) ∈ BW := bw 587 (by decide +kernel) rfl
theorem bw_588 : (Jvm.Cond.selects "HumUnheard$Source" ({ cls := "HumUnheard$Source", name := "isFan", desc := "()Z" } : Jvm.MethodName) ({ cls := "HumUnheard$Source", name := "isFan", desc := "()Z" } : Jvm.MethodName) : Cond) ∈ BW := bw 588 (by decide +kernel) rfl
theorem gX8_36 : ∀ z, xCv (Cf z) RX8 36 MX8_isFan 0 := fun z => ⟨cmX8_isFan z, bw_586, bw_587, bw_588⟩
theorem pX8_9 : ∀ z, xFp (Cf z) RX8 9 8 0 (.int) := fun z => ⟨(RX8, TX8, 8), rfl, by decide, bw_217, rfl, by decide +kernel⟩
theorem pX8_15 : ∀ z, xFp (Cf z) RX8 15 8 1 (.int) := fun z => ⟨(RX8, TX8, 8), rfl, by decide, bw_220, rfl, by decide +kernel⟩
theorem pX8_18 : ∀ z, xFp (Cf z) RX8 18 8 2 (.int) := fun z => ⟨(RX8, TX8, 8), rfl, by decide, bw_222, rfl, by decide +kernel⟩
theorem pX8_21 : ∀ z, xFp (Cf z) RX8 21 8 3 (.int) := fun z => ⟨(RX8, TX8, 8), rfl, by decide, bw_225, rfl, by decide +kernel⟩
theorem pX8_24 : ∀ z, xFp (Cf z) RX8 24 8 4 (.int) := fun z => ⟨(RX8, TX8, 8), rfl, by decide, bw_227, rfl, by decide +kernel⟩
theorem pX8_27 : ∀ z, xFp (Cf z) RX8 27 8 5 (.int) := fun z => ⟨(RX8, TX8, 8), rfl, by decide, bw_229, rfl, by decide +kernel⟩
theorem pX8_30 : ∀ z, xFp (Cf z) RX8 30 8 6 (.int) := fun z => ⟨(RX8, TX8, 8), rfl, by decide, bw_231, rfl, by decide +kernel⟩
theorem pX8_33 : ∀ z, xFp (Cf z) RX8 33 8 7 (.int) := fun z => ⟨(RX8, TX8, 8), rfl, by decide, bw_234, rfl, by decide +kernel⟩
theorem bw_121 : (Jvm.Cond.classLink "HumUnheard$Town" (30 : Nat) "HumUnheard$Person" : Cond) ∈ BW := bw 121 (by decide +kernel) rfl
theorem nX9_30a : ∀ z, Cond.classLink RX9 30 "HumUnheard$Person" ∈ (Cf z).1 ∧ Cond.arrayOver (.object "HumUnheard$Person") ∈ (Cf z).2.1 := fun z => ⟨bw_121, nw 122 (by decide +kernel) rfl⟩
theorem bw_123 : (Jvm.Cond.classLink "HumUnheard$Town" (36 : Nat) "HumUnheard$Source" : Cond) ∈ BW := bw 123 (by decide +kernel) rfl
theorem nX9_36a : ∀ z, Cond.classLink RX9 36 "HumUnheard$Source" ∈ (Cf z).1 ∧ Cond.arrayOver (.object "HumUnheard$Source") ∈ (Cf z).2.1 := fun z => ⟨bw_123, nw 124 (by decide +kernel) rfl⟩
theorem bw_125 : (Jvm.Cond.classLink "HumUnheard$Town" (42 : Nat) "HumUnheard$Plan" : Cond) ∈ BW := bw 125 (by decide +kernel) rfl
theorem nX9_42a : ∀ z, Cond.classLink RX9 42 "HumUnheard$Plan" ∈ (Cf z).1 ∧ Cond.arrayOver (.object "HumUnheard$Plan") ∈ (Cf z).2.1 := fun z => ⟨bw_125, nw 126 (by decide +kernel) rfl⟩
theorem bw_283 : (Jvm.Cond.fieldLink "HumUnheard$Town" (9 : Nat) "HumUnheard$Town" "now" "I" : Cond) ∈ BW := bw 283 (by decide +kernel) rfl
theorem fX9_9 : ∀ z, xFd (Cf z) RX9 9 9 0 := fun z => ⟨(RX9, TX9, 14), rfl, by decide, bw_283⟩
theorem bw_285 : (Jvm.Cond.fieldLink "HumUnheard$Town" (15 : Nat) "HumUnheard$Town" "personCount" "I" : Cond) ∈ BW := bw 285 (by decide +kernel) rfl
theorem fX9_15 : ∀ z, xFd (Cf z) RX9 15 9 1 := fun z => ⟨(RX9, TX9, 14), rfl, by decide, bw_285⟩
theorem bw_288 : (Jvm.Cond.fieldLink "HumUnheard$Town" (18 : Nat) "HumUnheard$Town" "sourceCount" "I" : Cond) ∈ BW := bw 288 (by decide +kernel) rfl
theorem fX9_18 : ∀ z, xFd (Cf z) RX9 18 9 2 := fun z => ⟨(RX9, TX9, 14), rfl, by decide, bw_288⟩
theorem bw_291 : (Jvm.Cond.fieldLink "HumUnheard$Town" (21 : Nat) "HumUnheard$Town" "planCount" "I" : Cond) ∈ BW := bw 291 (by decide +kernel) rfl
theorem fX9_21 : ∀ z, xFd (Cf z) RX9 21 9 3 := fun z => ⟨(RX9, TX9, 14), rfl, by decide, bw_291⟩
theorem bw_293 : (Jvm.Cond.fieldLink "HumUnheard$Town" (24 : Nat) "HumUnheard$Town" "planInForce" "I" : Cond) ∈ BW := bw 293 (by decide +kernel) rfl
theorem fX9_24 : ∀ z, xFd (Cf z) RX9 24 9 4 := fun z => ⟨(RX9, TX9, 14), rfl, by decide, bw_293⟩
theorem bw_295 : (Jvm.Cond.fieldLink "HumUnheard$Town" (27 : Nat) "HumUnheard$Town" "offByHand" "I" : Cond) ∈ BW := bw 295 (by decide +kernel) rfl
theorem fX9_27 : ∀ z, xFd (Cf z) RX9 27 9 5 := fun z => ⟨(RX9, TX9, 14), rfl, by decide, bw_295⟩
theorem bw_297 : (Jvm.Cond.fieldLink "HumUnheard$Town" (32 : Nat) "HumUnheard$Town" "people" "[LHumUnheard$Person;" : Cond) ∈ BW := bw 297 (by decide +kernel) rfl
theorem fX9_32 : ∀ z, xFd (Cf z) RX9 32 9 6 := fun z => ⟨(RX9, TX9, 14), rfl, by decide, bw_297⟩
theorem bw_300 : (Jvm.Cond.fieldLink "HumUnheard$Town" (38 : Nat) "HumUnheard$Town" "sources" "[LHumUnheard$Source;" : Cond) ∈ BW := bw 300 (by decide +kernel) rfl
theorem fX9_38 : ∀ z, xFd (Cf z) RX9 38 9 7 := fun z => ⟨(RX9, TX9, 14), rfl, by decide, bw_300⟩
theorem bw_303 : (Jvm.Cond.fieldLink "HumUnheard$Town" (44 : Nat) "HumUnheard$Town" "plans" "[LHumUnheard$Plan;" : Cond) ∈ BW := bw 303 (by decide +kernel) rfl
theorem fX9_44 : ∀ z, xFd (Cf z) RX9 44 9 8 := fun z => ⟨(RX9, TX9, 14), rfl, by decide, bw_303⟩
theorem bw_304 : (Jvm.Cond.fieldLink "HumUnheard$Town" (51 : Nat) "HumUnheard$Town" "diary" "LHumUnheard$Diary;" : Cond) ∈ BW := bw 304 (by decide +kernel) rfl
theorem fX9_51 : ∀ z, xFd (Cf z) RX9 51 9 9 := fun z => ⟨(RX9, TX9, 14), rfl, by decide, bw_304⟩
theorem bw_307 : (Jvm.Cond.fieldLink "HumUnheard$Town" (58 : Nat) "HumUnheard$Town" "letters" "LHumUnheard$Letters;" : Cond) ∈ BW := bw 307 (by decide +kernel) rfl
theorem fX9_58 : ∀ z, xFd (Cf z) RX9 58 9 10 := fun z => ⟨(RX9, TX9, 14), rfl, by decide, bw_307⟩
theorem bw_309 : (Jvm.Cond.fieldLink "HumUnheard$Town" (62 : Nat) "HumUnheard$Town" "sizes" "[I" : Cond) ∈ BW := bw 309 (by decide +kernel) rfl
theorem fX9_62 : ∀ z, xFd (Cf z) RX9 62 9 11 := fun z => ⟨(RX9, TX9, 14), rfl, by decide, bw_309⟩
theorem bw_311 : (Jvm.Cond.fieldLink "HumUnheard$Town" (66 : Nat) "HumUnheard$Town" "storms" "[I" : Cond) ∈ BW := bw 311 (by decide +kernel) rfl
theorem fX9_66 : ∀ z, xFd (Cf z) RX9 66 9 12 := fun z => ⟨(RX9, TX9, 14), rfl, by decide, bw_311⟩
theorem bw_313 : (Jvm.Cond.fieldLink "HumUnheard$Town" (69 : Nat) "HumUnheard$Town" "laws" "[I" : Cond) ∈ BW := bw 313 (by decide +kernel) rfl
theorem fX9_69 : ∀ z, xFd (Cf z) RX9 69 9 13 := fun z => ⟨(RX9, TX9, 14), rfl, by decide, bw_313⟩
theorem bw_224 : (Jvm.Cond.fieldLink "HumUnheard$Town" (111 : Nat) "HumUnheard$Source" "tone" "I" : Cond) ∈ BW := bw 224 (by decide +kernel) rfl
theorem fX9_111 : ∀ z, xFd (Cf z) RX9 111 8 2 := fun z => ⟨(RX8, TX8, 8), rfl, by decide, bw_224⟩
theorem bw_235 : (Jvm.Cond.fieldLink "HumUnheard$Town" (118 : Nat) "HumUnheard$Source" "beating" "I" : Cond) ∈ BW := bw 235 (by decide +kernel) rfl
theorem fX9_118 : ∀ z, xFd (Cf z) RX9 118 8 7 := fun z => ⟨(RX8, TX8, 8), rfl, by decide, bw_235⟩
theorem bw_194 : (Jvm.Cond.fieldLink "HumUnheard$Town" (127 : Nat) "HumUnheard$Person" "spot" "I" : Cond) ∈ BW := bw 194 (by decide +kernel) rfl
theorem fX9_127 : ∀ z, xFd (Cf z) RX9 127 3 0 := fun z => ⟨(RX3, TX3, 5), rfl, by decide, bw_194⟩
theorem bw_221 : (Jvm.Cond.fieldLink "HumUnheard$Town" (144 : Nat) "HumUnheard$Source" "where" "I" : Cond) ∈ BW := bw 221 (by decide +kernel) rfl
theorem fX9_144 : ∀ z, xFd (Cf z) RX9 144 8 1 := fun z => ⟨(RX8, TX8, 8), rfl, by decide, bw_221⟩
theorem bw_219 : (Jvm.Cond.fieldLink "HumUnheard$Town" (174 : Nat) "HumUnheard$Source" "kind" "I" : Cond) ∈ BW := bw 219 (by decide +kernel) rfl
theorem fX9_174 : ∀ z, xFd (Cf z) RX9 174 8 0 := fun z => ⟨(RX8, TX8, 8), rfl, by decide, bw_219⟩
theorem bw_226 : (Jvm.Cond.fieldLink "HumUnheard$Town" (183 : Nat) "HumUnheard$Source" "strength" "I" : Cond) ∈ BW := bw 226 (by decide +kernel) rfl
theorem fX9_183 : ∀ z, xFd (Cf z) RX9 183 8 3 := fun z => ⟨(RX8, TX8, 8), rfl, by decide, bw_226⟩
theorem bw_200 : (Jvm.Cond.fieldLink "HumUnheard$Town" (199 : Nat) "HumUnheard$Person" "reads" "Z" : Cond) ∈ BW := bw 200 (by decide +kernel) rfl
theorem fX9_199 : ∀ z, xFd (Cf z) RX9 199 3 4 := fun z => ⟨(RX3, TX3, 5), rfl, by decide, bw_200⟩
theorem bw_170 : (Jvm.Cond.fieldLink "HumUnheard$Town" (228 : Nat) "HumUnheard$Letters" "count" "I" : Cond) ∈ BW := bw 170 (by decide +kernel) rfl
theorem fX9_228 : ∀ z, xFd (Cf z) RX9 228 2 0 := fun z => ⟨(RX2, TX2, 4), rfl, by decide, bw_170⟩
theorem bw_175 : (Jvm.Cond.fieldLink "HumUnheard$Town" (231 : Nat) "HumUnheard$Letters" "came" "[I" : Cond) ∈ BW := bw 175 (by decide +kernel) rfl
theorem fX9_231 : ∀ z, xFd (Cf z) RX9 231 2 2 := fun z => ⟨(RX2, TX2, 4), rfl, by decide, bw_175⟩
theorem bw_177 : (Jvm.Cond.fieldLink "HumUnheard$Town" (234 : Nat) "HumUnheard$Letters" "since" "[I" : Cond) ∈ BW := bw 177 (by decide +kernel) rfl
theorem fX9_234 : ∀ z, xFd (Cf z) RX9 234 2 3 := fun z => ⟨(RX2, TX2, 4), rfl, by decide, bw_177⟩
theorem bw_173 : (Jvm.Cond.fieldLink "HumUnheard$Town" (237 : Nat) "HumUnheard$Letters" "who" "[I" : Cond) ∈ BW := bw 173 (by decide +kernel) rfl
theorem fX9_237 : ∀ z, xFd (Cf z) RX9 237 2 1 := fun z => ⟨(RX2, TX2, 4), rfl, by decide, bw_173⟩
theorem sX9_75 : ∀ z, Cond.fieldLinkNest RX9 75 "HumUnheard" "FIRST_LAWS" "[I" "HumUnheard" ∈ (Cf z).2.1 := fun z => nw 278 (by decide +kernel) rfl
theorem bw_120 : (Jvm.Cond.methodLink "HumUnheard$Town" (3 : Nat) ({ cls := "java/lang/Object", name := "<init>", desc := "()V" } : Jvm.MethodName) : Cond) ∈ BW := bw 120 (by decide +kernel) rfl
theorem gX9_3 : ∀ z, Cond.methodLink RX9 3 objectInit ∈ (Cf z).1 := fun z => bw_120
theorem bw_131 : (Jvm.Cond.code ({ cls := "HumUnheard$Diary", name := "<init>", desc := "()V" } : Jvm.MethodName) prog_3_method_1_code (1 : Nat) (Option.none : Option Jvm.ClassFile.FieldType) : Cond) ∈ BW := bw 131 (by decide +kernel) rfl
theorem cmX1_init : ∀ z, xCm (Cf z) MX1_init 0 := fun z => ⟨bw_83, bw_131, by decide +kernel, by decide, by decide +kernel⟩
theorem bw_130 : (Jvm.Cond.instanceMethod ({ cls := "HumUnheard$Diary", name := "<init>", desc := "()V" } : Jvm.MethodName) : Cond) ∈ BW := bw 130 (by decide +kernel) rfl
theorem gX9_50 : ∀ z, xCi (Cf z) RX9 50 MX1_init 0 ∨ ∃ h, xCiN (Cf z) RX9 50 MX1_init 0 h := fun z => Or.inr ⟨"HumUnheard", cmX1_init z, nw 129 (by decide +kernel) rfl, bw_130, rfl, rfl⟩
theorem bw_167 : (Jvm.Cond.code ({ cls := "HumUnheard$Letters", name := "<init>", desc := "()V" } : Jvm.MethodName) prog_4_method_1_code (1 : Nat) (Option.none : Option Jvm.ClassFile.FieldType) : Cond) ∈ BW := bw 167 (by decide +kernel) rfl
theorem cmX2_init : ∀ z, xCm (Cf z) MX2_init 0 := fun z => ⟨bw_84, bw_167, by decide +kernel, by decide, by decide +kernel⟩
theorem bw_166 : (Jvm.Cond.instanceMethod ({ cls := "HumUnheard$Letters", name := "<init>", desc := "()V" } : Jvm.MethodName) : Cond) ∈ BW := bw 166 (by decide +kernel) rfl
theorem gX9_57 : ∀ z, xCi (Cf z) RX9 57 MX2_init 0 ∨ ∃ h, xCiN (Cf z) RX9 57 MX2_init 0 h := fun z => Or.inr ⟨"HumUnheard", cmX2_init z, nw 165 (by decide +kernel) rfl, bw_166, rfl, rfl⟩
theorem bw_190 : (Jvm.Cond.code ({ cls := "HumUnheard$Person", name := "<init>", desc := "()V" } : Jvm.MethodName) prog_5_method_1_code (1 : Nat) (Option.none : Option Jvm.ClassFile.FieldType) : Cond) ∈ BW := bw 190 (by decide +kernel) rfl
theorem cmX3_init : ∀ z, xCm (Cf z) MX3_init 0 := fun z => ⟨bw_85, bw_190, by decide +kernel, by decide, by decide +kernel⟩
theorem bw_189 : (Jvm.Cond.instanceMethod ({ cls := "HumUnheard$Person", name := "<init>", desc := "()V" } : Jvm.MethodName) : Cond) ∈ BW := bw 189 (by decide +kernel) rfl
theorem gX9_72 : ∀ z, xCi (Cf z) RX9 72 MX3_init 0 ∨ ∃ h, xCiN (Cf z) RX9 72 MX3_init 0 h := fun z => Or.inr ⟨"HumUnheard", cmX3_init z, nw 188 (by decide +kernel) rfl, bw_189, rfl, rfl⟩
theorem bw_215 : (Jvm.Cond.code ({ cls := "HumUnheard$Source", name := "<init>", desc := "()V" } : Jvm.MethodName) prog_10_method_1_code (1 : Nat) (Option.none : Option Jvm.ClassFile.FieldType) : Cond) ∈ BW := bw 215 (by decide +kernel) rfl
theorem cmX8_init : ∀ z, xCm (Cf z) MX8_init 0 := fun z => ⟨bw_86, bw_215, by decide +kernel, by decide, by decide +kernel⟩
theorem bw_214 : (Jvm.Cond.instanceMethod ({ cls := "HumUnheard$Source", name := "<init>", desc := "()V" } : Jvm.MethodName) : Cond) ∈ BW := bw 214 (by decide +kernel) rfl
theorem gX9_73 : ∀ z, xCi (Cf z) RX9 73 MX8_init 0 ∨ ∃ h, xCiN (Cf z) RX9 73 MX8_init 0 h := fun z => Or.inr ⟨"HumUnheard", cmX8_init z, nw 213 (by decide +kernel) rfl, bw_214, rfl, rfl⟩
theorem gX9_74 : ∀ z, xCi (Cf z) RX9 74 MX4_init 0 ∨ ∃ h, xCiN (Cf z) RX9 74 MX4_init 0 h := fun z => Or.inr ⟨"HumUnheard", cmX4_init z, nw 254 (by decide +kernel) rfl, bw_255, rfl, rfl⟩
theorem bw_280 : (Jvm.Cond.methodLink "HumUnheard$Town" (78 : Nat) ({ cls := "java/lang/System", name := "arraycopy", desc := "(Ljava/lang/Object;ILjava/lang/Object;II)V" } : Jvm.MethodName) : Cond) ∈ BW := bw 280 (by decide +kernel) rfl
theorem gX9_78 : ∀ z, xCp (Cf z) RX9 78 := fun z => ⟨bw_280, bw_282, bw_281, bw_88⟩
theorem gX9_100 : ∀ z, xCs (Cf z) RX9 100 MX10_bit 1 ∨ ∃ h, xCsN (Cf z) RX9 100 MX10_bit 1 h := fun z => Or.inr ⟨"HumUnheard", cmX10_bit z, nw 646 (by decide +kernel) rfl, bw_647⟩
theorem bw_642 : (Jvm.Cond.code ({ cls := "HumUnheard", name := "beat", desc := "(II)Z" } : Jvm.MethodName) prog_1_method_61_code (3 : Nat) (Option.some Jvm.ClassFile.FieldType.boolean) : Cond) ∈ BW := bw 642 (by decide +kernel) rfl
theorem cmX10_beat : ∀ z, xCm (Cf z) MX10_beat 2 := fun z => ⟨bw_80, bw_642, by decide +kernel, by decide, by decide +kernel⟩
theorem bw_641 : (Jvm.Cond.static ({ cls := "HumUnheard", name := "beat", desc := "(II)Z" } : Jvm.MethodName) : Cond) ∈ BW := bw 641 (by decide +kernel) rfl
theorem gX9_114 : ∀ z, xCs (Cf z) RX9 114 MX10_beat 2 ∨ ∃ h, xCsN (Cf z) RX9 114 MX10_beat 2 h := fun z => Or.inr ⟨"HumUnheard", cmX10_beat z, nw 640 (by decide +kernel) rfl, bw_641⟩
theorem gX9_156 : ∀ z, xCs (Cf z) RX9 156 MX10_hasBit 2 ∨ ∃ h, xCsN (Cf z) RX9 156 MX10_hasBit 2 h := fun z => Or.inr ⟨"HumUnheard", cmX10_hasBit z, nw 876 (by decide +kernel) rfl, bw_877⟩
theorem gX9_186 : ∀ z, xCs (Cf z) RX9 186 MX10_farApart 2 ∨ ∃ h, xCsN (Cf z) RX9 186 MX10_farApart 2 h := fun z => Or.inr ⟨"HumUnheard", cmX10_farApart z, nw 896 (by decide +kernel) rfl, bw_897⟩
theorem bw_1119 : (Jvm.Cond.methodLink "HumUnheard$Town" (212 : Nat) ({ cls := "java/lang/Integer", name := "bitCount", desc := "(I)I" } : Jvm.MethodName) : Cond) ∈ BW := bw 1119 (by decide +kernel) rfl
theorem gX9_212 : ∀ z, xCs (Cf z) RX9 212 MJ6_bitCount_0f7a4 1 ∨ ∃ h, xCsN (Cf z) RX9 212 MJ6_bitCount_0f7a4 1 h := fun z => Or.inl ⟨cmJ6_bitCount_0f7a4 z, bw_1119, bw_1120⟩
theorem bw_1011 : (Jvm.Cond.methodLink "HumUnheard$Town" (217 : Nat) ({ cls := "java/lang/Math", name := "abs", desc := "(I)I" } : Jvm.MethodName) : Cond) ∈ BW := bw 1011 (by decide +kernel) rfl
theorem gX9_217 : ∀ z, xMp (Cf z) RX9 217 Lib.Math.abs.name Lib.Math.abs.code 1 := fun z => ⟨bw_1011, bw_644, bw_93, bw 645 (by decide +kernel) rfl⟩
theorem bw_1046 : (Jvm.Cond.methodLink "HumUnheard$Town" (222 : Nat) ({ cls := "java/lang/Math", name := "max", desc := "(II)I" } : Jvm.MethodName) : Cond) ∈ BW := bw 1046 (by decide +kernel) rfl
theorem gX9_222 : ∀ z, xMp (Cf z) RX9 222 Lib.Math.max.name Lib.Math.max.code 2 := fun z => ⟨bw_1046, bw_904, bw_93, bw 905 (by decide +kernel) rfl⟩
theorem bw_1047 : (Jvm.Cond.methodLink "HumUnheard$Town" (225 : Nat) ({ cls := "java/lang/Math", name := "min", desc := "(II)I" } : Jvm.MethodName) : Cond) ∈ BW := bw 1047 (by decide +kernel) rfl
theorem bw_1048 : (Jvm.Cond.static ({ cls := "java/lang/Math", name := "min", desc := "(II)I" } : Jvm.MethodName) : Cond) ∈ BW := bw 1048 (by decide +kernel) rfl
theorem gX9_225 : ∀ z, xMp (Cf z) RX9 225 Lib.Math.min.name Lib.Math.min.code 2 := fun z => ⟨bw_1047, bw_1048, bw_93, bw 1049 (by decide +kernel) rfl⟩
theorem bw_1214 : (Jvm.Cond.code ({ cls := "HumUnheard$Person", name := "becomeLike", desc := "(LHumUnheard$Person;)V" } : Jvm.MethodName) prog_5_method_3_code (2 : Nat) (Option.none : Option Jvm.ClassFile.FieldType) : Cond) ∈ BW := bw 1214 (by decide +kernel) rfl
theorem cmX3_becomeLike : ∀ z, xCm (Cf z) MX3_becomeLike 1 := fun z => ⟨bw_85, bw_1214, by decide +kernel, by decide, by decide +kernel⟩
theorem bw_1211 : (Jvm.Cond.methodLink "HumUnheard$Town" (84 : Nat) ({ cls := "HumUnheard$Person", name := "becomeLike", desc := "(LHumUnheard$Person;)V" } : Jvm.MethodName) : Cond) ∈ BW := bw 1211 (by decide +kernel) rfl
theorem bw_1212 : (Jvm.Cond.instanceMethod ({ cls := "HumUnheard$Person", name := "becomeLike", desc := "(LHumUnheard$Person;)V" } : Jvm.MethodName) : Cond) ∈ BW := bw 1212 (by decide +kernel) rfl
theorem bw_1213 : (Jvm.Cond.selects "HumUnheard$Person" ({ cls := "HumUnheard$Person", name := "becomeLike", desc := "(LHumUnheard$Person;)V" } : Jvm.MethodName) ({ cls := "HumUnheard$Person", name := "becomeLike", desc := "(LHumUnheard$Person;)V" } : Jvm.MethodName) : Cond) ∈ BW := bw 1213 (by decide +kernel) rfl
theorem gX9_84 : ∀ z, xCv (Cf z) RX9 84 MX3_becomeLike 1 := fun z => ⟨cmX3_becomeLike z, bw_1211, bw_1212, bw_1213⟩
theorem bw_1219 : (Jvm.Cond.code ({ cls := "HumUnheard$Source", name := "becomeLike", desc := "(LHumUnheard$Source;)V" } : Jvm.MethodName) prog_10_method_3_code (2 : Nat) (Option.none : Option Jvm.ClassFile.FieldType) : Cond) ∈ BW := bw 1219 (by decide +kernel) rfl
theorem cmX8_becomeLike : ∀ z, xCm (Cf z) MX8_becomeLike 1 := fun z => ⟨bw_86, bw_1219, by decide +kernel, by decide, by decide +kernel⟩
theorem bw_1216 : (Jvm.Cond.methodLink "HumUnheard$Town" (88 : Nat) ({ cls := "HumUnheard$Source", name := "becomeLike", desc := "(LHumUnheard$Source;)V" } : Jvm.MethodName) : Cond) ∈ BW := bw 1216 (by decide +kernel) rfl
theorem bw_1217 : (Jvm.Cond.instanceMethod ({ cls := "HumUnheard$Source", name := "becomeLike", desc := "(LHumUnheard$Source;)V" } : Jvm.MethodName) : Cond) ∈ BW := bw 1217 (by decide +kernel) rfl
theorem bw_1218 : (Jvm.Cond.selects "HumUnheard$Source" ({ cls := "HumUnheard$Source", name := "becomeLike", desc := "(LHumUnheard$Source;)V" } : Jvm.MethodName) ({ cls := "HumUnheard$Source", name := "becomeLike", desc := "(LHumUnheard$Source;)V" } : Jvm.MethodName) : Cond) ∈ BW := bw 1218 (by decide +kernel) rfl
theorem gX9_88 : ∀ z, xCv (Cf z) RX9 88 MX8_becomeLike 1 := fun z => ⟨cmX8_becomeLike z, bw_1216, bw_1217, bw_1218⟩
theorem bw_832 : (Jvm.Cond.code ({ cls := "HumUnheard$Plan", name := "becomeLike", desc := "(LHumUnheard$Plan;)V" } : Jvm.MethodName) prog_6_method_3_code (2 : Nat) (Option.none : Option Jvm.ClassFile.FieldType) : Cond) ∈ BW := bw 832 (by decide +kernel) rfl
theorem cmX4_becomeLike : ∀ z, xCm (Cf z) MX4_becomeLike 1 := fun z => ⟨bw_87, bw_832, by decide +kernel, by decide, by decide +kernel⟩
theorem bw_829 : (Jvm.Cond.methodLink "HumUnheard$Town" (91 : Nat) ({ cls := "HumUnheard$Plan", name := "becomeLike", desc := "(LHumUnheard$Plan;)V" } : Jvm.MethodName) : Cond) ∈ BW := bw 829 (by decide +kernel) rfl
theorem bw_830 : (Jvm.Cond.instanceMethod ({ cls := "HumUnheard$Plan", name := "becomeLike", desc := "(LHumUnheard$Plan;)V" } : Jvm.MethodName) : Cond) ∈ BW := bw 830 (by decide +kernel) rfl
theorem bw_831 : (Jvm.Cond.selects "HumUnheard$Plan" ({ cls := "HumUnheard$Plan", name := "becomeLike", desc := "(LHumUnheard$Plan;)V" } : Jvm.MethodName) ({ cls := "HumUnheard$Plan", name := "becomeLike", desc := "(LHumUnheard$Plan;)V" } : Jvm.MethodName) : Cond) ∈ BW := bw 831 (by decide +kernel) rfl
theorem gX9_91 : ∀ z, xCv (Cf z) RX9 91 MX4_becomeLike 1 := fun z => ⟨cmX4_becomeLike z, bw_829, bw_830, bw_831⟩
theorem bw_1223 : (Jvm.Cond.code ({ cls := "HumUnheard$Diary", name := "becomeLike", desc := "(LHumUnheard$Diary;)V" } : Jvm.MethodName) prog_3_method_6_code (2 : Nat) (Option.none : Option Jvm.ClassFile.FieldType) : Cond) ∈ BW := bw 1223 (by decide +kernel) rfl
theorem cmX1_becomeLike : ∀ z, xCm (Cf z) MX1_becomeLike 1 := fun z => ⟨bw_83, bw_1223, by decide +kernel, by decide, by decide +kernel⟩
theorem bw_1220 : (Jvm.Cond.methodLink "HumUnheard$Town" (94 : Nat) ({ cls := "HumUnheard$Diary", name := "becomeLike", desc := "(LHumUnheard$Diary;)V" } : Jvm.MethodName) : Cond) ∈ BW := bw 1220 (by decide +kernel) rfl
theorem bw_1221 : (Jvm.Cond.instanceMethod ({ cls := "HumUnheard$Diary", name := "becomeLike", desc := "(LHumUnheard$Diary;)V" } : Jvm.MethodName) : Cond) ∈ BW := bw 1221 (by decide +kernel) rfl
theorem bw_1222 : (Jvm.Cond.selects "HumUnheard$Diary" ({ cls := "HumUnheard$Diary", name := "becomeLike", desc := "(LHumUnheard$Diary;)V" } : Jvm.MethodName) ({ cls := "HumUnheard$Diary", name := "becomeLike", desc := "(LHumUnheard$Diary;)V" } : Jvm.MethodName) : Cond) ∈ BW := bw 1222 (by decide +kernel) rfl
theorem gX9_94 : ∀ z, xCv (Cf z) RX9 94 MX1_becomeLike 1 := fun z => ⟨cmX1_becomeLike z, bw_1220, bw_1221, bw_1222⟩
theorem bw_1228 : (Jvm.Cond.code ({ cls := "HumUnheard$Letters", name := "becomeLike", desc := "(LHumUnheard$Letters;)V" } : Jvm.MethodName) prog_4_method_3_code (2 : Nat) (Option.none : Option Jvm.ClassFile.FieldType) : Cond) ∈ BW := bw 1228 (by decide +kernel) rfl
theorem cmX2_becomeLike : ∀ z, xCm (Cf z) MX2_becomeLike 1 := fun z => ⟨bw_84, bw_1228, by decide +kernel, by decide, by decide +kernel⟩
theorem bw_1225 : (Jvm.Cond.methodLink "HumUnheard$Town" (97 : Nat) ({ cls := "HumUnheard$Letters", name := "becomeLike", desc := "(LHumUnheard$Letters;)V" } : Jvm.MethodName) : Cond) ∈ BW := bw 1225 (by decide +kernel) rfl
theorem bw_1226 : (Jvm.Cond.instanceMethod ({ cls := "HumUnheard$Letters", name := "becomeLike", desc := "(LHumUnheard$Letters;)V" } : Jvm.MethodName) : Cond) ∈ BW := bw 1226 (by decide +kernel) rfl
theorem bw_1227 : (Jvm.Cond.selects "HumUnheard$Letters" ({ cls := "HumUnheard$Letters", name := "becomeLike", desc := "(LHumUnheard$Letters;)V" } : Jvm.MethodName) ({ cls := "HumUnheard$Letters", name := "becomeLike", desc := "(LHumUnheard$Letters;)V" } : Jvm.MethodName) : Cond) ∈ BW := bw 1227 (by decide +kernel) rfl
theorem gX9_97 : ∀ z, xCv (Cf z) RX9 97 MX2_becomeLike 1 := fun z => ⟨cmX2_becomeLike z, bw_1225, bw_1226, bw_1227⟩
theorem bw_616 : (Jvm.Cond.methodLink "HumUnheard$Town" (104 : Nat) ({ cls := "HumUnheard$Person", name := "begin", desc := "(IIIIZ)V" } : Jvm.MethodName) : Cond) ∈ BW := bw 616 (by decide +kernel) rfl
theorem gX9_104 : ∀ z, xCv (Cf z) RX9 104 MX3_begin 5 := fun z => ⟨cmX3_begin z, bw_616, bw_617, bw_618⟩
theorem bw_639 : (Jvm.Cond.code ({ cls := "HumUnheard$Source", name := "begin", desc := "(IIII)V" } : Jvm.MethodName) prog_10_method_2_code (5 : Nat) (Option.none : Option Jvm.ClassFile.FieldType) : Cond) ∈ BW := bw 639 (by decide +kernel) rfl
theorem cmX8_begin : ∀ z, xCm (Cf z) MX8_begin 4 := fun z => ⟨bw_86, bw_639, by decide +kernel, by decide, by decide +kernel⟩
theorem bw_636 : (Jvm.Cond.methodLink "HumUnheard$Town" (108 : Nat) ({ cls := "HumUnheard$Source", name := "begin", desc := "(IIII)V" } : Jvm.MethodName) : Cond) ∈ BW := bw 636 (by decide +kernel) rfl
theorem bw_637 : (Jvm.Cond.instanceMethod ({ cls := "HumUnheard$Source", name := "begin", desc := "(IIII)V" } : Jvm.MethodName) : Cond) ∈ BW := bw 637 (by decide +kernel) rfl
theorem bw_638 : (Jvm.Cond.selects "HumUnheard$Source" ({ cls := "HumUnheard$Source", name := "begin", desc := "(IIII)V" } : Jvm.MethodName) ({ cls := "HumUnheard$Source", name := "begin", desc := "(IIII)V" } : Jvm.MethodName) : Cond) ∈ BW := bw 638 (by decide +kernel) rfl
theorem gX9_108 : ∀ z, xCv (Cf z) RX9 108 MX8_begin 4 := fun z => ⟨cmX8_begin z, bw_636, bw_637, bw_638⟩
theorem bw_972 : (Jvm.Cond.methodLink "HumUnheard$Town" (121 : Nat) ({ cls := "HumUnheard$Shelf", name := "isPress", desc := "(I)Z" } : Jvm.MethodName) : Cond) ∈ BW := bw 972 (by decide +kernel) rfl
theorem gX9_121 : ∀ z, xCv (Cf z) RX9 121 MX7_isPress 1 := fun z => ⟨cmX7_isPress z, bw_972, bw_964, bw_965⟩
theorem bw_973 : (Jvm.Cond.methodLink "HumUnheard$Town" (130 : Nat) ({ cls := "HumUnheard$Shelf", name := "intAt", desc := "(I)I" } : Jvm.MethodName) : Cond) ∈ BW := bw 973 (by decide +kernel) rfl
theorem gX9_130 : ∀ z, xCv (Cf z) RX9 130 MX7_intAt 1 := fun z => ⟨cmX7_intAt z, bw_973, bw_695, bw_696⟩
theorem bw_974 : (Jvm.Cond.methodLink "HumUnheard$Town" (133 : Nat) ({ cls := "HumUnheard$Diary", name := "addPress", desc := "(IIIZ)V" } : Jvm.MethodName) : Cond) ∈ BW := bw 974 (by decide +kernel) rfl
theorem gX9_133 : ∀ z, xCv (Cf z) RX9 133 MX1_addPress 4 := fun z => ⟨cmX1_addPress z, bw_974, bw_948, bw_949⟩
theorem bw_594 : (Jvm.Cond.methodLink "HumUnheard$Town" (137 : Nat) ({ cls := "HumUnheard$Source", name := "hoursAsNumber", desc := "()I" } : Jvm.MethodName) : Cond) ∈ BW := bw 594 (by decide +kernel) rfl
theorem gX9_137 : ∀ z, xCv (Cf z) RX9 137 MX8_hoursAsNumber 0 := fun z => ⟨cmX8_hoursAsNumber z, bw_594, bw_595, bw_596⟩
theorem bw_601 : (Jvm.Cond.code ({ cls := "HumUnheard$Town", name := "countStorms", desc := "()I" } : Jvm.MethodName) prog_11_method_11_code (3 : Nat) (Option.some Jvm.ClassFile.FieldType.int) : Cond) ∈ BW := bw 601 (by decide +kernel) rfl
theorem cmX9_countStorms : ∀ z, xCm (Cf z) MX9_countStorms 0 := fun z => ⟨bw_82, bw_601, by decide +kernel, by decide, by decide +kernel⟩
theorem bw_598 : (Jvm.Cond.methodLink "HumUnheard$Town" (141 : Nat) ({ cls := "HumUnheard$Town", name := "countStorms", desc := "()I" } : Jvm.MethodName) : Cond) ∈ BW := bw 598 (by decide +kernel) rfl
theorem bw_600 : (Jvm.Cond.instanceMethod ({ cls := "HumUnheard$Town", name := "countStorms", desc := "()I" } : Jvm.MethodName) : Cond) ∈ BW := bw 600 (by decide +kernel) rfl
theorem bw_3 : Cond.selects "HumUnheard$Town" ⟨"HumUnheard$Town", "countStorms", "()I"⟩ ⟨"HumUnheard$Town", "countStorms", "()I"⟩ ∈ BW := bw 3 (by decide +kernel) rfl
theorem gX9_141 : ∀ z, xCv (Cf z) RX9 141 MX9_countStorms 0 := fun z => ⟨cmX9_countStorms z, bw_598, bw_600, bw_3⟩
theorem bw_850 : (Jvm.Cond.methodLink "HumUnheard$Town" (147 : Nat) ({ cls := "HumUnheard$Town", name := "allSources", desc := "()I" } : Jvm.MethodName) : Cond) ∈ BW := bw 850 (by decide +kernel) rfl
theorem gX9_147 : ∀ z, xCv (Cf z) RX9 147 MX9_allSources 0 := fun z => ⟨cmX9_allSources z, bw_850, bw_851, bw_852⟩
theorem bw_857 : (Jvm.Cond.code ({ cls := "HumUnheard$Town", name := "offAt", desc := "(I)I" } : Jvm.MethodName) prog_11_method_13_code (2 : Nat) (Option.some Jvm.ClassFile.FieldType.int) : Cond) ∈ BW := bw 857 (by decide +kernel) rfl
theorem cmX9_offAt : ∀ z, xCm (Cf z) MX9_offAt 1 := fun z => ⟨bw_82, bw_857, by decide +kernel, by decide, by decide +kernel⟩
theorem bw_854 : (Jvm.Cond.methodLink "HumUnheard$Town" (150 : Nat) ({ cls := "HumUnheard$Town", name := "offAt", desc := "(I)I" } : Jvm.MethodName) : Cond) ∈ BW := bw 854 (by decide +kernel) rfl
theorem bw_856 : (Jvm.Cond.instanceMethod ({ cls := "HumUnheard$Town", name := "offAt", desc := "(I)I" } : Jvm.MethodName) : Cond) ∈ BW := bw 856 (by decide +kernel) rfl
theorem bw_15 : Cond.selects "HumUnheard$Town" ⟨"HumUnheard$Town", "offAt", "(I)I"⟩ ⟨"HumUnheard$Town", "offAt", "(I)I"⟩ ∈ BW := bw 15 (by decide +kernel) rfl
theorem gX9_150 : ∀ z, xCv (Cf z) RX9 150 MX9_offAt 1 := fun z => ⟨cmX9_offAt z, bw_854, bw_856, bw_15⟩
theorem bw_870 : (Jvm.Cond.code ({ cls := "HumUnheard$Town", name := "fansRunningAt", desc := "(I)I" } : Jvm.MethodName) prog_11_method_14_code (4 : Nat) (Option.some Jvm.ClassFile.FieldType.int) : Cond) ∈ BW := bw 870 (by decide +kernel) rfl
theorem cmX9_fansRunningAt : ∀ z, xCm (Cf z) MX9_fansRunningAt 1 := fun z => ⟨bw_82, bw_870, by decide +kernel, by decide, by decide +kernel⟩
theorem bw_867 : (Jvm.Cond.methodLink "HumUnheard$Town" (153 : Nat) ({ cls := "HumUnheard$Town", name := "fansRunningAt", desc := "(I)I" } : Jvm.MethodName) : Cond) ∈ BW := bw 867 (by decide +kernel) rfl
theorem bw_869 : (Jvm.Cond.instanceMethod ({ cls := "HumUnheard$Town", name := "fansRunningAt", desc := "(I)I" } : Jvm.MethodName) : Cond) ∈ BW := bw 869 (by decide +kernel) rfl
theorem bw_17 : Cond.selects "HumUnheard$Town" ⟨"HumUnheard$Town", "fansRunningAt", "(I)I"⟩ ⟨"HumUnheard$Town", "fansRunningAt", "(I)I"⟩ ∈ BW := bw 17 (by decide +kernel) rfl
theorem gX9_153 : ∀ z, xCv (Cf z) RX9 153 MX9_fansRunningAt 1 := fun z => ⟨cmX9_fansRunningAt z, bw_867, bw_869, bw_17⟩
theorem bw_882 : (Jvm.Cond.code ({ cls := "HumUnheard$Town", name := "isDue", desc := "(III)Z" } : Jvm.MethodName) prog_11_method_15_code (4 : Nat) (Option.some Jvm.ClassFile.FieldType.boolean) : Cond) ∈ BW := bw 882 (by decide +kernel) rfl
theorem cmX9_isDue : ∀ z, xCm (Cf z) MX9_isDue 3 := fun z => ⟨bw_82, bw_882, by decide +kernel, by decide, by decide +kernel⟩
theorem bw_879 : (Jvm.Cond.methodLink "HumUnheard$Town" (159 : Nat) ({ cls := "HumUnheard$Town", name := "isDue", desc := "(III)Z" } : Jvm.MethodName) : Cond) ∈ BW := bw 879 (by decide +kernel) rfl
theorem bw_881 : (Jvm.Cond.instanceMethod ({ cls := "HumUnheard$Town", name := "isDue", desc := "(III)Z" } : Jvm.MethodName) : Cond) ∈ BW := bw 881 (by decide +kernel) rfl
theorem bw_18 : Cond.selects "HumUnheard$Town" ⟨"HumUnheard$Town", "isDue", "(III)Z"⟩ ⟨"HumUnheard$Town", "isDue", "(III)Z"⟩ ∈ BW := bw 18 (by decide +kernel) rfl
theorem gX9_159 : ∀ z, xCv (Cf z) RX9 159 MX9_isDue 3 := fun z => ⟨cmX9_isDue z, bw_879, bw_881, bw_18⟩
theorem bw_861 : (Jvm.Cond.code ({ cls := "HumUnheard$Plan", name := "change", desc := "(II)I" } : Jvm.MethodName) prog_6_method_5_code (6 : Nat) (Option.some Jvm.ClassFile.FieldType.int) : Cond) ∈ BW := bw 861 (by decide +kernel) rfl
theorem cmX4_change : ∀ z, xCm (Cf z) MX4_change 2 := fun z => ⟨bw_87, bw_861, by decide +kernel, by decide, by decide +kernel⟩
theorem bw_858 : (Jvm.Cond.methodLink "HumUnheard$Town" (163 : Nat) ({ cls := "HumUnheard$Plan", name := "change", desc := "(II)I" } : Jvm.MethodName) : Cond) ∈ BW := bw 858 (by decide +kernel) rfl
theorem bw_859 : (Jvm.Cond.instanceMethod ({ cls := "HumUnheard$Plan", name := "change", desc := "(II)I" } : Jvm.MethodName) : Cond) ∈ BW := bw 859 (by decide +kernel) rfl
theorem bw_860 : (Jvm.Cond.selects "HumUnheard$Plan" ({ cls := "HumUnheard$Plan", name := "change", desc := "(II)I" } : Jvm.MethodName) ({ cls := "HumUnheard$Plan", name := "change", desc := "(II)I" } : Jvm.MethodName) : Cond) ∈ BW := bw 860 (by decide +kernel) rfl
theorem gX9_163 : ∀ z, xCv (Cf z) RX9 163 MX4_change 2 := fun z => ⟨cmX4_change z, bw_858, bw_859, bw_860⟩
theorem bw_871 : (Jvm.Cond.methodLink "HumUnheard$Town" (167 : Nat) ({ cls := "HumUnheard$Source", name := "isFan", desc := "()Z" } : Jvm.MethodName) : Cond) ∈ BW := bw 871 (by decide +kernel) rfl
theorem gX9_167 : ∀ z, xCv (Cf z) RX9 167 MX8_isFan 0 := fun z => ⟨cmX8_isFan z, bw_871, bw_587, bw_588⟩
theorem bw_875 : (Jvm.Cond.code ({ cls := "HumUnheard$Source", name := "runsAt", desc := "(I)Z" } : Jvm.MethodName) prog_10_method_7_code (2 : Nat) (Option.some Jvm.ClassFile.FieldType.boolean) : Cond) ∈ BW := bw 875 (by decide +kernel) rfl
theorem cmX8_runsAt : ∀ z, xCm (Cf z) MX8_runsAt 1 := fun z => ⟨bw_86, bw_875, by decide +kernel, by decide, by decide +kernel⟩
theorem bw_872 : (Jvm.Cond.methodLink "HumUnheard$Town" (171 : Nat) ({ cls := "HumUnheard$Source", name := "runsAt", desc := "(I)Z" } : Jvm.MethodName) : Cond) ∈ BW := bw 872 (by decide +kernel) rfl
theorem bw_873 : (Jvm.Cond.instanceMethod ({ cls := "HumUnheard$Source", name := "runsAt", desc := "(I)Z" } : Jvm.MethodName) : Cond) ∈ BW := bw 873 (by decide +kernel) rfl
theorem bw_874 : (Jvm.Cond.selects "HumUnheard$Source" ({ cls := "HumUnheard$Source", name := "runsAt", desc := "(I)Z" } : Jvm.MethodName) ({ cls := "HumUnheard$Source", name := "runsAt", desc := "(I)Z" } : Jvm.MethodName) : Cond) ∈ BW := bw 874 (by decide +kernel) rfl
theorem gX9_171 : ∀ z, xCv (Cf z) RX9 171 MX8_runsAt 1 := fun z => ⟨cmX8_runsAt z, bw_872, bw_873, bw_874⟩
theorem bw_933 : (Jvm.Cond.methodLink "HumUnheard$Town" (177 : Nat) ({ cls := "HumUnheard$Town", name := "soundingAt", desc := "(I)I" } : Jvm.MethodName) : Cond) ∈ BW := bw 933 (by decide +kernel) rfl
theorem gX9_177 : ∀ z, xCv (Cf z) RX9 177 MX9_soundingAt 1 := fun z => ⟨cmX9_soundingAt z, bw_933, bw_847, bw_848⟩
theorem bw_892 : (Jvm.Cond.methodLink "HumUnheard$Town" (180 : Nat) ({ cls := "HumUnheard$Source", name := "isAirborne", desc := "()Z" } : Jvm.MethodName) : Cond) ∈ BW := bw 892 (by decide +kernel) rfl
theorem gX9_180 : ∀ z, xCv (Cf z) RX9 180 MX8_isAirborne 0 := fun z => ⟨cmX8_isAirborne z, bw_892, bw_893, bw_894⟩
theorem bw_902 : (Jvm.Cond.code ({ cls := "HumUnheard$Source", name := "levelWith", desc := "(IIZ)I" } : Jvm.MethodName) prog_10_method_9_code (5 : Nat) (Option.some Jvm.ClassFile.FieldType.int) : Cond) ∈ BW := bw 902 (by decide +kernel) rfl
theorem cmX8_levelWith : ∀ z, xCm (Cf z) MX8_levelWith 3 := fun z => ⟨bw_86, bw_902, by decide +kernel, by decide, by decide +kernel⟩
theorem bw_899 : (Jvm.Cond.methodLink "HumUnheard$Town" (189 : Nat) ({ cls := "HumUnheard$Source", name := "levelWith", desc := "(IIZ)I" } : Jvm.MethodName) : Cond) ∈ BW := bw 899 (by decide +kernel) rfl
theorem bw_900 : (Jvm.Cond.instanceMethod ({ cls := "HumUnheard$Source", name := "levelWith", desc := "(IIZ)I" } : Jvm.MethodName) : Cond) ∈ BW := bw 900 (by decide +kernel) rfl
theorem bw_901 : (Jvm.Cond.selects "HumUnheard$Source" ({ cls := "HumUnheard$Source", name := "levelWith", desc := "(IIZ)I" } : Jvm.MethodName) ({ cls := "HumUnheard$Source", name := "levelWith", desc := "(IIZ)I" } : Jvm.MethodName) : Cond) ∈ BW := bw 901 (by decide +kernel) rfl
theorem gX9_189 : ∀ z, xCv (Cf z) RX9 189 MX8_levelWith 3 := fun z => ⟨cmX8_levelWith z, bw_899, bw_900, bw_901⟩
theorem bw_927 : (Jvm.Cond.methodLink "HumUnheard$Town" (193 : Nat) ({ cls := "HumUnheard$Town", name := "levelAt", desc := "(II)I" } : Jvm.MethodName) : Cond) ∈ BW := bw 927 (by decide +kernel) rfl
theorem gX9_193 : ∀ z, xCv (Cf z) RX9 193 MX9_levelAt 2 := fun z => ⟨cmX9_levelAt z, bw_927, bw_889, bw_890⟩
theorem bw_931 : (Jvm.Cond.code ({ cls := "HumUnheard$Town", name := "isForEars", desc := "(III)Z" } : Jvm.MethodName) prog_11_method_19_code (5 : Nat) (Option.some Jvm.ClassFile.FieldType.boolean) : Cond) ∈ BW := bw 931 (by decide +kernel) rfl
theorem cmX9_isForEars : ∀ z, xCm (Cf z) MX9_isForEars 3 := fun z => ⟨bw_82, bw_931, by decide +kernel, by decide, by decide +kernel⟩
theorem bw_928 : (Jvm.Cond.methodLink "HumUnheard$Town" (196 : Nat) ({ cls := "HumUnheard$Town", name := "isForEars", desc := "(III)Z" } : Jvm.MethodName) : Cond) ∈ BW := bw 928 (by decide +kernel) rfl
theorem bw_930 : (Jvm.Cond.instanceMethod ({ cls := "HumUnheard$Town", name := "isForEars", desc := "(III)Z" } : Jvm.MethodName) : Cond) ∈ BW := bw 930 (by decide +kernel) rfl
theorem bw_19 : Cond.selects "HumUnheard$Town" ⟨"HumUnheard$Town", "isForEars", "(III)Z"⟩ ⟨"HumUnheard$Town", "isForEars", "(III)Z"⟩ ∈ BW := bw 19 (by decide +kernel) rfl
theorem gX9_196 : ∀ z, xCv (Cf z) RX9 196 MX9_isForEars 3 := fun z => ⟨cmX9_isForEars z, bw_928, bw_930, bw_19⟩
theorem bw_932 : (Jvm.Cond.methodLink "HumUnheard$Town" (203 : Nat) ({ cls := "HumUnheard$Person", name := "needFor", desc := "(I)I" } : Jvm.MethodName) : Cond) ∈ BW := bw 932 (by decide +kernel) rfl
theorem gX9_203 : ∀ z, xCv (Cf z) RX9 203 MX3_needFor 1 := fun z => ⟨cmX3_needFor z, bw_932, bw_911, bw_912⟩
theorem bw_923 : (Jvm.Cond.methodLink "HumUnheard$Town" (206 : Nat) ({ cls := "HumUnheard$Town", name := "audibleTo", desc := "(II)I" } : Jvm.MethodName) : Cond) ∈ BW := bw 923 (by decide +kernel) rfl
theorem gX9_206 : ∀ z, xCv (Cf z) RX9 206 MX9_audibleTo 2 := fun z => ⟨cmX9_audibleTo z, bw_923, bw_924, bw_925⟩
theorem bw_942 : (Jvm.Cond.methodLink "HumUnheard$Town" (209 : Nat) ({ cls := "HumUnheard$Town", name := "heardBy", desc := "(II)I" } : Jvm.MethodName) : Cond) ∈ BW := bw 942 (by decide +kernel) rfl
theorem gX9_209 : ∀ z, xCv (Cf z) RX9 209 MX9_heardBy 2 := fun z => ⟨cmX9_heardBy z, bw_942, bw_920, bw_921⟩
theorem bw_187 : (Jvm.Cond.instantiable "HumUnheard$Person" (5 : Nat) : Cond) ∈ BW := bw 187 (by decide +kernel) rfl
theorem nX9_30 : ∀ z, Cond.classLink RX9 30 RX3 ∈ (Cf z).1 ∧ Cond.instantiable RX3 5 ∈ (Cf z).1 ∧ Cond.initialized RX3 ∈ (Cf z).1 := fun z => ⟨bw_121, bw_187, bw_85⟩
theorem bw_212 : (Jvm.Cond.instantiable "HumUnheard$Source" (8 : Nat) : Cond) ∈ BW := bw 212 (by decide +kernel) rfl
theorem nX9_36 : ∀ z, Cond.classLink RX9 36 RX8 ∈ (Cf z).1 ∧ Cond.instantiable RX8 8 ∈ (Cf z).1 ∧ Cond.initialized RX8 ∈ (Cf z).1 := fun z => ⟨bw_123, bw_212, bw_86⟩
theorem nX9_42 : ∀ z, Cond.classLink RX9 42 RX4 ∈ (Cf z).1 ∧ Cond.instantiable RX4 6 ∈ (Cf z).1 ∧ Cond.initialized RX4 ∈ (Cf z).1 := fun z => ⟨bw_125, bw_253, bw_87⟩
theorem bw_127 : (Jvm.Cond.classLink "HumUnheard$Town" (48 : Nat) "HumUnheard$Diary" : Cond) ∈ BW := bw 127 (by decide +kernel) rfl
theorem bw_128 : (Jvm.Cond.instantiable "HumUnheard$Diary" (7 : Nat) : Cond) ∈ BW := bw 128 (by decide +kernel) rfl
theorem nX9_48 : ∀ z, Cond.classLink RX9 48 RX1 ∈ (Cf z).1 ∧ Cond.instantiable RX1 7 ∈ (Cf z).1 ∧ Cond.initialized RX1 ∈ (Cf z).1 := fun z => ⟨bw_127, bw_128, bw_83⟩
theorem bw_163 : (Jvm.Cond.classLink "HumUnheard$Town" (55 : Nat) "HumUnheard$Letters" : Cond) ∈ BW := bw 163 (by decide +kernel) rfl
theorem bw_164 : (Jvm.Cond.instantiable "HumUnheard$Letters" (4 : Nat) : Cond) ∈ BW := bw 164 (by decide +kernel) rfl
theorem nX9_55 : ∀ z, Cond.classLink RX9 55 RX2 ∈ (Cf z).1 ∧ Cond.instantiable RX2 4 ∈ (Cf z).1 ∧ Cond.initialized RX2 ∈ (Cf z).1 := fun z => ⟨bw_163, bw_164, bw_84⟩
theorem pX9_9 : ∀ z, xFp (Cf z) RX9 9 9 0 (.int) := fun z => ⟨(RX9, TX9, 14), rfl, by decide, bw_283, rfl, by decide +kernel⟩
theorem pX9_15 : ∀ z, xFp (Cf z) RX9 15 9 1 (.int) := fun z => ⟨(RX9, TX9, 14), rfl, by decide, bw_285, rfl, by decide +kernel⟩
theorem pX9_18 : ∀ z, xFp (Cf z) RX9 18 9 2 (.int) := fun z => ⟨(RX9, TX9, 14), rfl, by decide, bw_288, rfl, by decide +kernel⟩
theorem pX9_21 : ∀ z, xFp (Cf z) RX9 21 9 3 (.int) := fun z => ⟨(RX9, TX9, 14), rfl, by decide, bw_291, rfl, by decide +kernel⟩
theorem pX9_24 : ∀ z, xFp (Cf z) RX9 24 9 4 (.int) := fun z => ⟨(RX9, TX9, 14), rfl, by decide, bw_293, rfl, by decide +kernel⟩
theorem pX9_27 : ∀ z, xFp (Cf z) RX9 27 9 5 (.int) := fun z => ⟨(RX9, TX9, 14), rfl, by decide, bw_295, rfl, by decide +kernel⟩
theorem pX9_32 : ∀ z, xFf (Cf z) RX9 32 9 6 (.array (.object "HumUnheard$Person")) := fun z => ⟨(RX9, TX9, 14), rfl, by decide, bw_297, rfl, rfl, by decide +kernel⟩
theorem pX9_38 : ∀ z, xFf (Cf z) RX9 38 9 7 (.array (.object "HumUnheard$Source")) := fun z => ⟨(RX9, TX9, 14), rfl, by decide, bw_300, rfl, rfl, by decide +kernel⟩
theorem pX9_44 : ∀ z, xFf (Cf z) RX9 44 9 8 (.array (.object "HumUnheard$Plan")) := fun z => ⟨(RX9, TX9, 14), rfl, by decide, bw_303, rfl, rfl, by decide +kernel⟩
theorem pX9_51 : ∀ z, xFf (Cf z) RX9 51 9 9 (.object "HumUnheard$Diary") := fun z => ⟨(RX9, TX9, 14), rfl, by decide, bw_304, rfl, rfl, by decide +kernel⟩
theorem pX9_58 : ∀ z, xFf (Cf z) RX9 58 9 10 (.object "HumUnheard$Letters") := fun z => ⟨(RX9, TX9, 14), rfl, by decide, bw_307, rfl, rfl, by decide +kernel⟩
theorem pX9_62 : ∀ z, xFf (Cf z) RX9 62 9 11 (.array .int) := fun z => ⟨(RX9, TX9, 14), rfl, by decide, bw_309, rfl, rfl, by decide +kernel⟩
theorem pX9_66 : ∀ z, xFf (Cf z) RX9 66 9 12 (.array .int) := fun z => ⟨(RX9, TX9, 14), rfl, by decide, bw_311, rfl, rfl, by decide +kernel⟩
theorem pX9_69 : ∀ z, xFf (Cf z) RX9 69 9 13 (.array .int) := fun z => ⟨(RX9, TX9, 14), rfl, by decide, bw_313, rfl, rfl, by decide +kernel⟩
theorem pX9_118 : ∀ z, xFp (Cf z) RX9 118 8 7 (.int) := fun z => ⟨(RX8, TX8, 8), rfl, by decide, bw_235, rfl, by decide +kernel⟩
theorem bw_103 : (Jvm.Cond.code ({ cls := "HumUnheard", name := "<init>", desc := "()V" } : Jvm.MethodName) prog_1_method_1_code (2 : Nat) (Option.none : Option Jvm.ClassFile.FieldType) : Cond) ∈ BW := bw 103 (by decide +kernel) rfl
theorem cmX10_init : ∀ z, xCm (Cf z) MX10_init 0 := fun z => ⟨bw_80, bw_103, by decide +kernel, by decide, by decide +kernel⟩
theorem bw_101 : (Jvm.Cond.methodLink "HumUnheardLaw" (9 : Nat) ({ cls := "HumUnheard", name := "<init>", desc := "()V" } : Jvm.MethodName) : Cond) ∈ BW := bw 101 (by decide +kernel) rfl
theorem bw_102 : (Jvm.Cond.instanceMethod ({ cls := "HumUnheard", name := "<init>", desc := "()V" } : Jvm.MethodName) : Cond) ∈ BW := bw 102 (by decide +kernel) rfl
theorem gL_9 : ∀ z, xCi (Cf z) RL 9 MX10_init 0 ∨ ∃ h, xCiN (Cf z) RL 9 MX10_init 0 h := fun z => Or.inl ⟨cmX10_init z, bw_101, bw_102, rfl, rfl⟩
theorem bw_92 : (Jvm.Cond.initialized "HumUnheardModel" : Cond) ∈ BW := bw 92 (by decide +kernel) rfl
theorem bw_1242 : (Jvm.Cond.code ({ cls := "HumUnheardModel", name := "<init>", desc := "()V" } : Jvm.MethodName) prog_13_method_1_code (1 : Nat) (Option.none : Option Jvm.ClassFile.FieldType) : Cond) ∈ BW := bw 1242 (by decide +kernel) rfl
theorem cmX11_init : ∀ z, xCm (Cf z) MX11_init 0 := fun z => ⟨bw_92, bw_1242, by decide +kernel, by decide, by decide +kernel⟩
theorem bw_1240 : (Jvm.Cond.methodLink "HumUnheardLaw" (12 : Nat) ({ cls := "HumUnheardModel", name := "<init>", desc := "()V" } : Jvm.MethodName) : Cond) ∈ BW := bw 1240 (by decide +kernel) rfl
theorem bw_1241 : (Jvm.Cond.instanceMethod ({ cls := "HumUnheardModel", name := "<init>", desc := "()V" } : Jvm.MethodName) : Cond) ∈ BW := bw 1241 (by decide +kernel) rfl
theorem gL_12 : ∀ z, xCi (Cf z) RL 12 MX11_init 0 ∨ ∃ h, xCiN (Cf z) RL 12 MX11_init 0 h := fun z => Or.inl ⟨cmX11_init z, bw_1240, bw_1241, rfl, rfl⟩
theorem bw_478 : (Jvm.Cond.code ({ cls := "HumUnheard", name := "row", desc := "(III)I" } : Jvm.MethodName) prog_1_method_2_code (4 : Nat) (Option.some Jvm.ClassFile.FieldType.int) : Cond) ∈ BW := bw 478 (by decide +kernel) rfl
theorem cmX10_row : ∀ z, xCm (Cf z) MX10_row 3 := fun z => ⟨bw_80, bw_478, by decide +kernel, by decide, by decide +kernel⟩
theorem bw_475 : (Jvm.Cond.methodLink "HumUnheardLaw" (13 : Nat) ({ cls := "HumUnheard", name := "row", desc := "(III)I" } : Jvm.MethodName) : Cond) ∈ BW := bw 475 (by decide +kernel) rfl
theorem bw_476 : (Jvm.Cond.instanceMethod ({ cls := "HumUnheard", name := "row", desc := "(III)I" } : Jvm.MethodName) : Cond) ∈ BW := bw 476 (by decide +kernel) rfl
theorem bw_477 : (Jvm.Cond.selects "HumUnheard" ({ cls := "HumUnheard", name := "row", desc := "(III)I" } : Jvm.MethodName) ({ cls := "HumUnheard", name := "row", desc := "(III)I" } : Jvm.MethodName) : Cond) ∈ BW := bw 477 (by decide +kernel) rfl
theorem gL_13 : ∀ z, xCv (Cf z) RL 13 MX10_row 3 := fun z => ⟨cmX10_row z, bw_475, bw_476, bw_477⟩
theorem bw_1479 : (Jvm.Cond.code ({ cls := "HumUnheardModel", name := "row", desc := "(III)I" } : Jvm.MethodName) prog_13_method_12_code (5 : Nat) (Option.some Jvm.ClassFile.FieldType.int) : Cond) ∈ BW := bw 1479 (by decide +kernel) rfl
theorem cmX11_row : ∀ z, xCm (Cf z) MX11_row 3 := fun z => ⟨bw_92, bw_1479, by decide +kernel, by decide, by decide +kernel⟩
theorem bw_1476 : (Jvm.Cond.methodLink "HumUnheardLaw" (17 : Nat) ({ cls := "HumUnheardModel", name := "row", desc := "(III)I" } : Jvm.MethodName) : Cond) ∈ BW := bw 1476 (by decide +kernel) rfl
theorem bw_1477 : (Jvm.Cond.instanceMethod ({ cls := "HumUnheardModel", name := "row", desc := "(III)I" } : Jvm.MethodName) : Cond) ∈ BW := bw 1477 (by decide +kernel) rfl
theorem bw_1478 : (Jvm.Cond.selects "HumUnheardModel" ({ cls := "HumUnheardModel", name := "row", desc := "(III)I" } : Jvm.MethodName) ({ cls := "HumUnheardModel", name := "row", desc := "(III)I" } : Jvm.MethodName) : Cond) ∈ BW := bw 1478 (by decide +kernel) rfl
theorem gL_17 : ∀ z, xCv (Cf z) RL 17 MX11_row 3 := fun z => ⟨cmX11_row z, bw_1476, bw_1477, bw_1478⟩
theorem bw_496 : (Jvm.Cond.code ({ cls := "HumUnheard", name := "set", desc := "(IIJ)I" } : Jvm.MethodName) prog_1_method_3_code (6 : Nat) (Option.some Jvm.ClassFile.FieldType.int) : Cond) ∈ BW := bw 496 (by decide +kernel) rfl
theorem cmX10_set : ∀ z, xCm (Cf z) MX10_set 3 := fun z => ⟨bw_80, bw_496, by decide +kernel, by decide, by decide +kernel⟩
theorem bw_493 : (Jvm.Cond.methodLink "HumUnheardLaw" (20 : Nat) ({ cls := "HumUnheard", name := "set", desc := "(IIJ)I" } : Jvm.MethodName) : Cond) ∈ BW := bw 493 (by decide +kernel) rfl
theorem bw_494 : (Jvm.Cond.instanceMethod ({ cls := "HumUnheard", name := "set", desc := "(IIJ)I" } : Jvm.MethodName) : Cond) ∈ BW := bw 494 (by decide +kernel) rfl
theorem bw_495 : (Jvm.Cond.selects "HumUnheard" ({ cls := "HumUnheard", name := "set", desc := "(IIJ)I" } : Jvm.MethodName) ({ cls := "HumUnheard", name := "set", desc := "(IIJ)I" } : Jvm.MethodName) : Cond) ∈ BW := bw 495 (by decide +kernel) rfl
theorem gL_20 : ∀ z, xCv (Cf z) RL 20 MX10_set 3 := fun z => ⟨cmX10_set z, bw_493, bw_494, bw_495⟩
theorem bw_1491 : (Jvm.Cond.code ({ cls := "HumUnheardModel", name := "set", desc := "(IIJ)I" } : Jvm.MethodName) prog_13_method_13_code (5 : Nat) (Option.some Jvm.ClassFile.FieldType.int) : Cond) ∈ BW := bw 1491 (by decide +kernel) rfl
theorem cmX11_set : ∀ z, xCm (Cf z) MX11_set 3 := fun z => ⟨bw_92, bw_1491, by decide +kernel, by decide, by decide +kernel⟩
theorem bw_1488 : (Jvm.Cond.methodLink "HumUnheardLaw" (24 : Nat) ({ cls := "HumUnheardModel", name := "set", desc := "(IIJ)I" } : Jvm.MethodName) : Cond) ∈ BW := bw 1488 (by decide +kernel) rfl
theorem bw_1489 : (Jvm.Cond.instanceMethod ({ cls := "HumUnheardModel", name := "set", desc := "(IIJ)I" } : Jvm.MethodName) : Cond) ∈ BW := bw 1489 (by decide +kernel) rfl
theorem bw_1490 : (Jvm.Cond.selects "HumUnheardModel" ({ cls := "HumUnheardModel", name := "set", desc := "(IIJ)I" } : Jvm.MethodName) ({ cls := "HumUnheardModel", name := "set", desc := "(IIJ)I" } : Jvm.MethodName) : Cond) ∈ BW := bw 1490 (by decide +kernel) rfl
theorem gL_24 : ∀ z, xCv (Cf z) RL 24 MX11_set 3 := fun z => ⟨cmX11_set z, bw_1488, bw_1489, bw_1490⟩
theorem bw_530 : (Jvm.Cond.code ({ cls := "HumUnheard", name := "copy", desc := "(IIIII)I" } : Jvm.MethodName) prog_1_method_4_code (8 : Nat) (Option.some Jvm.ClassFile.FieldType.int) : Cond) ∈ BW := bw 530 (by decide +kernel) rfl
theorem cmX10_copy : ∀ z, xCm (Cf z) MX10_copy 5 := fun z => ⟨bw_80, bw_530, by decide +kernel, by decide, by decide +kernel⟩
theorem bw_527 : (Jvm.Cond.methodLink "HumUnheardLaw" (25 : Nat) ({ cls := "HumUnheard", name := "copy", desc := "(IIIII)I" } : Jvm.MethodName) : Cond) ∈ BW := bw 527 (by decide +kernel) rfl
theorem bw_528 : (Jvm.Cond.instanceMethod ({ cls := "HumUnheard", name := "copy", desc := "(IIIII)I" } : Jvm.MethodName) : Cond) ∈ BW := bw 528 (by decide +kernel) rfl
theorem bw_529 : (Jvm.Cond.selects "HumUnheard" ({ cls := "HumUnheard", name := "copy", desc := "(IIIII)I" } : Jvm.MethodName) ({ cls := "HumUnheard", name := "copy", desc := "(IIIII)I" } : Jvm.MethodName) : Cond) ∈ BW := bw 529 (by decide +kernel) rfl
theorem gL_25 : ∀ z, xCv (Cf z) RL 25 MX10_copy 5 := fun z => ⟨cmX10_copy z, bw_527, bw_528, bw_529⟩
theorem bw_1495 : (Jvm.Cond.code ({ cls := "HumUnheardModel", name := "copy", desc := "(IIIII)I" } : Jvm.MethodName) prog_13_method_14_code (7 : Nat) (Option.some Jvm.ClassFile.FieldType.int) : Cond) ∈ BW := bw 1495 (by decide +kernel) rfl
theorem cmX11_copy : ∀ z, xCm (Cf z) MX11_copy 5 := fun z => ⟨bw_92, bw_1495, by decide +kernel, by decide, by decide +kernel⟩
theorem bw_1492 : (Jvm.Cond.methodLink "HumUnheardLaw" (29 : Nat) ({ cls := "HumUnheardModel", name := "copy", desc := "(IIIII)I" } : Jvm.MethodName) : Cond) ∈ BW := bw 1492 (by decide +kernel) rfl
theorem bw_1493 : (Jvm.Cond.instanceMethod ({ cls := "HumUnheardModel", name := "copy", desc := "(IIIII)I" } : Jvm.MethodName) : Cond) ∈ BW := bw 1493 (by decide +kernel) rfl
theorem bw_1494 : (Jvm.Cond.selects "HumUnheardModel" ({ cls := "HumUnheardModel", name := "copy", desc := "(IIIII)I" } : Jvm.MethodName) ({ cls := "HumUnheardModel", name := "copy", desc := "(IIIII)I" } : Jvm.MethodName) : Cond) ∈ BW := bw 1494 (by decide +kernel) rfl
theorem gL_29 : ∀ z, xCv (Cf z) RL 29 MX11_copy 5 := fun z => ⟨cmX11_copy z, bw_1492, bw_1493, bw_1494⟩
theorem bw_548 : (Jvm.Cond.code ({ cls := "HumUnheard", name := "element", desc := "(II)J" } : Jvm.MethodName) prog_1_method_5_code (3 : Nat) (Option.some Jvm.ClassFile.FieldType.long) : Cond) ∈ BW := bw 548 (by decide +kernel) rfl
theorem cmX10_element : ∀ z, xCm (Cf z) MX10_element 2 := fun z => ⟨bw_80, bw_548, by decide +kernel, by decide, by decide +kernel⟩
theorem bw_545 : (Jvm.Cond.methodLink "HumUnheardLaw" (30 : Nat) ({ cls := "HumUnheard", name := "element", desc := "(II)J" } : Jvm.MethodName) : Cond) ∈ BW := bw 545 (by decide +kernel) rfl
theorem bw_546 : (Jvm.Cond.instanceMethod ({ cls := "HumUnheard", name := "element", desc := "(II)J" } : Jvm.MethodName) : Cond) ∈ BW := bw 546 (by decide +kernel) rfl
theorem bw_547 : (Jvm.Cond.selects "HumUnheard" ({ cls := "HumUnheard", name := "element", desc := "(II)J" } : Jvm.MethodName) ({ cls := "HumUnheard", name := "element", desc := "(II)J" } : Jvm.MethodName) : Cond) ∈ BW := bw 547 (by decide +kernel) rfl
theorem gL_30 : ∀ z, xCv (Cf z) RL 30 MX10_element 2 := fun z => ⟨cmX10_element z, bw_545, bw_546, bw_547⟩
theorem bw_1499 : (Jvm.Cond.code ({ cls := "HumUnheardModel", name := "element", desc := "(II)J" } : Jvm.MethodName) prog_13_method_15_code (3 : Nat) (Option.some Jvm.ClassFile.FieldType.long) : Cond) ∈ BW := bw 1499 (by decide +kernel) rfl
theorem cmX11_element : ∀ z, xCm (Cf z) MX11_element 2 := fun z => ⟨bw_92, bw_1499, by decide +kernel, by decide, by decide +kernel⟩
theorem bw_1496 : (Jvm.Cond.methodLink "HumUnheardLaw" (34 : Nat) ({ cls := "HumUnheardModel", name := "element", desc := "(II)J" } : Jvm.MethodName) : Cond) ∈ BW := bw 1496 (by decide +kernel) rfl
theorem bw_1497 : (Jvm.Cond.instanceMethod ({ cls := "HumUnheardModel", name := "element", desc := "(II)J" } : Jvm.MethodName) : Cond) ∈ BW := bw 1497 (by decide +kernel) rfl
theorem bw_1498 : (Jvm.Cond.selects "HumUnheardModel" ({ cls := "HumUnheardModel", name := "element", desc := "(II)J" } : Jvm.MethodName) ({ cls := "HumUnheardModel", name := "element", desc := "(II)J" } : Jvm.MethodName) : Cond) ∈ BW := bw 1498 (by decide +kernel) rfl
theorem gL_34 : ∀ z, xCv (Cf z) RL 34 MX11_element 2 := fun z => ⟨cmX11_element z, bw_1496, bw_1497, bw_1498⟩
theorem bw_556 : (Jvm.Cond.code ({ cls := "HumUnheard", name := "show", desc := "(II)I" } : Jvm.MethodName) prog_1_method_6_code (3 : Nat) (Option.some Jvm.ClassFile.FieldType.int) : Cond) ∈ BW := bw 556 (by decide +kernel) rfl
theorem cmX10_show : ∀ z, xCm (Cf z) MX10_show 2 := fun z => ⟨bw_80, bw_556, by decide +kernel, by decide, by decide +kernel⟩
theorem bw_553 : (Jvm.Cond.methodLink "HumUnheardLaw" (35 : Nat) ({ cls := "HumUnheard", name := "show", desc := "(II)I" } : Jvm.MethodName) : Cond) ∈ BW := bw 553 (by decide +kernel) rfl
theorem bw_554 : (Jvm.Cond.instanceMethod ({ cls := "HumUnheard", name := "show", desc := "(II)I" } : Jvm.MethodName) : Cond) ∈ BW := bw 554 (by decide +kernel) rfl
theorem bw_555 : (Jvm.Cond.selects "HumUnheard" ({ cls := "HumUnheard", name := "show", desc := "(II)I" } : Jvm.MethodName) ({ cls := "HumUnheard", name := "show", desc := "(II)I" } : Jvm.MethodName) : Cond) ∈ BW := bw 555 (by decide +kernel) rfl
theorem gL_35 : ∀ z, xCv (Cf z) RL 35 MX10_show 2 := fun z => ⟨cmX10_show z, bw_553, bw_554, bw_555⟩
theorem bw_1503 : (Jvm.Cond.code ({ cls := "HumUnheardModel", name := "show", desc := "(II)I" } : Jvm.MethodName) prog_13_method_16_code (3 : Nat) (Option.some Jvm.ClassFile.FieldType.int) : Cond) ∈ BW := bw 1503 (by decide +kernel) rfl
theorem cmX11_show : ∀ z, xCm (Cf z) MX11_show 2 := fun z => ⟨bw_92, bw_1503, by decide +kernel, by decide, by decide +kernel⟩
theorem bw_1500 : (Jvm.Cond.methodLink "HumUnheardLaw" (39 : Nat) ({ cls := "HumUnheardModel", name := "show", desc := "(II)I" } : Jvm.MethodName) : Cond) ∈ BW := bw 1500 (by decide +kernel) rfl
theorem bw_1501 : (Jvm.Cond.instanceMethod ({ cls := "HumUnheardModel", name := "show", desc := "(II)I" } : Jvm.MethodName) : Cond) ∈ BW := bw 1501 (by decide +kernel) rfl
theorem bw_1502 : (Jvm.Cond.selects "HumUnheardModel" ({ cls := "HumUnheardModel", name := "show", desc := "(II)I" } : Jvm.MethodName) ({ cls := "HumUnheardModel", name := "show", desc := "(II)I" } : Jvm.MethodName) : Cond) ∈ BW := bw 1502 (by decide +kernel) rfl
theorem gL_39 : ∀ z, xCv (Cf z) RL 39 MX11_show 2 := fun z => ⟨cmX11_show z, bw_1500, bw_1501, bw_1502⟩
theorem bw_572 : (Jvm.Cond.code ({ cls := "HumUnheard", name := "holds", desc := "(I)I" } : Jvm.MethodName) prog_1_method_7_code (2 : Nat) (Option.some Jvm.ClassFile.FieldType.int) : Cond) ∈ BW := bw 572 (by decide +kernel) rfl
theorem cmX10_holds : ∀ z, xCm (Cf z) MX10_holds 1 := fun z => ⟨bw_80, bw_572, by decide +kernel, by decide, by decide +kernel⟩
theorem bw_569 : (Jvm.Cond.methodLink "HumUnheardLaw" (40 : Nat) ({ cls := "HumUnheard", name := "holds", desc := "(I)I" } : Jvm.MethodName) : Cond) ∈ BW := bw 569 (by decide +kernel) rfl
theorem bw_570 : (Jvm.Cond.instanceMethod ({ cls := "HumUnheard", name := "holds", desc := "(I)I" } : Jvm.MethodName) : Cond) ∈ BW := bw 570 (by decide +kernel) rfl
theorem bw_571 : (Jvm.Cond.selects "HumUnheard" ({ cls := "HumUnheard", name := "holds", desc := "(I)I" } : Jvm.MethodName) ({ cls := "HumUnheard", name := "holds", desc := "(I)I" } : Jvm.MethodName) : Cond) ∈ BW := bw 571 (by decide +kernel) rfl
theorem gL_40 : ∀ z, xCv (Cf z) RL 40 MX10_holds 1 := fun z => ⟨cmX10_holds z, bw_569, bw_570, bw_571⟩
theorem bw_1511 : (Jvm.Cond.code ({ cls := "HumUnheardModel", name := "holds", desc := "(I)I" } : Jvm.MethodName) prog_13_method_17_code (2 : Nat) (Option.some Jvm.ClassFile.FieldType.int) : Cond) ∈ BW := bw 1511 (by decide +kernel) rfl
theorem cmX11_holds : ∀ z, xCm (Cf z) MX11_holds 1 := fun z => ⟨bw_92, bw_1511, by decide +kernel, by decide, by decide +kernel⟩
theorem bw_1508 : (Jvm.Cond.methodLink "HumUnheardLaw" (44 : Nat) ({ cls := "HumUnheardModel", name := "holds", desc := "(I)I" } : Jvm.MethodName) : Cond) ∈ BW := bw 1508 (by decide +kernel) rfl
theorem bw_1509 : (Jvm.Cond.instanceMethod ({ cls := "HumUnheardModel", name := "holds", desc := "(I)I" } : Jvm.MethodName) : Cond) ∈ BW := bw 1509 (by decide +kernel) rfl
theorem bw_1510 : (Jvm.Cond.selects "HumUnheardModel" ({ cls := "HumUnheardModel", name := "holds", desc := "(I)I" } : Jvm.MethodName) ({ cls := "HumUnheardModel", name := "holds", desc := "(I)I" } : Jvm.MethodName) : Cond) ∈ BW := bw 1510 (by decide +kernel) rfl
theorem gL_44 : ∀ z, xCv (Cf z) RL 44 MX11_holds 1 := fun z => ⟨cmX11_holds z, bw_1508, bw_1509, bw_1510⟩
theorem bw_580 : (Jvm.Cond.code ({ cls := "HumUnheard", name := "says", desc := "(II)I" } : Jvm.MethodName) prog_1_method_8_code (5 : Nat) (Option.some Jvm.ClassFile.FieldType.int) : Cond) ∈ BW := bw 580 (by decide +kernel) rfl
theorem cmX10_says : ∀ z, xCm (Cf z) MX10_says 2 := fun z => ⟨bw_80, bw_580, by decide +kernel, by decide, by decide +kernel⟩
theorem bw_577 : (Jvm.Cond.methodLink "HumUnheardLaw" (45 : Nat) ({ cls := "HumUnheard", name := "says", desc := "(II)I" } : Jvm.MethodName) : Cond) ∈ BW := bw 577 (by decide +kernel) rfl
theorem bw_578 : (Jvm.Cond.instanceMethod ({ cls := "HumUnheard", name := "says", desc := "(II)I" } : Jvm.MethodName) : Cond) ∈ BW := bw 578 (by decide +kernel) rfl
theorem bw_579 : (Jvm.Cond.selects "HumUnheard" ({ cls := "HumUnheard", name := "says", desc := "(II)I" } : Jvm.MethodName) ({ cls := "HumUnheard", name := "says", desc := "(II)I" } : Jvm.MethodName) : Cond) ∈ BW := bw 579 (by decide +kernel) rfl
theorem gL_45 : ∀ z, xCv (Cf z) RL 45 MX10_says 2 := fun z => ⟨cmX10_says z, bw_577, bw_578, bw_579⟩
theorem bw_1515 : (Jvm.Cond.code ({ cls := "HumUnheardModel", name := "says", desc := "(II)I" } : Jvm.MethodName) prog_13_method_18_code (6 : Nat) (Option.some Jvm.ClassFile.FieldType.int) : Cond) ∈ BW := bw 1515 (by decide +kernel) rfl
theorem cmX11_says : ∀ z, xCm (Cf z) MX11_says 2 := fun z => ⟨bw_92, bw_1515, by decide +kernel, by decide, by decide +kernel⟩
theorem bw_1512 : (Jvm.Cond.methodLink "HumUnheardLaw" (48 : Nat) ({ cls := "HumUnheardModel", name := "says", desc := "(II)I" } : Jvm.MethodName) : Cond) ∈ BW := bw 1512 (by decide +kernel) rfl
theorem bw_1513 : (Jvm.Cond.instanceMethod ({ cls := "HumUnheardModel", name := "says", desc := "(II)I" } : Jvm.MethodName) : Cond) ∈ BW := bw 1513 (by decide +kernel) rfl
theorem bw_1514 : (Jvm.Cond.selects "HumUnheardModel" ({ cls := "HumUnheardModel", name := "says", desc := "(II)I" } : Jvm.MethodName) ({ cls := "HumUnheardModel", name := "says", desc := "(II)I" } : Jvm.MethodName) : Cond) ∈ BW := bw 1514 (by decide +kernel) rfl
theorem gL_48 : ∀ z, xCv (Cf z) RL 48 MX11_says 2 := fun z => ⟨cmX11_says z, bw_1512, bw_1513, bw_1514⟩
theorem bw_605 : (Jvm.Cond.code ({ cls := "HumUnheard", name := "person", desc := "(IIIIZ)I" } : Jvm.MethodName) prog_1_method_9_code (6 : Nat) (Option.some Jvm.ClassFile.FieldType.int) : Cond) ∈ BW := bw 605 (by decide +kernel) rfl
theorem cmX10_person : ∀ z, xCm (Cf z) MX10_person 5 := fun z => ⟨bw_80, bw_605, by decide +kernel, by decide, by decide +kernel⟩
theorem bw_602 : (Jvm.Cond.methodLink "HumUnheardLaw" (49 : Nat) ({ cls := "HumUnheard", name := "person", desc := "(IIIIZ)I" } : Jvm.MethodName) : Cond) ∈ BW := bw 602 (by decide +kernel) rfl
theorem bw_603 : (Jvm.Cond.instanceMethod ({ cls := "HumUnheard", name := "person", desc := "(IIIIZ)I" } : Jvm.MethodName) : Cond) ∈ BW := bw 603 (by decide +kernel) rfl
theorem bw_604 : (Jvm.Cond.selects "HumUnheard" ({ cls := "HumUnheard", name := "person", desc := "(IIIIZ)I" } : Jvm.MethodName) ({ cls := "HumUnheard", name := "person", desc := "(IIIIZ)I" } : Jvm.MethodName) : Cond) ∈ BW := bw 604 (by decide +kernel) rfl
theorem gL_49 : ∀ z, xCv (Cf z) RL 49 MX10_person 5 := fun z => ⟨cmX10_person z, bw_602, bw_603, bw_604⟩
theorem bw_1519 : (Jvm.Cond.code ({ cls := "HumUnheardModel", name := "person", desc := "(IIIIZ)I" } : Jvm.MethodName) prog_13_method_21_code (6 : Nat) (Option.some Jvm.ClassFile.FieldType.int) : Cond) ∈ BW := bw 1519 (by decide +kernel) rfl
theorem cmX11_person : ∀ z, xCm (Cf z) MX11_person 5 := fun z => ⟨bw_92, bw_1519, by decide +kernel, by decide, by decide +kernel⟩
theorem bw_1516 : (Jvm.Cond.methodLink "HumUnheardLaw" (53 : Nat) ({ cls := "HumUnheardModel", name := "person", desc := "(IIIIZ)I" } : Jvm.MethodName) : Cond) ∈ BW := bw 1516 (by decide +kernel) rfl
theorem bw_1517 : (Jvm.Cond.instanceMethod ({ cls := "HumUnheardModel", name := "person", desc := "(IIIIZ)I" } : Jvm.MethodName) : Cond) ∈ BW := bw 1517 (by decide +kernel) rfl
theorem bw_1518 : (Jvm.Cond.selects "HumUnheardModel" ({ cls := "HumUnheardModel", name := "person", desc := "(IIIIZ)I" } : Jvm.MethodName) ({ cls := "HumUnheardModel", name := "person", desc := "(IIIIZ)I" } : Jvm.MethodName) : Cond) ∈ BW := bw 1518 (by decide +kernel) rfl
theorem gL_53 : ∀ z, xCv (Cf z) RL 53 MX11_person 5 := fun z => ⟨cmX11_person z, bw_1516, bw_1517, bw_1518⟩
theorem bw_623 : (Jvm.Cond.code ({ cls := "HumUnheard", name := "go", desc := "(II)I" } : Jvm.MethodName) prog_1_method_10_code (4 : Nat) (Option.some Jvm.ClassFile.FieldType.int) : Cond) ∈ BW := bw 623 (by decide +kernel) rfl
theorem cmX10_go : ∀ z, xCm (Cf z) MX10_go 2 := fun z => ⟨bw_80, bw_623, by decide +kernel, by decide, by decide +kernel⟩
theorem bw_620 : (Jvm.Cond.methodLink "HumUnheardLaw" (54 : Nat) ({ cls := "HumUnheard", name := "go", desc := "(II)I" } : Jvm.MethodName) : Cond) ∈ BW := bw 620 (by decide +kernel) rfl
theorem bw_621 : (Jvm.Cond.instanceMethod ({ cls := "HumUnheard", name := "go", desc := "(II)I" } : Jvm.MethodName) : Cond) ∈ BW := bw 621 (by decide +kernel) rfl
theorem bw_622 : (Jvm.Cond.selects "HumUnheard" ({ cls := "HumUnheard", name := "go", desc := "(II)I" } : Jvm.MethodName) ({ cls := "HumUnheard", name := "go", desc := "(II)I" } : Jvm.MethodName) : Cond) ∈ BW := bw 622 (by decide +kernel) rfl
theorem gL_54 : ∀ z, xCv (Cf z) RL 54 MX10_go 2 := fun z => ⟨cmX10_go z, bw_620, bw_621, bw_622⟩
theorem bw_1531 : (Jvm.Cond.code ({ cls := "HumUnheardModel", name := "go", desc := "(II)I" } : Jvm.MethodName) prog_13_method_22_code (4 : Nat) (Option.some Jvm.ClassFile.FieldType.int) : Cond) ∈ BW := bw 1531 (by decide +kernel) rfl
theorem cmX11_go : ∀ z, xCm (Cf z) MX11_go 2 := fun z => ⟨bw_92, bw_1531, by decide +kernel, by decide, by decide +kernel⟩
theorem bw_1528 : (Jvm.Cond.methodLink "HumUnheardLaw" (57 : Nat) ({ cls := "HumUnheardModel", name := "go", desc := "(II)I" } : Jvm.MethodName) : Cond) ∈ BW := bw 1528 (by decide +kernel) rfl
theorem bw_1529 : (Jvm.Cond.instanceMethod ({ cls := "HumUnheardModel", name := "go", desc := "(II)I" } : Jvm.MethodName) : Cond) ∈ BW := bw 1529 (by decide +kernel) rfl
theorem bw_1530 : (Jvm.Cond.selects "HumUnheardModel" ({ cls := "HumUnheardModel", name := "go", desc := "(II)I" } : Jvm.MethodName) ({ cls := "HumUnheardModel", name := "go", desc := "(II)I" } : Jvm.MethodName) : Cond) ∈ BW := bw 1530 (by decide +kernel) rfl
theorem gL_57 : ∀ z, xCv (Cf z) RL 57 MX11_go 2 := fun z => ⟨cmX11_go z, bw_1528, bw_1529, bw_1530⟩
theorem bw_631 : (Jvm.Cond.code ({ cls := "HumUnheard", name := "source", desc := "(IIII)I" } : Jvm.MethodName) prog_1_method_11_code (5 : Nat) (Option.some Jvm.ClassFile.FieldType.int) : Cond) ∈ BW := bw 631 (by decide +kernel) rfl
theorem cmX10_source : ∀ z, xCm (Cf z) MX10_source 4 := fun z => ⟨bw_80, bw_631, by decide +kernel, by decide, by decide +kernel⟩
theorem bw_628 : (Jvm.Cond.methodLink "HumUnheardLaw" (58 : Nat) ({ cls := "HumUnheard", name := "source", desc := "(IIII)I" } : Jvm.MethodName) : Cond) ∈ BW := bw 628 (by decide +kernel) rfl
theorem bw_629 : (Jvm.Cond.instanceMethod ({ cls := "HumUnheard", name := "source", desc := "(IIII)I" } : Jvm.MethodName) : Cond) ∈ BW := bw 629 (by decide +kernel) rfl
theorem bw_630 : (Jvm.Cond.selects "HumUnheard" ({ cls := "HumUnheard", name := "source", desc := "(IIII)I" } : Jvm.MethodName) ({ cls := "HumUnheard", name := "source", desc := "(IIII)I" } : Jvm.MethodName) : Cond) ∈ BW := bw 630 (by decide +kernel) rfl
theorem gL_58 : ∀ z, xCv (Cf z) RL 58 MX10_source 4 := fun z => ⟨cmX10_source z, bw_628, bw_629, bw_630⟩
theorem bw_1539 : (Jvm.Cond.code ({ cls := "HumUnheardModel", name := "source", desc := "(IIII)I" } : Jvm.MethodName) prog_13_method_23_code (5 : Nat) (Option.some Jvm.ClassFile.FieldType.int) : Cond) ∈ BW := bw 1539 (by decide +kernel) rfl
theorem cmX11_source : ∀ z, xCm (Cf z) MX11_source 4 := fun z => ⟨bw_92, bw_1539, by decide +kernel, by decide, by decide +kernel⟩
theorem bw_1536 : (Jvm.Cond.methodLink "HumUnheardLaw" (62 : Nat) ({ cls := "HumUnheardModel", name := "source", desc := "(IIII)I" } : Jvm.MethodName) : Cond) ∈ BW := bw 1536 (by decide +kernel) rfl
theorem bw_1537 : (Jvm.Cond.instanceMethod ({ cls := "HumUnheardModel", name := "source", desc := "(IIII)I" } : Jvm.MethodName) : Cond) ∈ BW := bw 1537 (by decide +kernel) rfl
theorem bw_1538 : (Jvm.Cond.selects "HumUnheardModel" ({ cls := "HumUnheardModel", name := "source", desc := "(IIII)I" } : Jvm.MethodName) ({ cls := "HumUnheardModel", name := "source", desc := "(IIII)I" } : Jvm.MethodName) : Cond) ∈ BW := bw 1538 (by decide +kernel) rfl
theorem gL_62 : ∀ z, xCv (Cf z) RL 62 MX11_source 4 := fun z => ⟨cmX11_source z, bw_1536, bw_1537, bw_1538⟩
theorem bw_652 : (Jvm.Cond.code ({ cls := "HumUnheard", name := "hours", desc := "(III)I" } : Jvm.MethodName) prog_1_method_12_code (6 : Nat) (Option.some Jvm.ClassFile.FieldType.int) : Cond) ∈ BW := bw 652 (by decide +kernel) rfl
theorem cmX10_hours : ∀ z, xCm (Cf z) MX10_hours 3 := fun z => ⟨bw_80, bw_652, by decide +kernel, by decide, by decide +kernel⟩
theorem bw_649 : (Jvm.Cond.methodLink "HumUnheardLaw" (63 : Nat) ({ cls := "HumUnheard", name := "hours", desc := "(III)I" } : Jvm.MethodName) : Cond) ∈ BW := bw 649 (by decide +kernel) rfl
theorem bw_650 : (Jvm.Cond.instanceMethod ({ cls := "HumUnheard", name := "hours", desc := "(III)I" } : Jvm.MethodName) : Cond) ∈ BW := bw 650 (by decide +kernel) rfl
theorem bw_651 : (Jvm.Cond.selects "HumUnheard" ({ cls := "HumUnheard", name := "hours", desc := "(III)I" } : Jvm.MethodName) ({ cls := "HumUnheard", name := "hours", desc := "(III)I" } : Jvm.MethodName) : Cond) ∈ BW := bw 651 (by decide +kernel) rfl
theorem gL_63 : ∀ z, xCv (Cf z) RL 63 MX10_hours 3 := fun z => ⟨cmX10_hours z, bw_649, bw_650, bw_651⟩
theorem bw_1543 : (Jvm.Cond.code ({ cls := "HumUnheardModel", name := "hours", desc := "(III)I" } : Jvm.MethodName) prog_13_method_24_code (5 : Nat) (Option.some Jvm.ClassFile.FieldType.int) : Cond) ∈ BW := bw 1543 (by decide +kernel) rfl
theorem cmX11_hours : ∀ z, xCm (Cf z) MX11_hours 3 := fun z => ⟨bw_92, bw_1543, by decide +kernel, by decide, by decide +kernel⟩
theorem bw_1540 : (Jvm.Cond.methodLink "HumUnheardLaw" (66 : Nat) ({ cls := "HumUnheardModel", name := "hours", desc := "(III)I" } : Jvm.MethodName) : Cond) ∈ BW := bw 1540 (by decide +kernel) rfl
theorem bw_1541 : (Jvm.Cond.instanceMethod ({ cls := "HumUnheardModel", name := "hours", desc := "(III)I" } : Jvm.MethodName) : Cond) ∈ BW := bw 1541 (by decide +kernel) rfl
theorem bw_1542 : (Jvm.Cond.selects "HumUnheardModel" ({ cls := "HumUnheardModel", name := "hours", desc := "(III)I" } : Jvm.MethodName) ({ cls := "HumUnheardModel", name := "hours", desc := "(III)I" } : Jvm.MethodName) : Cond) ∈ BW := bw 1542 (by decide +kernel) rfl
theorem gL_66 : ∀ z, xCv (Cf z) RL 66 MX11_hours 3 := fun z => ⟨cmX11_hours z, bw_1540, bw_1541, bw_1542⟩
theorem bw_657 : (Jvm.Cond.code ({ cls := "HumUnheard", name := "cost", desc := "(II)I" } : Jvm.MethodName) prog_1_method_13_code (4 : Nat) (Option.some Jvm.ClassFile.FieldType.int) : Cond) ∈ BW := bw 657 (by decide +kernel) rfl
theorem cmX10_cost : ∀ z, xCm (Cf z) MX10_cost 2 := fun z => ⟨bw_80, bw_657, by decide +kernel, by decide, by decide +kernel⟩
theorem bw_654 : (Jvm.Cond.methodLink "HumUnheardLaw" (67 : Nat) ({ cls := "HumUnheard", name := "cost", desc := "(II)I" } : Jvm.MethodName) : Cond) ∈ BW := bw 654 (by decide +kernel) rfl
theorem bw_655 : (Jvm.Cond.instanceMethod ({ cls := "HumUnheard", name := "cost", desc := "(II)I" } : Jvm.MethodName) : Cond) ∈ BW := bw 655 (by decide +kernel) rfl
theorem bw_656 : (Jvm.Cond.selects "HumUnheard" ({ cls := "HumUnheard", name := "cost", desc := "(II)I" } : Jvm.MethodName) ({ cls := "HumUnheard", name := "cost", desc := "(II)I" } : Jvm.MethodName) : Cond) ∈ BW := bw 656 (by decide +kernel) rfl
theorem gL_67 : ∀ z, xCv (Cf z) RL 67 MX10_cost 2 := fun z => ⟨cmX10_cost z, bw_654, bw_655, bw_656⟩
theorem bw_1547 : (Jvm.Cond.code ({ cls := "HumUnheardModel", name := "cost", desc := "(II)I" } : Jvm.MethodName) prog_13_method_25_code (4 : Nat) (Option.some Jvm.ClassFile.FieldType.int) : Cond) ∈ BW := bw 1547 (by decide +kernel) rfl
theorem cmX11_cost : ∀ z, xCm (Cf z) MX11_cost 2 := fun z => ⟨bw_92, bw_1547, by decide +kernel, by decide, by decide +kernel⟩
theorem bw_1544 : (Jvm.Cond.methodLink "HumUnheardLaw" (70 : Nat) ({ cls := "HumUnheardModel", name := "cost", desc := "(II)I" } : Jvm.MethodName) : Cond) ∈ BW := bw 1544 (by decide +kernel) rfl
theorem bw_1545 : (Jvm.Cond.instanceMethod ({ cls := "HumUnheardModel", name := "cost", desc := "(II)I" } : Jvm.MethodName) : Cond) ∈ BW := bw 1545 (by decide +kernel) rfl
theorem bw_1546 : (Jvm.Cond.selects "HumUnheardModel" ({ cls := "HumUnheardModel", name := "cost", desc := "(II)I" } : Jvm.MethodName) ({ cls := "HumUnheardModel", name := "cost", desc := "(II)I" } : Jvm.MethodName) : Cond) ∈ BW := bw 1546 (by decide +kernel) rfl
theorem gL_70 : ∀ z, xCv (Cf z) RL 70 MX11_cost 2 := fun z => ⟨cmX11_cost z, bw_1544, bw_1545, bw_1546⟩
theorem bw_661 : (Jvm.Cond.code ({ cls := "HumUnheard", name := "off", desc := "(IZ)I" } : Jvm.MethodName) prog_1_method_14_code (4 : Nat) (Option.some Jvm.ClassFile.FieldType.int) : Cond) ∈ BW := bw 661 (by decide +kernel) rfl
theorem cmX10_off : ∀ z, xCm (Cf z) MX10_off 2 := fun z => ⟨bw_80, bw_661, by decide +kernel, by decide, by decide +kernel⟩
theorem bw_658 : (Jvm.Cond.methodLink "HumUnheardLaw" (71 : Nat) ({ cls := "HumUnheard", name := "off", desc := "(IZ)I" } : Jvm.MethodName) : Cond) ∈ BW := bw 658 (by decide +kernel) rfl
theorem bw_659 : (Jvm.Cond.instanceMethod ({ cls := "HumUnheard", name := "off", desc := "(IZ)I" } : Jvm.MethodName) : Cond) ∈ BW := bw 659 (by decide +kernel) rfl
theorem bw_660 : (Jvm.Cond.selects "HumUnheard" ({ cls := "HumUnheard", name := "off", desc := "(IZ)I" } : Jvm.MethodName) ({ cls := "HumUnheard", name := "off", desc := "(IZ)I" } : Jvm.MethodName) : Cond) ∈ BW := bw 660 (by decide +kernel) rfl
theorem gL_71 : ∀ z, xCv (Cf z) RL 71 MX10_off 2 := fun z => ⟨cmX10_off z, bw_658, bw_659, bw_660⟩
theorem bw_1551 : (Jvm.Cond.code ({ cls := "HumUnheardModel", name := "off", desc := "(IZ)I" } : Jvm.MethodName) prog_13_method_26_code (4 : Nat) (Option.some Jvm.ClassFile.FieldType.int) : Cond) ∈ BW := bw 1551 (by decide +kernel) rfl
theorem cmX11_off : ∀ z, xCm (Cf z) MX11_off 2 := fun z => ⟨bw_92, bw_1551, by decide +kernel, by decide, by decide +kernel⟩
theorem bw_1548 : (Jvm.Cond.methodLink "HumUnheardLaw" (75 : Nat) ({ cls := "HumUnheardModel", name := "off", desc := "(IZ)I" } : Jvm.MethodName) : Cond) ∈ BW := bw 1548 (by decide +kernel) rfl
theorem bw_1549 : (Jvm.Cond.instanceMethod ({ cls := "HumUnheardModel", name := "off", desc := "(IZ)I" } : Jvm.MethodName) : Cond) ∈ BW := bw 1549 (by decide +kernel) rfl
theorem bw_1550 : (Jvm.Cond.selects "HumUnheardModel" ({ cls := "HumUnheardModel", name := "off", desc := "(IZ)I" } : Jvm.MethodName) ({ cls := "HumUnheardModel", name := "off", desc := "(IZ)I" } : Jvm.MethodName) : Cond) ∈ BW := bw 1550 (by decide +kernel) rfl
theorem gL_75 : ∀ z, xCv (Cf z) RL 75 MX11_off 2 := fun z => ⟨cmX11_off z, bw_1548, bw_1549, bw_1550⟩
theorem bw_666 : (Jvm.Cond.code ({ cls := "HumUnheard", name := "size", desc := "(II)I" } : Jvm.MethodName) prog_1_method_15_code (4 : Nat) (Option.some Jvm.ClassFile.FieldType.int) : Cond) ∈ BW := bw 666 (by decide +kernel) rfl
theorem cmX10_size : ∀ z, xCm (Cf z) MX10_size 2 := fun z => ⟨bw_80, bw_666, by decide +kernel, by decide, by decide +kernel⟩
theorem bw_663 : (Jvm.Cond.methodLink "HumUnheardLaw" (76 : Nat) ({ cls := "HumUnheard", name := "size", desc := "(II)I" } : Jvm.MethodName) : Cond) ∈ BW := bw 663 (by decide +kernel) rfl
theorem bw_664 : (Jvm.Cond.instanceMethod ({ cls := "HumUnheard", name := "size", desc := "(II)I" } : Jvm.MethodName) : Cond) ∈ BW := bw 664 (by decide +kernel) rfl
theorem bw_665 : (Jvm.Cond.selects "HumUnheard" ({ cls := "HumUnheard", name := "size", desc := "(II)I" } : Jvm.MethodName) ({ cls := "HumUnheard", name := "size", desc := "(II)I" } : Jvm.MethodName) : Cond) ∈ BW := bw 665 (by decide +kernel) rfl
theorem gL_76 : ∀ z, xCv (Cf z) RL 76 MX10_size 2 := fun z => ⟨cmX10_size z, bw_663, bw_664, bw_665⟩
theorem bw_1555 : (Jvm.Cond.code ({ cls := "HumUnheardModel", name := "size", desc := "(II)I" } : Jvm.MethodName) prog_13_method_27_code (4 : Nat) (Option.some Jvm.ClassFile.FieldType.int) : Cond) ∈ BW := bw 1555 (by decide +kernel) rfl
theorem cmX11_size : ∀ z, xCm (Cf z) MX11_size 2 := fun z => ⟨bw_92, bw_1555, by decide +kernel, by decide, by decide +kernel⟩
theorem bw_1552 : (Jvm.Cond.methodLink "HumUnheardLaw" (79 : Nat) ({ cls := "HumUnheardModel", name := "size", desc := "(II)I" } : Jvm.MethodName) : Cond) ∈ BW := bw 1552 (by decide +kernel) rfl
theorem bw_1553 : (Jvm.Cond.instanceMethod ({ cls := "HumUnheardModel", name := "size", desc := "(II)I" } : Jvm.MethodName) : Cond) ∈ BW := bw 1553 (by decide +kernel) rfl
theorem bw_1554 : (Jvm.Cond.selects "HumUnheardModel" ({ cls := "HumUnheardModel", name := "size", desc := "(II)I" } : Jvm.MethodName) ({ cls := "HumUnheardModel", name := "size", desc := "(II)I" } : Jvm.MethodName) : Cond) ∈ BW := bw 1554 (by decide +kernel) rfl
theorem gL_79 : ∀ z, xCv (Cf z) RL 79 MX11_size 2 := fun z => ⟨cmX11_size z, bw_1552, bw_1553, bw_1554⟩
theorem bw_670 : (Jvm.Cond.code ({ cls := "HumUnheard", name := "weather", desc := "(II)I" } : Jvm.MethodName) prog_1_method_16_code (4 : Nat) (Option.some Jvm.ClassFile.FieldType.int) : Cond) ∈ BW := bw 670 (by decide +kernel) rfl
theorem cmX10_weather : ∀ z, xCm (Cf z) MX10_weather 2 := fun z => ⟨bw_80, bw_670, by decide +kernel, by decide, by decide +kernel⟩
theorem bw_667 : (Jvm.Cond.methodLink "HumUnheardLaw" (80 : Nat) ({ cls := "HumUnheard", name := "weather", desc := "(II)I" } : Jvm.MethodName) : Cond) ∈ BW := bw 667 (by decide +kernel) rfl
theorem bw_668 : (Jvm.Cond.instanceMethod ({ cls := "HumUnheard", name := "weather", desc := "(II)I" } : Jvm.MethodName) : Cond) ∈ BW := bw 668 (by decide +kernel) rfl
theorem bw_669 : (Jvm.Cond.selects "HumUnheard" ({ cls := "HumUnheard", name := "weather", desc := "(II)I" } : Jvm.MethodName) ({ cls := "HumUnheard", name := "weather", desc := "(II)I" } : Jvm.MethodName) : Cond) ∈ BW := bw 669 (by decide +kernel) rfl
theorem gL_80 : ∀ z, xCv (Cf z) RL 80 MX10_weather 2 := fun z => ⟨cmX10_weather z, bw_667, bw_668, bw_669⟩
theorem bw_1559 : (Jvm.Cond.code ({ cls := "HumUnheardModel", name := "weather", desc := "(II)I" } : Jvm.MethodName) prog_13_method_28_code (4 : Nat) (Option.some Jvm.ClassFile.FieldType.int) : Cond) ∈ BW := bw 1559 (by decide +kernel) rfl
theorem cmX11_weather : ∀ z, xCm (Cf z) MX11_weather 2 := fun z => ⟨bw_92, bw_1559, by decide +kernel, by decide, by decide +kernel⟩
theorem bw_1556 : (Jvm.Cond.methodLink "HumUnheardLaw" (83 : Nat) ({ cls := "HumUnheardModel", name := "weather", desc := "(II)I" } : Jvm.MethodName) : Cond) ∈ BW := bw 1556 (by decide +kernel) rfl
theorem bw_1557 : (Jvm.Cond.instanceMethod ({ cls := "HumUnheardModel", name := "weather", desc := "(II)I" } : Jvm.MethodName) : Cond) ∈ BW := bw 1557 (by decide +kernel) rfl
theorem bw_1558 : (Jvm.Cond.selects "HumUnheardModel" ({ cls := "HumUnheardModel", name := "weather", desc := "(II)I" } : Jvm.MethodName) ({ cls := "HumUnheardModel", name := "weather", desc := "(II)I" } : Jvm.MethodName) : Cond) ∈ BW := bw 1558 (by decide +kernel) rfl
theorem gL_83 : ∀ z, xCv (Cf z) RL 83 MX11_weather 2 := fun z => ⟨cmX11_weather z, bw_1556, bw_1557, bw_1558⟩
theorem bw_674 : (Jvm.Cond.code ({ cls := "HumUnheard", name := "pass", desc := "(I)I" } : Jvm.MethodName) prog_1_method_17_code (2 : Nat) (Option.some Jvm.ClassFile.FieldType.int) : Cond) ∈ BW := bw 674 (by decide +kernel) rfl
theorem cmX10_pass : ∀ z, xCm (Cf z) MX10_pass 1 := fun z => ⟨bw_80, bw_674, by decide +kernel, by decide, by decide +kernel⟩
theorem bw_671 : (Jvm.Cond.methodLink "HumUnheardLaw" (84 : Nat) ({ cls := "HumUnheard", name := "pass", desc := "(I)I" } : Jvm.MethodName) : Cond) ∈ BW := bw 671 (by decide +kernel) rfl
theorem bw_672 : (Jvm.Cond.instanceMethod ({ cls := "HumUnheard", name := "pass", desc := "(I)I" } : Jvm.MethodName) : Cond) ∈ BW := bw 672 (by decide +kernel) rfl
theorem bw_673 : (Jvm.Cond.selects "HumUnheard" ({ cls := "HumUnheard", name := "pass", desc := "(I)I" } : Jvm.MethodName) ({ cls := "HumUnheard", name := "pass", desc := "(I)I" } : Jvm.MethodName) : Cond) ∈ BW := bw 673 (by decide +kernel) rfl
theorem gL_84 : ∀ z, xCv (Cf z) RL 84 MX10_pass 1 := fun z => ⟨cmX10_pass z, bw_671, bw_672, bw_673⟩
theorem bw_1563 : (Jvm.Cond.code ({ cls := "HumUnheardModel", name := "pass", desc := "(I)I" } : Jvm.MethodName) prog_13_method_29_code (2 : Nat) (Option.some Jvm.ClassFile.FieldType.int) : Cond) ∈ BW := bw 1563 (by decide +kernel) rfl
theorem cmX11_pass : ∀ z, xCm (Cf z) MX11_pass 1 := fun z => ⟨bw_92, bw_1563, by decide +kernel, by decide, by decide +kernel⟩
theorem bw_1560 : (Jvm.Cond.methodLink "HumUnheardLaw" (87 : Nat) ({ cls := "HumUnheardModel", name := "pass", desc := "(I)I" } : Jvm.MethodName) : Cond) ∈ BW := bw 1560 (by decide +kernel) rfl
theorem bw_1561 : (Jvm.Cond.instanceMethod ({ cls := "HumUnheardModel", name := "pass", desc := "(I)I" } : Jvm.MethodName) : Cond) ∈ BW := bw 1561 (by decide +kernel) rfl
theorem bw_1562 : (Jvm.Cond.selects "HumUnheardModel" ({ cls := "HumUnheardModel", name := "pass", desc := "(I)I" } : Jvm.MethodName) ({ cls := "HumUnheardModel", name := "pass", desc := "(I)I" } : Jvm.MethodName) : Cond) ∈ BW := bw 1562 (by decide +kernel) rfl
theorem gL_87 : ∀ z, xCv (Cf z) RL 87 MX11_pass 1 := fun z => ⟨cmX11_pass z, bw_1560, bw_1561, bw_1562⟩
theorem bw_681 : (Jvm.Cond.code ({ cls := "HumUnheard", name := "laws", desc := "(I)I" } : Jvm.MethodName) prog_1_method_18_code (3 : Nat) (Option.some Jvm.ClassFile.FieldType.int) : Cond) ∈ BW := bw 681 (by decide +kernel) rfl
theorem cmX10_laws : ∀ z, xCm (Cf z) MX10_laws 1 := fun z => ⟨bw_80, bw_681, by decide +kernel, by decide, by decide +kernel⟩
theorem bw_678 : (Jvm.Cond.methodLink "HumUnheardLaw" (88 : Nat) ({ cls := "HumUnheard", name := "laws", desc := "(I)I" } : Jvm.MethodName) : Cond) ∈ BW := bw 678 (by decide +kernel) rfl
theorem bw_679 : (Jvm.Cond.instanceMethod ({ cls := "HumUnheard", name := "laws", desc := "(I)I" } : Jvm.MethodName) : Cond) ∈ BW := bw 679 (by decide +kernel) rfl
theorem bw_680 : (Jvm.Cond.selects "HumUnheard" ({ cls := "HumUnheard", name := "laws", desc := "(I)I" } : Jvm.MethodName) ({ cls := "HumUnheard", name := "laws", desc := "(I)I" } : Jvm.MethodName) : Cond) ∈ BW := bw 680 (by decide +kernel) rfl
theorem gL_88 : ∀ z, xCv (Cf z) RL 88 MX10_laws 1 := fun z => ⟨cmX10_laws z, bw_678, bw_679, bw_680⟩
theorem bw_1567 : (Jvm.Cond.code ({ cls := "HumUnheardModel", name := "laws", desc := "(I)I" } : Jvm.MethodName) prog_13_method_39_code (4 : Nat) (Option.some Jvm.ClassFile.FieldType.int) : Cond) ∈ BW := bw 1567 (by decide +kernel) rfl
theorem cmX11_laws : ∀ z, xCm (Cf z) MX11_laws 1 := fun z => ⟨bw_92, bw_1567, by decide +kernel, by decide, by decide +kernel⟩
theorem bw_1564 : (Jvm.Cond.methodLink "HumUnheardLaw" (91 : Nat) ({ cls := "HumUnheardModel", name := "laws", desc := "(I)I" } : Jvm.MethodName) : Cond) ∈ BW := bw 1564 (by decide +kernel) rfl
theorem bw_1565 : (Jvm.Cond.instanceMethod ({ cls := "HumUnheardModel", name := "laws", desc := "(I)I" } : Jvm.MethodName) : Cond) ∈ BW := bw 1565 (by decide +kernel) rfl
theorem bw_1566 : (Jvm.Cond.selects "HumUnheardModel" ({ cls := "HumUnheardModel", name := "laws", desc := "(I)I" } : Jvm.MethodName) ({ cls := "HumUnheardModel", name := "laws", desc := "(I)I" } : Jvm.MethodName) : Cond) ∈ BW := bw 1566 (by decide +kernel) rfl
theorem gL_91 : ∀ z, xCv (Cf z) RL 91 MX11_laws 1 := fun z => ⟨cmX11_laws z, bw_1564, bw_1565, bw_1566⟩
theorem bw_803 : (Jvm.Cond.code ({ cls := "HumUnheard", name := "law", desc := "(I)I" } : Jvm.MethodName) prog_1_method_19_code (2 : Nat) (Option.some Jvm.ClassFile.FieldType.int) : Cond) ∈ BW := bw 803 (by decide +kernel) rfl
theorem cmX10_law : ∀ z, xCm (Cf z) MX10_law 1 := fun z => ⟨bw_80, bw_803, by decide +kernel, by decide, by decide +kernel⟩
theorem bw_800 : (Jvm.Cond.methodLink "HumUnheardLaw" (92 : Nat) ({ cls := "HumUnheard", name := "law", desc := "(I)I" } : Jvm.MethodName) : Cond) ∈ BW := bw 800 (by decide +kernel) rfl
theorem bw_801 : (Jvm.Cond.instanceMethod ({ cls := "HumUnheard", name := "law", desc := "(I)I" } : Jvm.MethodName) : Cond) ∈ BW := bw 801 (by decide +kernel) rfl
theorem bw_802 : (Jvm.Cond.selects "HumUnheard" ({ cls := "HumUnheard", name := "law", desc := "(I)I" } : Jvm.MethodName) ({ cls := "HumUnheard", name := "law", desc := "(I)I" } : Jvm.MethodName) : Cond) ∈ BW := bw 802 (by decide +kernel) rfl
theorem gL_92 : ∀ z, xCv (Cf z) RL 92 MX10_law 1 := fun z => ⟨cmX10_law z, bw_800, bw_801, bw_802⟩
theorem bw_1611 : (Jvm.Cond.code ({ cls := "HumUnheardModel", name := "law", desc := "(I)I" } : Jvm.MethodName) prog_13_method_40_code (2 : Nat) (Option.some Jvm.ClassFile.FieldType.int) : Cond) ∈ BW := bw 1611 (by decide +kernel) rfl
theorem cmX11_law : ∀ z, xCm (Cf z) MX11_law 1 := fun z => ⟨bw_92, bw_1611, by decide +kernel, by decide, by decide +kernel⟩
theorem bw_1608 : (Jvm.Cond.methodLink "HumUnheardLaw" (95 : Nat) ({ cls := "HumUnheardModel", name := "law", desc := "(I)I" } : Jvm.MethodName) : Cond) ∈ BW := bw 1608 (by decide +kernel) rfl
theorem bw_1609 : (Jvm.Cond.instanceMethod ({ cls := "HumUnheardModel", name := "law", desc := "(I)I" } : Jvm.MethodName) : Cond) ∈ BW := bw 1609 (by decide +kernel) rfl
theorem bw_1610 : (Jvm.Cond.selects "HumUnheardModel" ({ cls := "HumUnheardModel", name := "law", desc := "(I)I" } : Jvm.MethodName) ({ cls := "HumUnheardModel", name := "law", desc := "(I)I" } : Jvm.MethodName) : Cond) ∈ BW := bw 1610 (by decide +kernel) rfl
theorem gL_95 : ∀ z, xCv (Cf z) RL 95 MX11_law 1 := fun z => ⟨cmX11_law z, bw_1608, bw_1609, bw_1610⟩
theorem bw_807 : (Jvm.Cond.code ({ cls := "HumUnheard", name := "plan", desc := "(I)I" } : Jvm.MethodName) prog_1_method_20_code (3 : Nat) (Option.some Jvm.ClassFile.FieldType.int) : Cond) ∈ BW := bw 807 (by decide +kernel) rfl
theorem cmX10_plan : ∀ z, xCm (Cf z) MX10_plan 1 := fun z => ⟨bw_80, bw_807, by decide +kernel, by decide, by decide +kernel⟩
theorem bw_804 : (Jvm.Cond.methodLink "HumUnheardLaw" (96 : Nat) ({ cls := "HumUnheard", name := "plan", desc := "(I)I" } : Jvm.MethodName) : Cond) ∈ BW := bw 804 (by decide +kernel) rfl
theorem bw_805 : (Jvm.Cond.instanceMethod ({ cls := "HumUnheard", name := "plan", desc := "(I)I" } : Jvm.MethodName) : Cond) ∈ BW := bw 805 (by decide +kernel) rfl
theorem bw_806 : (Jvm.Cond.selects "HumUnheard" ({ cls := "HumUnheard", name := "plan", desc := "(I)I" } : Jvm.MethodName) ({ cls := "HumUnheard", name := "plan", desc := "(I)I" } : Jvm.MethodName) : Cond) ∈ BW := bw 806 (by decide +kernel) rfl
theorem gL_96 : ∀ z, xCv (Cf z) RL 96 MX10_plan 1 := fun z => ⟨cmX10_plan z, bw_804, bw_805, bw_806⟩
theorem bw_1615 : (Jvm.Cond.code ({ cls := "HumUnheardModel", name := "plan", desc := "(I)I" } : Jvm.MethodName) prog_13_method_41_code (5 : Nat) (Option.some Jvm.ClassFile.FieldType.int) : Cond) ∈ BW := bw 1615 (by decide +kernel) rfl
theorem cmX11_plan : ∀ z, xCm (Cf z) MX11_plan 1 := fun z => ⟨bw_92, bw_1615, by decide +kernel, by decide, by decide +kernel⟩
theorem bw_1612 : (Jvm.Cond.methodLink "HumUnheardLaw" (99 : Nat) ({ cls := "HumUnheardModel", name := "plan", desc := "(I)I" } : Jvm.MethodName) : Cond) ∈ BW := bw 1612 (by decide +kernel) rfl
theorem bw_1613 : (Jvm.Cond.instanceMethod ({ cls := "HumUnheardModel", name := "plan", desc := "(I)I" } : Jvm.MethodName) : Cond) ∈ BW := bw 1613 (by decide +kernel) rfl
theorem bw_1614 : (Jvm.Cond.selects "HumUnheardModel" ({ cls := "HumUnheardModel", name := "plan", desc := "(I)I" } : Jvm.MethodName) ({ cls := "HumUnheardModel", name := "plan", desc := "(I)I" } : Jvm.MethodName) : Cond) ∈ BW := bw 1614 (by decide +kernel) rfl
theorem gL_99 : ∀ z, xCv (Cf z) RL 99 MX11_plan 1 := fun z => ⟨cmX11_plan z, bw_1612, bw_1613, bw_1614⟩
theorem bw_837 : (Jvm.Cond.code ({ cls := "HumUnheard", name := "fault", desc := "()I" } : Jvm.MethodName) prog_1_method_21_code (1 : Nat) (Option.some Jvm.ClassFile.FieldType.int) : Cond) ∈ BW := bw 837 (by decide +kernel) rfl
theorem cmX10_fault : ∀ z, xCm (Cf z) MX10_fault 0 := fun z => ⟨bw_80, bw_837, by decide +kernel, by decide, by decide +kernel⟩
theorem bw_834 : (Jvm.Cond.methodLink "HumUnheardLaw" (100 : Nat) ({ cls := "HumUnheard", name := "fault", desc := "()I" } : Jvm.MethodName) : Cond) ∈ BW := bw 834 (by decide +kernel) rfl
theorem bw_835 : (Jvm.Cond.instanceMethod ({ cls := "HumUnheard", name := "fault", desc := "()I" } : Jvm.MethodName) : Cond) ∈ BW := bw 835 (by decide +kernel) rfl
theorem bw_836 : (Jvm.Cond.selects "HumUnheard" ({ cls := "HumUnheard", name := "fault", desc := "()I" } : Jvm.MethodName) ({ cls := "HumUnheard", name := "fault", desc := "()I" } : Jvm.MethodName) : Cond) ∈ BW := bw 836 (by decide +kernel) rfl
theorem gL_100 : ∀ z, xCv (Cf z) RL 100 MX10_fault 0 := fun z => ⟨cmX10_fault z, bw_834, bw_835, bw_836⟩
theorem bw_1619 : (Jvm.Cond.code ({ cls := "HumUnheardModel", name := "fault", desc := "()I" } : Jvm.MethodName) prog_13_method_42_code (1 : Nat) (Option.some Jvm.ClassFile.FieldType.int) : Cond) ∈ BW := bw 1619 (by decide +kernel) rfl
theorem cmX11_fault : ∀ z, xCm (Cf z) MX11_fault 0 := fun z => ⟨bw_92, bw_1619, by decide +kernel, by decide, by decide +kernel⟩
theorem bw_1616 : (Jvm.Cond.methodLink "HumUnheardLaw" (104 : Nat) ({ cls := "HumUnheardModel", name := "fault", desc := "()I" } : Jvm.MethodName) : Cond) ∈ BW := bw 1616 (by decide +kernel) rfl
theorem bw_1617 : (Jvm.Cond.instanceMethod ({ cls := "HumUnheardModel", name := "fault", desc := "()I" } : Jvm.MethodName) : Cond) ∈ BW := bw 1617 (by decide +kernel) rfl
theorem bw_1618 : (Jvm.Cond.selects "HumUnheardModel" ({ cls := "HumUnheardModel", name := "fault", desc := "()I" } : Jvm.MethodName) ({ cls := "HumUnheardModel", name := "fault", desc := "()I" } : Jvm.MethodName) : Cond) ∈ BW := bw 1618 (by decide +kernel) rfl
theorem gL_104 : ∀ z, xCv (Cf z) RL 104 MX11_fault 0 := fun z => ⟨cmX11_fault z, bw_1616, bw_1617, bw_1618⟩
theorem bw_841 : (Jvm.Cond.code ({ cls := "HumUnheard", name := "force", desc := "(I)I" } : Jvm.MethodName) prog_1_method_22_code (3 : Nat) (Option.some Jvm.ClassFile.FieldType.int) : Cond) ∈ BW := bw 841 (by decide +kernel) rfl
theorem cmX10_force : ∀ z, xCm (Cf z) MX10_force 1 := fun z => ⟨bw_80, bw_841, by decide +kernel, by decide, by decide +kernel⟩
theorem bw_838 : (Jvm.Cond.methodLink "HumUnheardLaw" (105 : Nat) ({ cls := "HumUnheard", name := "force", desc := "(I)I" } : Jvm.MethodName) : Cond) ∈ BW := bw 838 (by decide +kernel) rfl
theorem bw_839 : (Jvm.Cond.instanceMethod ({ cls := "HumUnheard", name := "force", desc := "(I)I" } : Jvm.MethodName) : Cond) ∈ BW := bw 839 (by decide +kernel) rfl
theorem bw_840 : (Jvm.Cond.selects "HumUnheard" ({ cls := "HumUnheard", name := "force", desc := "(I)I" } : Jvm.MethodName) ({ cls := "HumUnheard", name := "force", desc := "(I)I" } : Jvm.MethodName) : Cond) ∈ BW := bw 840 (by decide +kernel) rfl
theorem gL_105 : ∀ z, xCv (Cf z) RL 105 MX10_force 1 := fun z => ⟨cmX10_force z, bw_838, bw_839, bw_840⟩
theorem bw_1623 : (Jvm.Cond.code ({ cls := "HumUnheardModel", name := "force", desc := "(I)I" } : Jvm.MethodName) prog_13_method_43_code (3 : Nat) (Option.some Jvm.ClassFile.FieldType.int) : Cond) ∈ BW := bw 1623 (by decide +kernel) rfl
theorem cmX11_force : ∀ z, xCm (Cf z) MX11_force 1 := fun z => ⟨bw_92, bw_1623, by decide +kernel, by decide, by decide +kernel⟩
theorem bw_1620 : (Jvm.Cond.methodLink "HumUnheardLaw" (108 : Nat) ({ cls := "HumUnheardModel", name := "force", desc := "(I)I" } : Jvm.MethodName) : Cond) ∈ BW := bw 1620 (by decide +kernel) rfl
theorem bw_1621 : (Jvm.Cond.instanceMethod ({ cls := "HumUnheardModel", name := "force", desc := "(I)I" } : Jvm.MethodName) : Cond) ∈ BW := bw 1621 (by decide +kernel) rfl
theorem bw_1622 : (Jvm.Cond.selects "HumUnheardModel" ({ cls := "HumUnheardModel", name := "force", desc := "(I)I" } : Jvm.MethodName) ({ cls := "HumUnheardModel", name := "force", desc := "(I)I" } : Jvm.MethodName) : Cond) ∈ BW := bw 1622 (by decide +kernel) rfl
theorem gL_108 : ∀ z, xCv (Cf z) RL 108 MX11_force 1 := fun z => ⟨cmX11_force z, bw_1620, bw_1621, bw_1622⟩
theorem bw_845 : (Jvm.Cond.code ({ cls := "HumUnheard", name := "sounds", desc := "(II)I" } : Jvm.MethodName) prog_1_method_23_code (3 : Nat) (Option.some Jvm.ClassFile.FieldType.int) : Cond) ∈ BW := bw 845 (by decide +kernel) rfl
theorem cmX10_sounds : ∀ z, xCm (Cf z) MX10_sounds 2 := fun z => ⟨bw_80, bw_845, by decide +kernel, by decide, by decide +kernel⟩
theorem bw_842 : (Jvm.Cond.methodLink "HumUnheardLaw" (109 : Nat) ({ cls := "HumUnheard", name := "sounds", desc := "(II)I" } : Jvm.MethodName) : Cond) ∈ BW := bw 842 (by decide +kernel) rfl
theorem bw_843 : (Jvm.Cond.instanceMethod ({ cls := "HumUnheard", name := "sounds", desc := "(II)I" } : Jvm.MethodName) : Cond) ∈ BW := bw 843 (by decide +kernel) rfl
theorem bw_844 : (Jvm.Cond.selects "HumUnheard" ({ cls := "HumUnheard", name := "sounds", desc := "(II)I" } : Jvm.MethodName) ({ cls := "HumUnheard", name := "sounds", desc := "(II)I" } : Jvm.MethodName) : Cond) ∈ BW := bw 844 (by decide +kernel) rfl
theorem gL_109 : ∀ z, xCv (Cf z) RL 109 MX10_sounds 2 := fun z => ⟨cmX10_sounds z, bw_842, bw_843, bw_844⟩
theorem bw_1627 : (Jvm.Cond.code ({ cls := "HumUnheardModel", name := "sounds", desc := "(II)I" } : Jvm.MethodName) prog_13_method_58_code (3 : Nat) (Option.some Jvm.ClassFile.FieldType.int) : Cond) ∈ BW := bw 1627 (by decide +kernel) rfl
theorem cmX11_sounds : ∀ z, xCm (Cf z) MX11_sounds 2 := fun z => ⟨bw_92, bw_1627, by decide +kernel, by decide, by decide +kernel⟩
theorem bw_1624 : (Jvm.Cond.methodLink "HumUnheardLaw" (112 : Nat) ({ cls := "HumUnheardModel", name := "sounds", desc := "(II)I" } : Jvm.MethodName) : Cond) ∈ BW := bw 1624 (by decide +kernel) rfl
theorem bw_1625 : (Jvm.Cond.instanceMethod ({ cls := "HumUnheardModel", name := "sounds", desc := "(II)I" } : Jvm.MethodName) : Cond) ∈ BW := bw 1625 (by decide +kernel) rfl
theorem bw_1626 : (Jvm.Cond.selects "HumUnheardModel" ({ cls := "HumUnheardModel", name := "sounds", desc := "(II)I" } : Jvm.MethodName) ({ cls := "HumUnheardModel", name := "sounds", desc := "(II)I" } : Jvm.MethodName) : Cond) ∈ BW := bw 1626 (by decide +kernel) rfl
theorem gL_112 : ∀ z, xCv (Cf z) RL 112 MX11_sounds 2 := fun z => ⟨cmX11_sounds z, bw_1624, bw_1625, bw_1626⟩
theorem bw_887 : (Jvm.Cond.code ({ cls := "HumUnheard", name := "reach", desc := "(II)I" } : Jvm.MethodName) prog_1_method_24_code (3 : Nat) (Option.some Jvm.ClassFile.FieldType.int) : Cond) ∈ BW := bw 887 (by decide +kernel) rfl
theorem cmX10_reach : ∀ z, xCm (Cf z) MX10_reach 2 := fun z => ⟨bw_80, bw_887, by decide +kernel, by decide, by decide +kernel⟩
theorem bw_884 : (Jvm.Cond.methodLink "HumUnheardLaw" (113 : Nat) ({ cls := "HumUnheard", name := "reach", desc := "(II)I" } : Jvm.MethodName) : Cond) ∈ BW := bw 884 (by decide +kernel) rfl
theorem bw_885 : (Jvm.Cond.instanceMethod ({ cls := "HumUnheard", name := "reach", desc := "(II)I" } : Jvm.MethodName) : Cond) ∈ BW := bw 885 (by decide +kernel) rfl
theorem bw_886 : (Jvm.Cond.selects "HumUnheard" ({ cls := "HumUnheard", name := "reach", desc := "(II)I" } : Jvm.MethodName) ({ cls := "HumUnheard", name := "reach", desc := "(II)I" } : Jvm.MethodName) : Cond) ∈ BW := bw 886 (by decide +kernel) rfl
theorem gL_113 : ∀ z, xCv (Cf z) RL 113 MX10_reach 2 := fun z => ⟨cmX10_reach z, bw_884, bw_885, bw_886⟩
theorem bw_1663 : (Jvm.Cond.code ({ cls := "HumUnheardModel", name := "reach", desc := "(II)I" } : Jvm.MethodName) prog_13_method_59_code (3 : Nat) (Option.some Jvm.ClassFile.FieldType.int) : Cond) ∈ BW := bw 1663 (by decide +kernel) rfl
theorem cmX11_reach : ∀ z, xCm (Cf z) MX11_reach 2 := fun z => ⟨bw_92, bw_1663, by decide +kernel, by decide, by decide +kernel⟩
theorem bw_1660 : (Jvm.Cond.methodLink "HumUnheardLaw" (116 : Nat) ({ cls := "HumUnheardModel", name := "reach", desc := "(II)I" } : Jvm.MethodName) : Cond) ∈ BW := bw 1660 (by decide +kernel) rfl
theorem bw_1661 : (Jvm.Cond.instanceMethod ({ cls := "HumUnheardModel", name := "reach", desc := "(II)I" } : Jvm.MethodName) : Cond) ∈ BW := bw 1661 (by decide +kernel) rfl
theorem bw_1662 : (Jvm.Cond.selects "HumUnheardModel" ({ cls := "HumUnheardModel", name := "reach", desc := "(II)I" } : Jvm.MethodName) ({ cls := "HumUnheardModel", name := "reach", desc := "(II)I" } : Jvm.MethodName) : Cond) ∈ BW := bw 1662 (by decide +kernel) rfl
theorem gL_116 : ∀ z, xCv (Cf z) RL 116 MX11_reach 2 := fun z => ⟨cmX11_reach z, bw_1660, bw_1661, bw_1662⟩
theorem bw_909 : (Jvm.Cond.code ({ cls := "HumUnheard", name := "needs", desc := "(II)I" } : Jvm.MethodName) prog_1_method_25_code (3 : Nat) (Option.some Jvm.ClassFile.FieldType.int) : Cond) ∈ BW := bw 909 (by decide +kernel) rfl
theorem cmX10_needs : ∀ z, xCm (Cf z) MX10_needs 2 := fun z => ⟨bw_80, bw_909, by decide +kernel, by decide, by decide +kernel⟩
theorem bw_906 : (Jvm.Cond.methodLink "HumUnheardLaw" (117 : Nat) ({ cls := "HumUnheard", name := "needs", desc := "(II)I" } : Jvm.MethodName) : Cond) ∈ BW := bw 906 (by decide +kernel) rfl
theorem bw_907 : (Jvm.Cond.instanceMethod ({ cls := "HumUnheard", name := "needs", desc := "(II)I" } : Jvm.MethodName) : Cond) ∈ BW := bw 907 (by decide +kernel) rfl
theorem bw_908 : (Jvm.Cond.selects "HumUnheard" ({ cls := "HumUnheard", name := "needs", desc := "(II)I" } : Jvm.MethodName) ({ cls := "HumUnheard", name := "needs", desc := "(II)I" } : Jvm.MethodName) : Cond) ∈ BW := bw 908 (by decide +kernel) rfl
theorem gL_117 : ∀ z, xCv (Cf z) RL 117 MX10_needs 2 := fun z => ⟨cmX10_needs z, bw_906, bw_907, bw_908⟩
theorem bw_1675 : (Jvm.Cond.code ({ cls := "HumUnheardModel", name := "needs", desc := "(II)I" } : Jvm.MethodName) prog_13_method_60_code (3 : Nat) (Option.some Jvm.ClassFile.FieldType.int) : Cond) ∈ BW := bw 1675 (by decide +kernel) rfl
theorem cmX11_needs : ∀ z, xCm (Cf z) MX11_needs 2 := fun z => ⟨bw_92, bw_1675, by decide +kernel, by decide, by decide +kernel⟩
theorem bw_1672 : (Jvm.Cond.methodLink "HumUnheardLaw" (120 : Nat) ({ cls := "HumUnheardModel", name := "needs", desc := "(II)I" } : Jvm.MethodName) : Cond) ∈ BW := bw 1672 (by decide +kernel) rfl
theorem bw_1673 : (Jvm.Cond.instanceMethod ({ cls := "HumUnheardModel", name := "needs", desc := "(II)I" } : Jvm.MethodName) : Cond) ∈ BW := bw 1673 (by decide +kernel) rfl
theorem bw_1674 : (Jvm.Cond.selects "HumUnheardModel" ({ cls := "HumUnheardModel", name := "needs", desc := "(II)I" } : Jvm.MethodName) ({ cls := "HumUnheardModel", name := "needs", desc := "(II)I" } : Jvm.MethodName) : Cond) ∈ BW := bw 1674 (by decide +kernel) rfl
theorem gL_120 : ∀ z, xCv (Cf z) RL 120 MX11_needs 2 := fun z => ⟨cmX11_needs z, bw_1672, bw_1673, bw_1674⟩
theorem bw_918 : (Jvm.Cond.code ({ cls := "HumUnheard", name := "hears", desc := "(II)I" } : Jvm.MethodName) prog_1_method_26_code (3 : Nat) (Option.some Jvm.ClassFile.FieldType.int) : Cond) ∈ BW := bw 918 (by decide +kernel) rfl
theorem cmX10_hears : ∀ z, xCm (Cf z) MX10_hears 2 := fun z => ⟨bw_80, bw_918, by decide +kernel, by decide, by decide +kernel⟩
theorem bw_915 : (Jvm.Cond.methodLink "HumUnheardLaw" (121 : Nat) ({ cls := "HumUnheard", name := "hears", desc := "(II)I" } : Jvm.MethodName) : Cond) ∈ BW := bw 915 (by decide +kernel) rfl
theorem bw_916 : (Jvm.Cond.instanceMethod ({ cls := "HumUnheard", name := "hears", desc := "(II)I" } : Jvm.MethodName) : Cond) ∈ BW := bw 916 (by decide +kernel) rfl
theorem bw_917 : (Jvm.Cond.selects "HumUnheard" ({ cls := "HumUnheard", name := "hears", desc := "(II)I" } : Jvm.MethodName) ({ cls := "HumUnheard", name := "hears", desc := "(II)I" } : Jvm.MethodName) : Cond) ∈ BW := bw 917 (by decide +kernel) rfl
theorem gL_121 : ∀ z, xCv (Cf z) RL 121 MX10_hears 2 := fun z => ⟨cmX10_hears z, bw_915, bw_916, bw_917⟩
theorem bw_1683 : (Jvm.Cond.code ({ cls := "HumUnheardModel", name := "hears", desc := "(II)I" } : Jvm.MethodName) prog_13_method_61_code (3 : Nat) (Option.some Jvm.ClassFile.FieldType.int) : Cond) ∈ BW := bw 1683 (by decide +kernel) rfl
theorem cmX11_hears : ∀ z, xCm (Cf z) MX11_hears 2 := fun z => ⟨bw_92, bw_1683, by decide +kernel, by decide, by decide +kernel⟩
theorem bw_1680 : (Jvm.Cond.methodLink "HumUnheardLaw" (124 : Nat) ({ cls := "HumUnheardModel", name := "hears", desc := "(II)I" } : Jvm.MethodName) : Cond) ∈ BW := bw 1680 (by decide +kernel) rfl
theorem bw_1681 : (Jvm.Cond.instanceMethod ({ cls := "HumUnheardModel", name := "hears", desc := "(II)I" } : Jvm.MethodName) : Cond) ∈ BW := bw 1681 (by decide +kernel) rfl
theorem bw_1682 : (Jvm.Cond.selects "HumUnheardModel" ({ cls := "HumUnheardModel", name := "hears", desc := "(II)I" } : Jvm.MethodName) ({ cls := "HumUnheardModel", name := "hears", desc := "(II)I" } : Jvm.MethodName) : Cond) ∈ BW := bw 1682 (by decide +kernel) rfl
theorem gL_124 : ∀ z, xCv (Cf z) RL 124 MX11_hears 2 := fun z => ⟨cmX11_hears z, bw_1680, bw_1681, bw_1682⟩
theorem bw_937 : (Jvm.Cond.code ({ cls := "HumUnheard", name := "loudest", desc := "(II)I" } : Jvm.MethodName) prog_1_method_27_code (3 : Nat) (Option.some Jvm.ClassFile.FieldType.int) : Cond) ∈ BW := bw 937 (by decide +kernel) rfl
theorem cmX10_loudest : ∀ z, xCm (Cf z) MX10_loudest 2 := fun z => ⟨bw_80, bw_937, by decide +kernel, by decide, by decide +kernel⟩
theorem bw_934 : (Jvm.Cond.methodLink "HumUnheardLaw" (125 : Nat) ({ cls := "HumUnheard", name := "loudest", desc := "(II)I" } : Jvm.MethodName) : Cond) ∈ BW := bw 934 (by decide +kernel) rfl
theorem bw_935 : (Jvm.Cond.instanceMethod ({ cls := "HumUnheard", name := "loudest", desc := "(II)I" } : Jvm.MethodName) : Cond) ∈ BW := bw 935 (by decide +kernel) rfl
theorem bw_936 : (Jvm.Cond.selects "HumUnheard" ({ cls := "HumUnheard", name := "loudest", desc := "(II)I" } : Jvm.MethodName) ({ cls := "HumUnheard", name := "loudest", desc := "(II)I" } : Jvm.MethodName) : Cond) ∈ BW := bw 936 (by decide +kernel) rfl
theorem gL_125 : ∀ z, xCv (Cf z) RL 125 MX10_loudest 2 := fun z => ⟨cmX10_loudest z, bw_934, bw_935, bw_936⟩
theorem bw_1699 : (Jvm.Cond.code ({ cls := "HumUnheardModel", name := "loudest", desc := "(II)I" } : Jvm.MethodName) prog_13_method_62_code (6 : Nat) (Option.some Jvm.ClassFile.FieldType.int) : Cond) ∈ BW := bw 1699 (by decide +kernel) rfl
theorem cmX11_loudest : ∀ z, xCm (Cf z) MX11_loudest 2 := fun z => ⟨bw_92, bw_1699, by decide +kernel, by decide, by decide +kernel⟩
theorem bw_1696 : (Jvm.Cond.methodLink "HumUnheardLaw" (128 : Nat) ({ cls := "HumUnheardModel", name := "loudest", desc := "(II)I" } : Jvm.MethodName) : Cond) ∈ BW := bw 1696 (by decide +kernel) rfl
theorem bw_1697 : (Jvm.Cond.instanceMethod ({ cls := "HumUnheardModel", name := "loudest", desc := "(II)I" } : Jvm.MethodName) : Cond) ∈ BW := bw 1697 (by decide +kernel) rfl
theorem bw_1698 : (Jvm.Cond.selects "HumUnheardModel" ({ cls := "HumUnheardModel", name := "loudest", desc := "(II)I" } : Jvm.MethodName) ({ cls := "HumUnheardModel", name := "loudest", desc := "(II)I" } : Jvm.MethodName) : Cond) ∈ BW := bw 1698 (by decide +kernel) rfl
theorem gL_128 : ∀ z, xCv (Cf z) RL 128 MX11_loudest 2 := fun z => ⟨cmX11_loudest z, bw_1696, bw_1697, bw_1698⟩
theorem bw_946 : (Jvm.Cond.code ({ cls := "HumUnheard", name := "press", desc := "(IZ)I" } : Jvm.MethodName) prog_1_method_28_code (3 : Nat) (Option.some Jvm.ClassFile.FieldType.int) : Cond) ∈ BW := bw 946 (by decide +kernel) rfl
theorem cmX10_press : ∀ z, xCm (Cf z) MX10_press 2 := fun z => ⟨bw_80, bw_946, by decide +kernel, by decide, by decide +kernel⟩
theorem bw_943 : (Jvm.Cond.methodLink "HumUnheardLaw" (129 : Nat) ({ cls := "HumUnheard", name := "press", desc := "(IZ)I" } : Jvm.MethodName) : Cond) ∈ BW := bw 943 (by decide +kernel) rfl
theorem bw_944 : (Jvm.Cond.instanceMethod ({ cls := "HumUnheard", name := "press", desc := "(IZ)I" } : Jvm.MethodName) : Cond) ∈ BW := bw 944 (by decide +kernel) rfl
theorem bw_945 : (Jvm.Cond.selects "HumUnheard" ({ cls := "HumUnheard", name := "press", desc := "(IZ)I" } : Jvm.MethodName) ({ cls := "HumUnheard", name := "press", desc := "(IZ)I" } : Jvm.MethodName) : Cond) ∈ BW := bw 945 (by decide +kernel) rfl
theorem gL_129 : ∀ z, xCv (Cf z) RL 129 MX10_press 2 := fun z => ⟨cmX10_press z, bw_943, bw_944, bw_945⟩
theorem bw_1703 : (Jvm.Cond.code ({ cls := "HumUnheardModel", name := "press", desc := "(IZ)I" } : Jvm.MethodName) prog_13_method_64_code (3 : Nat) (Option.some Jvm.ClassFile.FieldType.int) : Cond) ∈ BW := bw 1703 (by decide +kernel) rfl
theorem cmX11_press : ∀ z, xCm (Cf z) MX11_press 2 := fun z => ⟨bw_92, bw_1703, by decide +kernel, by decide, by decide +kernel⟩
theorem bw_1700 : (Jvm.Cond.methodLink "HumUnheardLaw" (132 : Nat) ({ cls := "HumUnheardModel", name := "press", desc := "(IZ)I" } : Jvm.MethodName) : Cond) ∈ BW := bw 1700 (by decide +kernel) rfl
theorem bw_1701 : (Jvm.Cond.instanceMethod ({ cls := "HumUnheardModel", name := "press", desc := "(IZ)I" } : Jvm.MethodName) : Cond) ∈ BW := bw 1701 (by decide +kernel) rfl
theorem bw_1702 : (Jvm.Cond.selects "HumUnheardModel" ({ cls := "HumUnheardModel", name := "press", desc := "(IZ)I" } : Jvm.MethodName) ({ cls := "HumUnheardModel", name := "press", desc := "(IZ)I" } : Jvm.MethodName) : Cond) ∈ BW := bw 1702 (by decide +kernel) rfl
theorem gL_132 : ∀ z, xCv (Cf z) RL 132 MX11_press 2 := fun z => ⟨cmX11_press z, bw_1700, bw_1701, bw_1702⟩
theorem bw_958 : (Jvm.Cond.code ({ cls := "HumUnheard", name := "pressed", desc := "(IIII)I" } : Jvm.MethodName) prog_1_method_29_code (7 : Nat) (Option.some Jvm.ClassFile.FieldType.int) : Cond) ∈ BW := bw 958 (by decide +kernel) rfl
theorem cmX10_pressed : ∀ z, xCm (Cf z) MX10_pressed 4 := fun z => ⟨bw_80, bw_958, by decide +kernel, by decide, by decide +kernel⟩
theorem bw_955 : (Jvm.Cond.methodLink "HumUnheardLaw" (133 : Nat) ({ cls := "HumUnheard", name := "pressed", desc := "(IIII)I" } : Jvm.MethodName) : Cond) ∈ BW := bw 955 (by decide +kernel) rfl
theorem bw_956 : (Jvm.Cond.instanceMethod ({ cls := "HumUnheard", name := "pressed", desc := "(IIII)I" } : Jvm.MethodName) : Cond) ∈ BW := bw 956 (by decide +kernel) rfl
theorem bw_957 : (Jvm.Cond.selects "HumUnheard" ({ cls := "HumUnheard", name := "pressed", desc := "(IIII)I" } : Jvm.MethodName) ({ cls := "HumUnheard", name := "pressed", desc := "(IIII)I" } : Jvm.MethodName) : Cond) ∈ BW := bw 957 (by decide +kernel) rfl
theorem gL_133 : ∀ z, xCv (Cf z) RL 133 MX10_pressed 4 := fun z => ⟨cmX10_pressed z, bw_955, bw_956, bw_957⟩
theorem bw_1711 : (Jvm.Cond.code ({ cls := "HumUnheardModel", name := "pressed", desc := "(IIII)I" } : Jvm.MethodName) prog_13_method_65_code (8 : Nat) (Option.some Jvm.ClassFile.FieldType.int) : Cond) ∈ BW := bw 1711 (by decide +kernel) rfl
theorem cmX11_pressed_ : ∀ z, xCm (Cf z) MX11_pressed_ 4 := fun z => ⟨bw_92, bw_1711, by decide +kernel, by decide, by decide +kernel⟩
theorem bw_1708 : (Jvm.Cond.methodLink "HumUnheardLaw" (136 : Nat) ({ cls := "HumUnheardModel", name := "pressed", desc := "(IIII)I" } : Jvm.MethodName) : Cond) ∈ BW := bw 1708 (by decide +kernel) rfl
theorem bw_1709 : (Jvm.Cond.instanceMethod ({ cls := "HumUnheardModel", name := "pressed", desc := "(IIII)I" } : Jvm.MethodName) : Cond) ∈ BW := bw 1709 (by decide +kernel) rfl
theorem bw_1710 : (Jvm.Cond.selects "HumUnheardModel" ({ cls := "HumUnheardModel", name := "pressed", desc := "(IIII)I" } : Jvm.MethodName) ({ cls := "HumUnheardModel", name := "pressed", desc := "(IIII)I" } : Jvm.MethodName) : Cond) ∈ BW := bw 1710 (by decide +kernel) rfl
theorem gL_136 : ∀ z, xCv (Cf z) RL 136 MX11_pressed_ 4 := fun z => ⟨cmX11_pressed_ z, bw_1708, bw_1709, bw_1710⟩
theorem bw_978 : (Jvm.Cond.code ({ cls := "HumUnheard", name := "match", desc := "(II)I" } : Jvm.MethodName) prog_1_method_30_code (3 : Nat) (Option.some Jvm.ClassFile.FieldType.int) : Cond) ∈ BW := bw 978 (by decide +kernel) rfl
theorem cmX10_match : ∀ z, xCm (Cf z) MX10_match 2 := fun z => ⟨bw_80, bw_978, by decide +kernel, by decide, by decide +kernel⟩
theorem bw_975 : (Jvm.Cond.methodLink "HumUnheardLaw" (137 : Nat) ({ cls := "HumUnheard", name := "match", desc := "(II)I" } : Jvm.MethodName) : Cond) ∈ BW := bw 975 (by decide +kernel) rfl
theorem bw_976 : (Jvm.Cond.instanceMethod ({ cls := "HumUnheard", name := "match", desc := "(II)I" } : Jvm.MethodName) : Cond) ∈ BW := bw 976 (by decide +kernel) rfl
theorem bw_977 : (Jvm.Cond.selects "HumUnheard" ({ cls := "HumUnheard", name := "match", desc := "(II)I" } : Jvm.MethodName) ({ cls := "HumUnheard", name := "match", desc := "(II)I" } : Jvm.MethodName) : Cond) ∈ BW := bw 977 (by decide +kernel) rfl
theorem gL_137 : ∀ z, xCv (Cf z) RL 137 MX10_match 2 := fun z => ⟨cmX10_match z, bw_975, bw_976, bw_977⟩
theorem bw_1719 : (Jvm.Cond.code ({ cls := "HumUnheardModel", name := "match", desc := "(II)I" } : Jvm.MethodName) prog_13_method_66_code (3 : Nat) (Option.some Jvm.ClassFile.FieldType.int) : Cond) ∈ BW := bw 1719 (by decide +kernel) rfl
theorem cmX11_match : ∀ z, xCm (Cf z) MX11_match 2 := fun z => ⟨bw_92, bw_1719, by decide +kernel, by decide, by decide +kernel⟩
theorem bw_1716 : (Jvm.Cond.methodLink "HumUnheardLaw" (140 : Nat) ({ cls := "HumUnheardModel", name := "match", desc := "(II)I" } : Jvm.MethodName) : Cond) ∈ BW := bw 1716 (by decide +kernel) rfl
theorem bw_1717 : (Jvm.Cond.instanceMethod ({ cls := "HumUnheardModel", name := "match", desc := "(II)I" } : Jvm.MethodName) : Cond) ∈ BW := bw 1717 (by decide +kernel) rfl
theorem bw_1718 : (Jvm.Cond.selects "HumUnheardModel" ({ cls := "HumUnheardModel", name := "match", desc := "(II)I" } : Jvm.MethodName) ({ cls := "HumUnheardModel", name := "match", desc := "(II)I" } : Jvm.MethodName) : Cond) ∈ BW := bw 1718 (by decide +kernel) rfl
theorem gL_140 : ∀ z, xCv (Cf z) RL 140 MX11_match 2 := fun z => ⟨cmX11_match z, bw_1716, bw_1717, bw_1718⟩
theorem bw_986 : (Jvm.Cond.code ({ cls := "HumUnheard", name := "letter", desc := "(II)I" } : Jvm.MethodName) prog_1_method_31_code (3 : Nat) (Option.some Jvm.ClassFile.FieldType.int) : Cond) ∈ BW := bw 986 (by decide +kernel) rfl
theorem cmX10_letter : ∀ z, xCm (Cf z) MX10_letter 2 := fun z => ⟨bw_80, bw_986, by decide +kernel, by decide, by decide +kernel⟩
theorem bw_983 : (Jvm.Cond.methodLink "HumUnheardLaw" (141 : Nat) ({ cls := "HumUnheard", name := "letter", desc := "(II)I" } : Jvm.MethodName) : Cond) ∈ BW := bw 983 (by decide +kernel) rfl
theorem bw_984 : (Jvm.Cond.instanceMethod ({ cls := "HumUnheard", name := "letter", desc := "(II)I" } : Jvm.MethodName) : Cond) ∈ BW := bw 984 (by decide +kernel) rfl
theorem bw_985 : (Jvm.Cond.selects "HumUnheard" ({ cls := "HumUnheard", name := "letter", desc := "(II)I" } : Jvm.MethodName) ({ cls := "HumUnheard", name := "letter", desc := "(II)I" } : Jvm.MethodName) : Cond) ∈ BW := bw 985 (by decide +kernel) rfl
theorem gL_141 : ∀ z, xCv (Cf z) RL 141 MX10_letter 2 := fun z => ⟨cmX10_letter z, bw_983, bw_984, bw_985⟩
theorem bw_1723 : (Jvm.Cond.code ({ cls := "HumUnheardModel", name := "letter", desc := "(II)I" } : Jvm.MethodName) prog_13_method_67_code (3 : Nat) (Option.some Jvm.ClassFile.FieldType.int) : Cond) ∈ BW := bw 1723 (by decide +kernel) rfl
theorem cmX11_letter_ : ∀ z, xCm (Cf z) MX11_letter_ 2 := fun z => ⟨bw_92, bw_1723, by decide +kernel, by decide, by decide +kernel⟩
theorem bw_1720 : (Jvm.Cond.methodLink "HumUnheardLaw" (144 : Nat) ({ cls := "HumUnheardModel", name := "letter", desc := "(II)I" } : Jvm.MethodName) : Cond) ∈ BW := bw 1720 (by decide +kernel) rfl
theorem bw_1721 : (Jvm.Cond.instanceMethod ({ cls := "HumUnheardModel", name := "letter", desc := "(II)I" } : Jvm.MethodName) : Cond) ∈ BW := bw 1721 (by decide +kernel) rfl
theorem bw_1722 : (Jvm.Cond.selects "HumUnheardModel" ({ cls := "HumUnheardModel", name := "letter", desc := "(II)I" } : Jvm.MethodName) ({ cls := "HumUnheardModel", name := "letter", desc := "(II)I" } : Jvm.MethodName) : Cond) ∈ BW := bw 1722 (by decide +kernel) rfl
theorem gL_144 : ∀ z, xCv (Cf z) RL 144 MX11_letter_ 2 := fun z => ⟨cmX11_letter_ z, bw_1720, bw_1721, bw_1722⟩
theorem bw_994 : (Jvm.Cond.code ({ cls := "HumUnheard", name := "odds", desc := "(II)J" } : Jvm.MethodName) prog_1_method_32_code (3 : Nat) (Option.some Jvm.ClassFile.FieldType.long) : Cond) ∈ BW := bw 994 (by decide +kernel) rfl
theorem cmX10_odds : ∀ z, xCm (Cf z) MX10_odds 2 := fun z => ⟨bw_80, bw_994, by decide +kernel, by decide, by decide +kernel⟩
theorem bw_991 : (Jvm.Cond.methodLink "HumUnheardLaw" (145 : Nat) ({ cls := "HumUnheard", name := "odds", desc := "(II)J" } : Jvm.MethodName) : Cond) ∈ BW := bw 991 (by decide +kernel) rfl
theorem bw_992 : (Jvm.Cond.instanceMethod ({ cls := "HumUnheard", name := "odds", desc := "(II)J" } : Jvm.MethodName) : Cond) ∈ BW := bw 992 (by decide +kernel) rfl
theorem bw_993 : (Jvm.Cond.selects "HumUnheard" ({ cls := "HumUnheard", name := "odds", desc := "(II)J" } : Jvm.MethodName) ({ cls := "HumUnheard", name := "odds", desc := "(II)J" } : Jvm.MethodName) : Cond) ∈ BW := bw 993 (by decide +kernel) rfl
theorem gL_145 : ∀ z, xCv (Cf z) RL 145 MX10_odds 2 := fun z => ⟨cmX10_odds z, bw_991, bw_992, bw_993⟩
theorem bw_1727 : (Jvm.Cond.code ({ cls := "HumUnheardModel", name := "odds", desc := "(II)J" } : Jvm.MethodName) prog_13_method_69_code (3 : Nat) (Option.some Jvm.ClassFile.FieldType.long) : Cond) ∈ BW := bw 1727 (by decide +kernel) rfl
theorem cmX11_odds : ∀ z, xCm (Cf z) MX11_odds 2 := fun z => ⟨bw_92, bw_1727, by decide +kernel, by decide, by decide +kernel⟩
theorem bw_1724 : (Jvm.Cond.methodLink "HumUnheardLaw" (148 : Nat) ({ cls := "HumUnheardModel", name := "odds", desc := "(II)J" } : Jvm.MethodName) : Cond) ∈ BW := bw 1724 (by decide +kernel) rfl
theorem bw_1725 : (Jvm.Cond.instanceMethod ({ cls := "HumUnheardModel", name := "odds", desc := "(II)J" } : Jvm.MethodName) : Cond) ∈ BW := bw 1725 (by decide +kernel) rfl
theorem bw_1726 : (Jvm.Cond.selects "HumUnheardModel" ({ cls := "HumUnheardModel", name := "odds", desc := "(II)J" } : Jvm.MethodName) ({ cls := "HumUnheardModel", name := "odds", desc := "(II)J" } : Jvm.MethodName) : Cond) ∈ BW := bw 1726 (by decide +kernel) rfl
theorem gL_148 : ∀ z, xCv (Cf z) RL 148 MX11_odds 2 := fun z => ⟨cmX11_odds z, bw_1724, bw_1725, bw_1726⟩
theorem bw_1022 : (Jvm.Cond.code ({ cls := "HumUnheard", name := "sure", desc := "(II)I" } : Jvm.MethodName) prog_1_method_33_code (3 : Nat) (Option.some Jvm.ClassFile.FieldType.int) : Cond) ∈ BW := bw 1022 (by decide +kernel) rfl
theorem cmX10_sure : ∀ z, xCm (Cf z) MX10_sure 2 := fun z => ⟨bw_80, bw_1022, by decide +kernel, by decide, by decide +kernel⟩
theorem bw_1019 : (Jvm.Cond.methodLink "HumUnheardLaw" (149 : Nat) ({ cls := "HumUnheard", name := "sure", desc := "(II)I" } : Jvm.MethodName) : Cond) ∈ BW := bw 1019 (by decide +kernel) rfl
theorem bw_1020 : (Jvm.Cond.instanceMethod ({ cls := "HumUnheard", name := "sure", desc := "(II)I" } : Jvm.MethodName) : Cond) ∈ BW := bw 1020 (by decide +kernel) rfl
theorem bw_1021 : (Jvm.Cond.selects "HumUnheard" ({ cls := "HumUnheard", name := "sure", desc := "(II)I" } : Jvm.MethodName) ({ cls := "HumUnheard", name := "sure", desc := "(II)I" } : Jvm.MethodName) : Cond) ∈ BW := bw 1021 (by decide +kernel) rfl
theorem gL_149 : ∀ z, xCv (Cf z) RL 149 MX10_sure 2 := fun z => ⟨cmX10_sure z, bw_1019, bw_1020, bw_1021⟩
theorem bw_1735 : (Jvm.Cond.code ({ cls := "HumUnheardModel", name := "sure", desc := "(II)I" } : Jvm.MethodName) prog_13_method_70_code (11 : Nat) (Option.some Jvm.ClassFile.FieldType.int) : Cond) ∈ BW := bw 1735 (by decide +kernel) rfl
theorem cmX11_sure : ∀ z, xCm (Cf z) MX11_sure 2 := fun z => ⟨bw_92, bw_1735, by decide +kernel, by decide, by decide +kernel⟩
theorem bw_1732 : (Jvm.Cond.methodLink "HumUnheardLaw" (152 : Nat) ({ cls := "HumUnheardModel", name := "sure", desc := "(II)I" } : Jvm.MethodName) : Cond) ∈ BW := bw 1732 (by decide +kernel) rfl
theorem bw_1733 : (Jvm.Cond.instanceMethod ({ cls := "HumUnheardModel", name := "sure", desc := "(II)I" } : Jvm.MethodName) : Cond) ∈ BW := bw 1733 (by decide +kernel) rfl
theorem bw_1734 : (Jvm.Cond.selects "HumUnheardModel" ({ cls := "HumUnheardModel", name := "sure", desc := "(II)I" } : Jvm.MethodName) ({ cls := "HumUnheardModel", name := "sure", desc := "(II)I" } : Jvm.MethodName) : Cond) ∈ BW := bw 1734 (by decide +kernel) rfl
theorem gL_152 : ∀ z, xCv (Cf z) RL 152 MX11_sure 2 := fun z => ⟨cmX11_sure z, bw_1732, bw_1733, bw_1734⟩
theorem bw_1031 : (Jvm.Cond.code ({ cls := "HumUnheard", name := "could", desc := "(II)I" } : Jvm.MethodName) prog_1_method_34_code (3 : Nat) (Option.some Jvm.ClassFile.FieldType.int) : Cond) ∈ BW := bw 1031 (by decide +kernel) rfl
theorem cmX10_could : ∀ z, xCm (Cf z) MX10_could 2 := fun z => ⟨bw_80, bw_1031, by decide +kernel, by decide, by decide +kernel⟩
theorem bw_1028 : (Jvm.Cond.methodLink "HumUnheardLaw" (153 : Nat) ({ cls := "HumUnheard", name := "could", desc := "(II)I" } : Jvm.MethodName) : Cond) ∈ BW := bw 1028 (by decide +kernel) rfl
theorem bw_1029 : (Jvm.Cond.instanceMethod ({ cls := "HumUnheard", name := "could", desc := "(II)I" } : Jvm.MethodName) : Cond) ∈ BW := bw 1029 (by decide +kernel) rfl
theorem bw_1030 : (Jvm.Cond.selects "HumUnheard" ({ cls := "HumUnheard", name := "could", desc := "(II)I" } : Jvm.MethodName) ({ cls := "HumUnheard", name := "could", desc := "(II)I" } : Jvm.MethodName) : Cond) ∈ BW := bw 1030 (by decide +kernel) rfl
theorem gL_153 : ∀ z, xCv (Cf z) RL 153 MX10_could 2 := fun z => ⟨cmX10_could z, bw_1028, bw_1029, bw_1030⟩
theorem bw_1740 : (Jvm.Cond.code ({ cls := "HumUnheardModel", name := "could", desc := "(II)I" } : Jvm.MethodName) prog_13_method_71_code (5 : Nat) (Option.some Jvm.ClassFile.FieldType.int) : Cond) ∈ BW := bw 1740 (by decide +kernel) rfl
theorem cmX11_could : ∀ z, xCm (Cf z) MX11_could 2 := fun z => ⟨bw_92, bw_1740, by decide +kernel, by decide, by decide +kernel⟩
theorem bw_1737 : (Jvm.Cond.methodLink "HumUnheardLaw" (156 : Nat) ({ cls := "HumUnheardModel", name := "could", desc := "(II)I" } : Jvm.MethodName) : Cond) ∈ BW := bw 1737 (by decide +kernel) rfl
theorem bw_1738 : (Jvm.Cond.instanceMethod ({ cls := "HumUnheardModel", name := "could", desc := "(II)I" } : Jvm.MethodName) : Cond) ∈ BW := bw 1738 (by decide +kernel) rfl
theorem bw_1739 : (Jvm.Cond.selects "HumUnheardModel" ({ cls := "HumUnheardModel", name := "could", desc := "(II)I" } : Jvm.MethodName) ({ cls := "HumUnheardModel", name := "could", desc := "(II)I" } : Jvm.MethodName) : Cond) ∈ BW := bw 1739 (by decide +kernel) rfl
theorem gL_156 : ∀ z, xCv (Cf z) RL 156 MX11_could 2 := fun z => ⟨cmX11_could z, bw_1737, bw_1738, bw_1739⟩
theorem bw_1041 : (Jvm.Cond.code ({ cls := "HumUnheard", name := "lacks", desc := "(I)I" } : Jvm.MethodName) prog_1_method_35_code (2 : Nat) (Option.some Jvm.ClassFile.FieldType.int) : Cond) ∈ BW := bw 1041 (by decide +kernel) rfl
theorem cmX10_lacks : ∀ z, xCm (Cf z) MX10_lacks 1 := fun z => ⟨bw_80, bw_1041, by decide +kernel, by decide, by decide +kernel⟩
theorem bw_1038 : (Jvm.Cond.methodLink "HumUnheardLaw" (157 : Nat) ({ cls := "HumUnheard", name := "lacks", desc := "(I)I" } : Jvm.MethodName) : Cond) ∈ BW := bw 1038 (by decide +kernel) rfl
theorem bw_1039 : (Jvm.Cond.instanceMethod ({ cls := "HumUnheard", name := "lacks", desc := "(I)I" } : Jvm.MethodName) : Cond) ∈ BW := bw 1039 (by decide +kernel) rfl
theorem bw_1040 : (Jvm.Cond.selects "HumUnheard" ({ cls := "HumUnheard", name := "lacks", desc := "(I)I" } : Jvm.MethodName) ({ cls := "HumUnheard", name := "lacks", desc := "(I)I" } : Jvm.MethodName) : Cond) ∈ BW := bw 1040 (by decide +kernel) rfl
theorem gL_157 : ∀ z, xCv (Cf z) RL 157 MX10_lacks 1 := fun z => ⟨cmX10_lacks z, bw_1038, bw_1039, bw_1040⟩
theorem bw_1744 : (Jvm.Cond.code ({ cls := "HumUnheardModel", name := "lacks", desc := "(I)I" } : Jvm.MethodName) prog_13_method_72_code (5 : Nat) (Option.some Jvm.ClassFile.FieldType.int) : Cond) ∈ BW := bw 1744 (by decide +kernel) rfl
theorem cmX11_lacks : ∀ z, xCm (Cf z) MX11_lacks 1 := fun z => ⟨bw_92, bw_1744, by decide +kernel, by decide, by decide +kernel⟩
theorem bw_1741 : (Jvm.Cond.methodLink "HumUnheardLaw" (160 : Nat) ({ cls := "HumUnheardModel", name := "lacks", desc := "(I)I" } : Jvm.MethodName) : Cond) ∈ BW := bw 1741 (by decide +kernel) rfl
theorem bw_1742 : (Jvm.Cond.instanceMethod ({ cls := "HumUnheardModel", name := "lacks", desc := "(I)I" } : Jvm.MethodName) : Cond) ∈ BW := bw 1742 (by decide +kernel) rfl
theorem bw_1743 : (Jvm.Cond.selects "HumUnheardModel" ({ cls := "HumUnheardModel", name := "lacks", desc := "(I)I" } : Jvm.MethodName) ({ cls := "HumUnheardModel", name := "lacks", desc := "(I)I" } : Jvm.MethodName) : Cond) ∈ BW := bw 1743 (by decide +kernel) rfl
theorem gL_160 : ∀ z, xCv (Cf z) RL 160 MX11_lacks 1 := fun z => ⟨cmX11_lacks z, bw_1741, bw_1742, bw_1743⟩
theorem bw_1061 : (Jvm.Cond.code ({ cls := "HumUnheard", name := "rid", desc := "(III)I" } : Jvm.MethodName) prog_1_method_37_code (4 : Nat) (Option.some Jvm.ClassFile.FieldType.int) : Cond) ∈ BW := bw 1061 (by decide +kernel) rfl
theorem cmX10_rid : ∀ z, xCm (Cf z) MX10_rid 3 := fun z => ⟨bw_80, bw_1061, by decide +kernel, by decide, by decide +kernel⟩
theorem bw_1058 : (Jvm.Cond.methodLink "HumUnheardLaw" (161 : Nat) ({ cls := "HumUnheard", name := "rid", desc := "(III)I" } : Jvm.MethodName) : Cond) ∈ BW := bw 1058 (by decide +kernel) rfl
theorem bw_1059 : (Jvm.Cond.instanceMethod ({ cls := "HumUnheard", name := "rid", desc := "(III)I" } : Jvm.MethodName) : Cond) ∈ BW := bw 1059 (by decide +kernel) rfl
theorem bw_1060 : (Jvm.Cond.selects "HumUnheard" ({ cls := "HumUnheard", name := "rid", desc := "(III)I" } : Jvm.MethodName) ({ cls := "HumUnheard", name := "rid", desc := "(III)I" } : Jvm.MethodName) : Cond) ∈ BW := bw 1060 (by decide +kernel) rfl
theorem gL_161 : ∀ z, xCv (Cf z) RL 161 MX10_rid 3 := fun z => ⟨cmX10_rid z, bw_1058, bw_1059, bw_1060⟩
theorem bw_1748 : (Jvm.Cond.code ({ cls := "HumUnheardModel", name := "rid", desc := "(III)I" } : Jvm.MethodName) prog_13_method_75_code (4 : Nat) (Option.some Jvm.ClassFile.FieldType.int) : Cond) ∈ BW := bw 1748 (by decide +kernel) rfl
theorem cmX11_rid : ∀ z, xCm (Cf z) MX11_rid 3 := fun z => ⟨bw_92, bw_1748, by decide +kernel, by decide, by decide +kernel⟩
theorem bw_1745 : (Jvm.Cond.methodLink "HumUnheardLaw" (164 : Nat) ({ cls := "HumUnheardModel", name := "rid", desc := "(III)I" } : Jvm.MethodName) : Cond) ∈ BW := bw 1745 (by decide +kernel) rfl
theorem bw_1746 : (Jvm.Cond.instanceMethod ({ cls := "HumUnheardModel", name := "rid", desc := "(III)I" } : Jvm.MethodName) : Cond) ∈ BW := bw 1746 (by decide +kernel) rfl
theorem bw_1747 : (Jvm.Cond.selects "HumUnheardModel" ({ cls := "HumUnheardModel", name := "rid", desc := "(III)I" } : Jvm.MethodName) ({ cls := "HumUnheardModel", name := "rid", desc := "(III)I" } : Jvm.MethodName) : Cond) ∈ BW := bw 1747 (by decide +kernel) rfl
theorem gL_164 : ∀ z, xCv (Cf z) RL 164 MX11_rid 3 := fun z => ⟨cmX11_rid z, bw_1745, bw_1746, bw_1747⟩
theorem bw_1081 : (Jvm.Cond.code ({ cls := "HumUnheard", name := "best", desc := "(III)I" } : Jvm.MethodName) prog_1_method_38_code (4 : Nat) (Option.some Jvm.ClassFile.FieldType.int) : Cond) ∈ BW := bw 1081 (by decide +kernel) rfl
theorem cmX10_best : ∀ z, xCm (Cf z) MX10_best 3 := fun z => ⟨bw_80, bw_1081, by decide +kernel, by decide, by decide +kernel⟩
theorem bw_1078 : (Jvm.Cond.methodLink "HumUnheardLaw" (165 : Nat) ({ cls := "HumUnheard", name := "best", desc := "(III)I" } : Jvm.MethodName) : Cond) ∈ BW := bw 1078 (by decide +kernel) rfl
theorem bw_1079 : (Jvm.Cond.instanceMethod ({ cls := "HumUnheard", name := "best", desc := "(III)I" } : Jvm.MethodName) : Cond) ∈ BW := bw 1079 (by decide +kernel) rfl
theorem bw_1080 : (Jvm.Cond.selects "HumUnheard" ({ cls := "HumUnheard", name := "best", desc := "(III)I" } : Jvm.MethodName) ({ cls := "HumUnheard", name := "best", desc := "(III)I" } : Jvm.MethodName) : Cond) ∈ BW := bw 1080 (by decide +kernel) rfl
theorem gL_165 : ∀ z, xCv (Cf z) RL 165 MX10_best 3 := fun z => ⟨cmX10_best z, bw_1078, bw_1079, bw_1080⟩
theorem bw_1772 : (Jvm.Cond.code ({ cls := "HumUnheardModel", name := "best", desc := "(III)I" } : Jvm.MethodName) prog_13_method_76_code (11 : Nat) (Option.some Jvm.ClassFile.FieldType.int) : Cond) ∈ BW := bw 1772 (by decide +kernel) rfl
theorem cmX11_best : ∀ z, xCm (Cf z) MX11_best 3 := fun z => ⟨bw_92, bw_1772, by decide +kernel, by decide, by decide +kernel⟩
theorem bw_1769 : (Jvm.Cond.methodLink "HumUnheardLaw" (168 : Nat) ({ cls := "HumUnheardModel", name := "best", desc := "(III)I" } : Jvm.MethodName) : Cond) ∈ BW := bw 1769 (by decide +kernel) rfl
theorem bw_1770 : (Jvm.Cond.instanceMethod ({ cls := "HumUnheardModel", name := "best", desc := "(III)I" } : Jvm.MethodName) : Cond) ∈ BW := bw 1770 (by decide +kernel) rfl
theorem bw_1771 : (Jvm.Cond.selects "HumUnheardModel" ({ cls := "HumUnheardModel", name := "best", desc := "(III)I" } : Jvm.MethodName) ({ cls := "HumUnheardModel", name := "best", desc := "(III)I" } : Jvm.MethodName) : Cond) ∈ BW := bw 1771 (by decide +kernel) rfl
theorem gL_168 : ∀ z, xCv (Cf z) RL 168 MX11_best 3 := fun z => ⟨cmX11_best z, bw_1769, bw_1770, bw_1771⟩
theorem bw_1102 : (Jvm.Cond.code ({ cls := "HumUnheard", name := "lots", desc := "(II)I" } : Jvm.MethodName) prog_1_method_39_code (6 : Nat) (Option.some Jvm.ClassFile.FieldType.int) : Cond) ∈ BW := bw 1102 (by decide +kernel) rfl
theorem cmX10_lots : ∀ z, xCm (Cf z) MX10_lots 2 := fun z => ⟨bw_80, bw_1102, by decide +kernel, by decide, by decide +kernel⟩
theorem bw_1099 : (Jvm.Cond.methodLink "HumUnheardLaw" (169 : Nat) ({ cls := "HumUnheard", name := "lots", desc := "(II)I" } : Jvm.MethodName) : Cond) ∈ BW := bw 1099 (by decide +kernel) rfl
theorem bw_1100 : (Jvm.Cond.instanceMethod ({ cls := "HumUnheard", name := "lots", desc := "(II)I" } : Jvm.MethodName) : Cond) ∈ BW := bw 1100 (by decide +kernel) rfl
theorem bw_1101 : (Jvm.Cond.selects "HumUnheard" ({ cls := "HumUnheard", name := "lots", desc := "(II)I" } : Jvm.MethodName) ({ cls := "HumUnheard", name := "lots", desc := "(II)I" } : Jvm.MethodName) : Cond) ∈ BW := bw 1101 (by decide +kernel) rfl
theorem gL_169 : ∀ z, xCv (Cf z) RL 169 MX10_lots 2 := fun z => ⟨cmX10_lots z, bw_1099, bw_1100, bw_1101⟩
theorem bw_1776 : (Jvm.Cond.code ({ cls := "HumUnheardModel", name := "lots", desc := "(II)I" } : Jvm.MethodName) prog_13_method_77_code (8 : Nat) (Option.some Jvm.ClassFile.FieldType.int) : Cond) ∈ BW := bw 1776 (by decide +kernel) rfl
theorem cmX11_lots : ∀ z, xCm (Cf z) MX11_lots 2 := fun z => ⟨bw_92, bw_1776, by decide +kernel, by decide, by decide +kernel⟩
theorem bw_1773 : (Jvm.Cond.methodLink "HumUnheardLaw" (172 : Nat) ({ cls := "HumUnheardModel", name := "lots", desc := "(II)I" } : Jvm.MethodName) : Cond) ∈ BW := bw 1773 (by decide +kernel) rfl
theorem bw_1774 : (Jvm.Cond.instanceMethod ({ cls := "HumUnheardModel", name := "lots", desc := "(II)I" } : Jvm.MethodName) : Cond) ∈ BW := bw 1774 (by decide +kernel) rfl
theorem bw_1775 : (Jvm.Cond.selects "HumUnheardModel" ({ cls := "HumUnheardModel", name := "lots", desc := "(II)I" } : Jvm.MethodName) ({ cls := "HumUnheardModel", name := "lots", desc := "(II)I" } : Jvm.MethodName) : Cond) ∈ BW := bw 1775 (by decide +kernel) rfl
theorem gL_172 : ∀ z, xCv (Cf z) RL 172 MX11_lots 2 := fun z => ⟨cmX11_lots z, bw_1773, bw_1774, bw_1775⟩
theorem bw_1106 : (Jvm.Cond.code ({ cls := "HumUnheard", name := "need", desc := "(I)I" } : Jvm.MethodName) prog_1_method_40_code (2 : Nat) (Option.some Jvm.ClassFile.FieldType.int) : Cond) ∈ BW := bw 1106 (by decide +kernel) rfl
theorem cmX10_need : ∀ z, xCm (Cf z) MX10_need 1 := fun z => ⟨bw_80, bw_1106, by decide +kernel, by decide, by decide +kernel⟩
theorem bw_1103 : (Jvm.Cond.methodLink "HumUnheardLaw" (173 : Nat) ({ cls := "HumUnheard", name := "need", desc := "(I)I" } : Jvm.MethodName) : Cond) ∈ BW := bw 1103 (by decide +kernel) rfl
theorem bw_1104 : (Jvm.Cond.instanceMethod ({ cls := "HumUnheard", name := "need", desc := "(I)I" } : Jvm.MethodName) : Cond) ∈ BW := bw 1104 (by decide +kernel) rfl
theorem bw_1105 : (Jvm.Cond.selects "HumUnheard" ({ cls := "HumUnheard", name := "need", desc := "(I)I" } : Jvm.MethodName) ({ cls := "HumUnheard", name := "need", desc := "(I)I" } : Jvm.MethodName) : Cond) ∈ BW := bw 1105 (by decide +kernel) rfl
theorem gL_173 : ∀ z, xCv (Cf z) RL 173 MX10_need 1 := fun z => ⟨cmX10_need z, bw_1103, bw_1104, bw_1105⟩
theorem bw_1780 : (Jvm.Cond.code ({ cls := "HumUnheardModel", name := "need", desc := "(I)I" } : Jvm.MethodName) prog_13_method_78_code (3 : Nat) (Option.some Jvm.ClassFile.FieldType.int) : Cond) ∈ BW := bw 1780 (by decide +kernel) rfl
theorem cmX11_need_ : ∀ z, xCm (Cf z) MX11_need_ 1 := fun z => ⟨bw_92, bw_1780, by decide +kernel, by decide, by decide +kernel⟩
theorem bw_1777 : (Jvm.Cond.methodLink "HumUnheardLaw" (176 : Nat) ({ cls := "HumUnheardModel", name := "need", desc := "(I)I" } : Jvm.MethodName) : Cond) ∈ BW := bw 1777 (by decide +kernel) rfl
theorem bw_1778 : (Jvm.Cond.instanceMethod ({ cls := "HumUnheardModel", name := "need", desc := "(I)I" } : Jvm.MethodName) : Cond) ∈ BW := bw 1778 (by decide +kernel) rfl
theorem bw_1779 : (Jvm.Cond.selects "HumUnheardModel" ({ cls := "HumUnheardModel", name := "need", desc := "(I)I" } : Jvm.MethodName) ({ cls := "HumUnheardModel", name := "need", desc := "(I)I" } : Jvm.MethodName) : Cond) ∈ BW := bw 1779 (by decide +kernel) rfl
theorem gL_176 : ∀ z, xCv (Cf z) RL 176 MX11_need_ 1 := fun z => ⟨cmX11_need_ z, bw_1777, bw_1778, bw_1779⟩
theorem bw_1053 : (Jvm.Cond.code ({ cls := "HumUnheard", name := "told", desc := "(I)I" } : Jvm.MethodName) prog_1_method_36_code (2 : Nat) (Option.some Jvm.ClassFile.FieldType.int) : Cond) ∈ BW := bw 1053 (by decide +kernel) rfl
theorem cmX10_told : ∀ z, xCm (Cf z) MX10_told 1 := fun z => ⟨bw_80, bw_1053, by decide +kernel, by decide, by decide +kernel⟩
theorem bw_1050 : (Jvm.Cond.methodLink "HumUnheardLaw" (177 : Nat) ({ cls := "HumUnheard", name := "told", desc := "(I)I" } : Jvm.MethodName) : Cond) ∈ BW := bw 1050 (by decide +kernel) rfl
theorem bw_1051 : (Jvm.Cond.instanceMethod ({ cls := "HumUnheard", name := "told", desc := "(I)I" } : Jvm.MethodName) : Cond) ∈ BW := bw 1051 (by decide +kernel) rfl
theorem bw_1052 : (Jvm.Cond.selects "HumUnheard" ({ cls := "HumUnheard", name := "told", desc := "(I)I" } : Jvm.MethodName) ({ cls := "HumUnheard", name := "told", desc := "(I)I" } : Jvm.MethodName) : Cond) ∈ BW := bw 1052 (by decide +kernel) rfl
theorem gL_177 : ∀ z, xCv (Cf z) RL 177 MX10_told 1 := fun z => ⟨cmX10_told z, bw_1050, bw_1051, bw_1052⟩
theorem bw_1785 : (Jvm.Cond.code ({ cls := "HumUnheardModel", name := "told", desc := "(I)I" } : Jvm.MethodName) prog_13_method_79_code (4 : Nat) (Option.some Jvm.ClassFile.FieldType.int) : Cond) ∈ BW := bw 1785 (by decide +kernel) rfl
theorem cmX11_told : ∀ z, xCm (Cf z) MX11_told 1 := fun z => ⟨bw_92, bw_1785, by decide +kernel, by decide, by decide +kernel⟩
theorem bw_1782 : (Jvm.Cond.methodLink "HumUnheardLaw" (180 : Nat) ({ cls := "HumUnheardModel", name := "told", desc := "(I)I" } : Jvm.MethodName) : Cond) ∈ BW := bw 1782 (by decide +kernel) rfl
theorem bw_1783 : (Jvm.Cond.instanceMethod ({ cls := "HumUnheardModel", name := "told", desc := "(I)I" } : Jvm.MethodName) : Cond) ∈ BW := bw 1783 (by decide +kernel) rfl
theorem bw_1784 : (Jvm.Cond.selects "HumUnheardModel" ({ cls := "HumUnheardModel", name := "told", desc := "(I)I" } : Jvm.MethodName) ({ cls := "HumUnheardModel", name := "told", desc := "(I)I" } : Jvm.MethodName) : Cond) ∈ BW := bw 1784 (by decide +kernel) rfl
theorem gL_180 : ∀ z, xCv (Cf z) RL 180 MX11_told 1 := fun z => ⟨cmX11_told z, bw_1782, bw_1783, bw_1784⟩
theorem bw_1114 : (Jvm.Cond.code ({ cls := "HumUnheard", name := "beats", desc := "(II)I" } : Jvm.MethodName) prog_1_method_41_code (3 : Nat) (Option.some Jvm.ClassFile.FieldType.int) : Cond) ∈ BW := bw 1114 (by decide +kernel) rfl
theorem cmX10_beats : ∀ z, xCm (Cf z) MX10_beats 2 := fun z => ⟨bw_80, bw_1114, by decide +kernel, by decide, by decide +kernel⟩
theorem bw_1111 : (Jvm.Cond.methodLink "HumUnheardLaw" (181 : Nat) ({ cls := "HumUnheard", name := "beats", desc := "(II)I" } : Jvm.MethodName) : Cond) ∈ BW := bw 1111 (by decide +kernel) rfl
theorem bw_1112 : (Jvm.Cond.instanceMethod ({ cls := "HumUnheard", name := "beats", desc := "(II)I" } : Jvm.MethodName) : Cond) ∈ BW := bw 1112 (by decide +kernel) rfl
theorem bw_1113 : (Jvm.Cond.selects "HumUnheard" ({ cls := "HumUnheard", name := "beats", desc := "(II)I" } : Jvm.MethodName) ({ cls := "HumUnheard", name := "beats", desc := "(II)I" } : Jvm.MethodName) : Cond) ∈ BW := bw 1113 (by decide +kernel) rfl
theorem gL_181 : ∀ z, xCv (Cf z) RL 181 MX10_beats 2 := fun z => ⟨cmX10_beats z, bw_1111, bw_1112, bw_1113⟩
theorem bw_1789 : (Jvm.Cond.code ({ cls := "HumUnheardModel", name := "beats", desc := "(II)I" } : Jvm.MethodName) prog_13_method_80_code (7 : Nat) (Option.some Jvm.ClassFile.FieldType.int) : Cond) ∈ BW := bw 1789 (by decide +kernel) rfl
theorem cmX11_beats : ∀ z, xCm (Cf z) MX11_beats 2 := fun z => ⟨bw_92, bw_1789, by decide +kernel, by decide, by decide +kernel⟩
theorem bw_1786 : (Jvm.Cond.methodLink "HumUnheardLaw" (184 : Nat) ({ cls := "HumUnheardModel", name := "beats", desc := "(II)I" } : Jvm.MethodName) : Cond) ∈ BW := bw 1786 (by decide +kernel) rfl
theorem bw_1787 : (Jvm.Cond.instanceMethod ({ cls := "HumUnheardModel", name := "beats", desc := "(II)I" } : Jvm.MethodName) : Cond) ∈ BW := bw 1787 (by decide +kernel) rfl
theorem bw_1788 : (Jvm.Cond.selects "HumUnheardModel" ({ cls := "HumUnheardModel", name := "beats", desc := "(II)I" } : Jvm.MethodName) ({ cls := "HumUnheardModel", name := "beats", desc := "(II)I" } : Jvm.MethodName) : Cond) ∈ BW := bw 1788 (by decide +kernel) rfl
theorem gL_184 : ∀ z, xCv (Cf z) RL 184 MX11_beats 2 := fun z => ⟨cmX11_beats z, bw_1786, bw_1787, bw_1788⟩
theorem bw_1128 : (Jvm.Cond.code ({ cls := "HumUnheard", name := "halve", desc := "(I)I" } : Jvm.MethodName) prog_1_method_42_code (2 : Nat) (Option.some Jvm.ClassFile.FieldType.int) : Cond) ∈ BW := bw 1128 (by decide +kernel) rfl
theorem cmX10_halve : ∀ z, xCm (Cf z) MX10_halve 1 := fun z => ⟨bw_80, bw_1128, by decide +kernel, by decide, by decide +kernel⟩
theorem bw_1125 : (Jvm.Cond.methodLink "HumUnheardLaw" (185 : Nat) ({ cls := "HumUnheard", name := "halve", desc := "(I)I" } : Jvm.MethodName) : Cond) ∈ BW := bw 1125 (by decide +kernel) rfl
theorem bw_1126 : (Jvm.Cond.instanceMethod ({ cls := "HumUnheard", name := "halve", desc := "(I)I" } : Jvm.MethodName) : Cond) ∈ BW := bw 1126 (by decide +kernel) rfl
theorem bw_1127 : (Jvm.Cond.selects "HumUnheard" ({ cls := "HumUnheard", name := "halve", desc := "(I)I" } : Jvm.MethodName) ({ cls := "HumUnheard", name := "halve", desc := "(I)I" } : Jvm.MethodName) : Cond) ∈ BW := bw 1127 (by decide +kernel) rfl
theorem gL_185 : ∀ z, xCv (Cf z) RL 185 MX10_halve 1 := fun z => ⟨cmX10_halve z, bw_1125, bw_1126, bw_1127⟩
theorem bw_1793 : (Jvm.Cond.code ({ cls := "HumUnheardModel", name := "halve", desc := "(I)I" } : Jvm.MethodName) prog_13_method_81_code (4 : Nat) (Option.some Jvm.ClassFile.FieldType.int) : Cond) ∈ BW := bw 1793 (by decide +kernel) rfl
theorem cmX11_halve : ∀ z, xCm (Cf z) MX11_halve 1 := fun z => ⟨bw_92, bw_1793, by decide +kernel, by decide, by decide +kernel⟩
theorem bw_1790 : (Jvm.Cond.methodLink "HumUnheardLaw" (188 : Nat) ({ cls := "HumUnheardModel", name := "halve", desc := "(I)I" } : Jvm.MethodName) : Cond) ∈ BW := bw 1790 (by decide +kernel) rfl
theorem bw_1791 : (Jvm.Cond.instanceMethod ({ cls := "HumUnheardModel", name := "halve", desc := "(I)I" } : Jvm.MethodName) : Cond) ∈ BW := bw 1791 (by decide +kernel) rfl
theorem bw_1792 : (Jvm.Cond.selects "HumUnheardModel" ({ cls := "HumUnheardModel", name := "halve", desc := "(I)I" } : Jvm.MethodName) ({ cls := "HumUnheardModel", name := "halve", desc := "(I)I" } : Jvm.MethodName) : Cond) ∈ BW := bw 1792 (by decide +kernel) rfl
theorem gL_188 : ∀ z, xCv (Cf z) RL 188 MX11_halve 1 := fun z => ⟨cmX11_halve z, bw_1790, bw_1791, bw_1792⟩
theorem bw_1132 : (Jvm.Cond.code ({ cls := "HumUnheard", name := "meter", desc := "(IIII)I" } : Jvm.MethodName) prog_1_method_43_code (5 : Nat) (Option.some Jvm.ClassFile.FieldType.int) : Cond) ∈ BW := bw 1132 (by decide +kernel) rfl
theorem cmX10_meter : ∀ z, xCm (Cf z) MX10_meter 4 := fun z => ⟨bw_80, bw_1132, by decide +kernel, by decide, by decide +kernel⟩
theorem bw_1129 : (Jvm.Cond.methodLink "HumUnheardLaw" (189 : Nat) ({ cls := "HumUnheard", name := "meter", desc := "(IIII)I" } : Jvm.MethodName) : Cond) ∈ BW := bw 1129 (by decide +kernel) rfl
theorem bw_1130 : (Jvm.Cond.instanceMethod ({ cls := "HumUnheard", name := "meter", desc := "(IIII)I" } : Jvm.MethodName) : Cond) ∈ BW := bw 1130 (by decide +kernel) rfl
theorem bw_1131 : (Jvm.Cond.selects "HumUnheard" ({ cls := "HumUnheard", name := "meter", desc := "(IIII)I" } : Jvm.MethodName) ({ cls := "HumUnheard", name := "meter", desc := "(IIII)I" } : Jvm.MethodName) : Cond) ∈ BW := bw 1131 (by decide +kernel) rfl
theorem gL_189 : ∀ z, xCv (Cf z) RL 189 MX10_meter 4 := fun z => ⟨cmX10_meter z, bw_1129, bw_1130, bw_1131⟩
theorem bw_1797 : (Jvm.Cond.code ({ cls := "HumUnheardModel", name := "meter", desc := "(IIII)I" } : Jvm.MethodName) prog_13_method_83_code (5 : Nat) (Option.some Jvm.ClassFile.FieldType.int) : Cond) ∈ BW := bw 1797 (by decide +kernel) rfl
theorem cmX11_meter : ∀ z, xCm (Cf z) MX11_meter 4 := fun z => ⟨bw_92, bw_1797, by decide +kernel, by decide, by decide +kernel⟩
theorem bw_1794 : (Jvm.Cond.methodLink "HumUnheardLaw" (192 : Nat) ({ cls := "HumUnheardModel", name := "meter", desc := "(IIII)I" } : Jvm.MethodName) : Cond) ∈ BW := bw 1794 (by decide +kernel) rfl
theorem bw_1795 : (Jvm.Cond.instanceMethod ({ cls := "HumUnheardModel", name := "meter", desc := "(IIII)I" } : Jvm.MethodName) : Cond) ∈ BW := bw 1795 (by decide +kernel) rfl
theorem bw_1796 : (Jvm.Cond.selects "HumUnheardModel" ({ cls := "HumUnheardModel", name := "meter", desc := "(IIII)I" } : Jvm.MethodName) ({ cls := "HumUnheardModel", name := "meter", desc := "(IIII)I" } : Jvm.MethodName) : Cond) ∈ BW := bw 1796 (by decide +kernel) rfl
theorem gL_192 : ∀ z, xCv (Cf z) RL 192 MX11_meter 4 := fun z => ⟨cmX11_meter z, bw_1794, bw_1795, bw_1796⟩
theorem bw_1143 : (Jvm.Cond.code ({ cls := "HumUnheard", name := "place", desc := "(III)I" } : Jvm.MethodName) prog_1_method_44_code (4 : Nat) (Option.some Jvm.ClassFile.FieldType.int) : Cond) ∈ BW := bw 1143 (by decide +kernel) rfl
theorem cmX10_place : ∀ z, xCm (Cf z) MX10_place 3 := fun z => ⟨bw_80, bw_1143, by decide +kernel, by decide, by decide +kernel⟩
theorem bw_1140 : (Jvm.Cond.methodLink "HumUnheardLaw" (193 : Nat) ({ cls := "HumUnheard", name := "place", desc := "(III)I" } : Jvm.MethodName) : Cond) ∈ BW := bw 1140 (by decide +kernel) rfl
theorem bw_1141 : (Jvm.Cond.instanceMethod ({ cls := "HumUnheard", name := "place", desc := "(III)I" } : Jvm.MethodName) : Cond) ∈ BW := bw 1141 (by decide +kernel) rfl
theorem bw_1142 : (Jvm.Cond.selects "HumUnheard" ({ cls := "HumUnheard", name := "place", desc := "(III)I" } : Jvm.MethodName) ({ cls := "HumUnheard", name := "place", desc := "(III)I" } : Jvm.MethodName) : Cond) ∈ BW := bw 1142 (by decide +kernel) rfl
theorem gL_193 : ∀ z, xCv (Cf z) RL 193 MX10_place 3 := fun z => ⟨cmX10_place z, bw_1140, bw_1141, bw_1142⟩
theorem bw_1805 : (Jvm.Cond.code ({ cls := "HumUnheardModel", name := "place", desc := "(III)I" } : Jvm.MethodName) prog_13_method_84_code (9 : Nat) (Option.some Jvm.ClassFile.FieldType.int) : Cond) ∈ BW := bw 1805 (by decide +kernel) rfl
theorem cmX11_place : ∀ z, xCm (Cf z) MX11_place 3 := fun z => ⟨bw_92, bw_1805, by decide +kernel, by decide, by decide +kernel⟩
theorem bw_1802 : (Jvm.Cond.methodLink "HumUnheardLaw" (196 : Nat) ({ cls := "HumUnheardModel", name := "place", desc := "(III)I" } : Jvm.MethodName) : Cond) ∈ BW := bw 1802 (by decide +kernel) rfl
theorem bw_1803 : (Jvm.Cond.instanceMethod ({ cls := "HumUnheardModel", name := "place", desc := "(III)I" } : Jvm.MethodName) : Cond) ∈ BW := bw 1803 (by decide +kernel) rfl
theorem bw_1804 : (Jvm.Cond.selects "HumUnheardModel" ({ cls := "HumUnheardModel", name := "place", desc := "(III)I" } : Jvm.MethodName) ({ cls := "HumUnheardModel", name := "place", desc := "(III)I" } : Jvm.MethodName) : Cond) ∈ BW := bw 1804 (by decide +kernel) rfl
theorem gL_196 : ∀ z, xCv (Cf z) RL 196 MX11_place 3 := fun z => ⟨cmX11_place z, bw_1802, bw_1803, bw_1804⟩
theorem bw_1152 : (Jvm.Cond.code ({ cls := "HumUnheard", name := "bed", desc := "(III)I" } : Jvm.MethodName) prog_1_method_45_code (4 : Nat) (Option.some Jvm.ClassFile.FieldType.int) : Cond) ∈ BW := bw 1152 (by decide +kernel) rfl
theorem cmX10_bed : ∀ z, xCm (Cf z) MX10_bed 3 := fun z => ⟨bw_80, bw_1152, by decide +kernel, by decide, by decide +kernel⟩
theorem bw_1149 : (Jvm.Cond.methodLink "HumUnheardLaw" (197 : Nat) ({ cls := "HumUnheard", name := "bed", desc := "(III)I" } : Jvm.MethodName) : Cond) ∈ BW := bw 1149 (by decide +kernel) rfl
theorem bw_1150 : (Jvm.Cond.instanceMethod ({ cls := "HumUnheard", name := "bed", desc := "(III)I" } : Jvm.MethodName) : Cond) ∈ BW := bw 1150 (by decide +kernel) rfl
theorem bw_1151 : (Jvm.Cond.selects "HumUnheard" ({ cls := "HumUnheard", name := "bed", desc := "(III)I" } : Jvm.MethodName) ({ cls := "HumUnheard", name := "bed", desc := "(III)I" } : Jvm.MethodName) : Cond) ∈ BW := bw 1151 (by decide +kernel) rfl
theorem gL_197 : ∀ z, xCv (Cf z) RL 197 MX10_bed 3 := fun z => ⟨cmX10_bed z, bw_1149, bw_1150, bw_1151⟩
theorem bw_1809 : (Jvm.Cond.code ({ cls := "HumUnheardModel", name := "bed", desc := "(III)I" } : Jvm.MethodName) prog_13_method_85_code (11 : Nat) (Option.some Jvm.ClassFile.FieldType.int) : Cond) ∈ BW := bw 1809 (by decide +kernel) rfl
theorem cmX11_bed : ∀ z, xCm (Cf z) MX11_bed 3 := fun z => ⟨bw_92, bw_1809, by decide +kernel, by decide, by decide +kernel⟩
theorem bw_1806 : (Jvm.Cond.methodLink "HumUnheardLaw" (200 : Nat) ({ cls := "HumUnheardModel", name := "bed", desc := "(III)I" } : Jvm.MethodName) : Cond) ∈ BW := bw 1806 (by decide +kernel) rfl
theorem bw_1807 : (Jvm.Cond.instanceMethod ({ cls := "HumUnheardModel", name := "bed", desc := "(III)I" } : Jvm.MethodName) : Cond) ∈ BW := bw 1807 (by decide +kernel) rfl
theorem bw_1808 : (Jvm.Cond.selects "HumUnheardModel" ({ cls := "HumUnheardModel", name := "bed", desc := "(III)I" } : Jvm.MethodName) ({ cls := "HumUnheardModel", name := "bed", desc := "(III)I" } : Jvm.MethodName) : Cond) ∈ BW := bw 1808 (by decide +kernel) rfl
theorem gL_200 : ∀ z, xCv (Cf z) RL 200 MX11_bed 3 := fun z => ⟨cmX11_bed z, bw_1806, bw_1807, bw_1808⟩
theorem bw_1162 : (Jvm.Cond.code ({ cls := "HumUnheard", name := "act", desc := "(III)I" } : Jvm.MethodName) prog_1_method_46_code (4 : Nat) (Option.some Jvm.ClassFile.FieldType.int) : Cond) ∈ BW := bw 1162 (by decide +kernel) rfl
theorem cmX10_act : ∀ z, xCm (Cf z) MX10_act 3 := fun z => ⟨bw_80, bw_1162, by decide +kernel, by decide, by decide +kernel⟩
theorem bw_1159 : (Jvm.Cond.methodLink "HumUnheardLaw" (201 : Nat) ({ cls := "HumUnheard", name := "act", desc := "(III)I" } : Jvm.MethodName) : Cond) ∈ BW := bw 1159 (by decide +kernel) rfl
theorem bw_1160 : (Jvm.Cond.instanceMethod ({ cls := "HumUnheard", name := "act", desc := "(III)I" } : Jvm.MethodName) : Cond) ∈ BW := bw 1160 (by decide +kernel) rfl
theorem bw_1161 : (Jvm.Cond.selects "HumUnheard" ({ cls := "HumUnheard", name := "act", desc := "(III)I" } : Jvm.MethodName) ({ cls := "HumUnheard", name := "act", desc := "(III)I" } : Jvm.MethodName) : Cond) ∈ BW := bw 1161 (by decide +kernel) rfl
theorem gL_201 : ∀ z, xCv (Cf z) RL 201 MX10_act 3 := fun z => ⟨cmX10_act z, bw_1159, bw_1160, bw_1161⟩
theorem bw_1817 : (Jvm.Cond.code ({ cls := "HumUnheardModel", name := "act", desc := "(III)I" } : Jvm.MethodName) prog_13_method_90_code (4 : Nat) (Option.some Jvm.ClassFile.FieldType.int) : Cond) ∈ BW := bw 1817 (by decide +kernel) rfl
theorem cmX11_act : ∀ z, xCm (Cf z) MX11_act 3 := fun z => ⟨bw_92, bw_1817, by decide +kernel, by decide, by decide +kernel⟩
theorem bw_1814 : (Jvm.Cond.methodLink "HumUnheardLaw" (204 : Nat) ({ cls := "HumUnheardModel", name := "act", desc := "(III)I" } : Jvm.MethodName) : Cond) ∈ BW := bw 1814 (by decide +kernel) rfl
theorem bw_1815 : (Jvm.Cond.instanceMethod ({ cls := "HumUnheardModel", name := "act", desc := "(III)I" } : Jvm.MethodName) : Cond) ∈ BW := bw 1815 (by decide +kernel) rfl
theorem bw_1816 : (Jvm.Cond.selects "HumUnheardModel" ({ cls := "HumUnheardModel", name := "act", desc := "(III)I" } : Jvm.MethodName) ({ cls := "HumUnheardModel", name := "act", desc := "(III)I" } : Jvm.MethodName) : Cond) ∈ BW := bw 1816 (by decide +kernel) rfl
theorem gL_204 : ∀ z, xCv (Cf z) RL 204 MX11_act 3 := fun z => ⟨cmX11_act z, bw_1814, bw_1815, bw_1816⟩
theorem bw_1198 : (Jvm.Cond.code ({ cls := "HumUnheard", name := "trace", desc := "(I)I" } : Jvm.MethodName) prog_1_method_47_code (2 : Nat) (Option.some Jvm.ClassFile.FieldType.int) : Cond) ∈ BW := bw 1198 (by decide +kernel) rfl
theorem cmX10_trace : ∀ z, xCm (Cf z) MX10_trace 1 := fun z => ⟨bw_80, bw_1198, by decide +kernel, by decide, by decide +kernel⟩
theorem bw_1195 : (Jvm.Cond.methodLink "HumUnheardLaw" (205 : Nat) ({ cls := "HumUnheard", name := "trace", desc := "(I)I" } : Jvm.MethodName) : Cond) ∈ BW := bw 1195 (by decide +kernel) rfl
theorem bw_1196 : (Jvm.Cond.instanceMethod ({ cls := "HumUnheard", name := "trace", desc := "(I)I" } : Jvm.MethodName) : Cond) ∈ BW := bw 1196 (by decide +kernel) rfl
theorem bw_1197 : (Jvm.Cond.selects "HumUnheard" ({ cls := "HumUnheard", name := "trace", desc := "(I)I" } : Jvm.MethodName) ({ cls := "HumUnheard", name := "trace", desc := "(I)I" } : Jvm.MethodName) : Cond) ∈ BW := bw 1197 (by decide +kernel) rfl
theorem gL_205 : ∀ z, xCv (Cf z) RL 205 MX10_trace 1 := fun z => ⟨cmX10_trace z, bw_1195, bw_1196, bw_1197⟩
theorem bw_1837 : (Jvm.Cond.code ({ cls := "HumUnheardModel", name := "trace", desc := "(I)I" } : Jvm.MethodName) prog_13_method_91_code (2 : Nat) (Option.some Jvm.ClassFile.FieldType.int) : Cond) ∈ BW := bw 1837 (by decide +kernel) rfl
theorem cmX11_trace : ∀ z, xCm (Cf z) MX11_trace 1 := fun z => ⟨bw_92, bw_1837, by decide +kernel, by decide, by decide +kernel⟩
theorem bw_1834 : (Jvm.Cond.methodLink "HumUnheardLaw" (208 : Nat) ({ cls := "HumUnheardModel", name := "trace", desc := "(I)I" } : Jvm.MethodName) : Cond) ∈ BW := bw 1834 (by decide +kernel) rfl
theorem bw_1835 : (Jvm.Cond.instanceMethod ({ cls := "HumUnheardModel", name := "trace", desc := "(I)I" } : Jvm.MethodName) : Cond) ∈ BW := bw 1835 (by decide +kernel) rfl
theorem bw_1836 : (Jvm.Cond.selects "HumUnheardModel" ({ cls := "HumUnheardModel", name := "trace", desc := "(I)I" } : Jvm.MethodName) ({ cls := "HumUnheardModel", name := "trace", desc := "(I)I" } : Jvm.MethodName) : Cond) ∈ BW := bw 1836 (by decide +kernel) rfl
theorem gL_208 : ∀ z, xCv (Cf z) RL 208 MX11_trace 1 := fun z => ⟨cmX11_trace z, bw_1834, bw_1835, bw_1836⟩
theorem bw_1206 : (Jvm.Cond.code ({ cls := "HumUnheard", name := "image", desc := "()I" } : Jvm.MethodName) prog_1_method_48_code (1 : Nat) (Option.some Jvm.ClassFile.FieldType.int) : Cond) ∈ BW := bw 1206 (by decide +kernel) rfl
theorem cmX10_image : ∀ z, xCm (Cf z) MX10_image 0 := fun z => ⟨bw_80, bw_1206, by decide +kernel, by decide, by decide +kernel⟩
theorem bw_1203 : (Jvm.Cond.methodLink "HumUnheardLaw" (209 : Nat) ({ cls := "HumUnheard", name := "image", desc := "()I" } : Jvm.MethodName) : Cond) ∈ BW := bw 1203 (by decide +kernel) rfl
theorem bw_1204 : (Jvm.Cond.instanceMethod ({ cls := "HumUnheard", name := "image", desc := "()I" } : Jvm.MethodName) : Cond) ∈ BW := bw 1204 (by decide +kernel) rfl
theorem bw_1205 : (Jvm.Cond.selects "HumUnheard" ({ cls := "HumUnheard", name := "image", desc := "()I" } : Jvm.MethodName) ({ cls := "HumUnheard", name := "image", desc := "()I" } : Jvm.MethodName) : Cond) ∈ BW := bw 1205 (by decide +kernel) rfl
theorem gL_209 : ∀ z, xCv (Cf z) RL 209 MX10_image 0 := fun z => ⟨cmX10_image z, bw_1203, bw_1204, bw_1205⟩
theorem bw_1841 : (Jvm.Cond.code ({ cls := "HumUnheardModel", name := "image", desc := "()I" } : Jvm.MethodName) prog_13_method_94_code (1 : Nat) (Option.some Jvm.ClassFile.FieldType.int) : Cond) ∈ BW := bw 1841 (by decide +kernel) rfl
theorem cmX11_image : ∀ z, xCm (Cf z) MX11_image 0 := fun z => ⟨bw_92, bw_1841, by decide +kernel, by decide, by decide +kernel⟩
theorem bw_1838 : (Jvm.Cond.methodLink "HumUnheardLaw" (212 : Nat) ({ cls := "HumUnheardModel", name := "image", desc := "()I" } : Jvm.MethodName) : Cond) ∈ BW := bw 1838 (by decide +kernel) rfl
theorem bw_1839 : (Jvm.Cond.instanceMethod ({ cls := "HumUnheardModel", name := "image", desc := "()I" } : Jvm.MethodName) : Cond) ∈ BW := bw 1839 (by decide +kernel) rfl
theorem bw_1840 : (Jvm.Cond.selects "HumUnheardModel" ({ cls := "HumUnheardModel", name := "image", desc := "()I" } : Jvm.MethodName) ({ cls := "HumUnheardModel", name := "image", desc := "()I" } : Jvm.MethodName) : Cond) ∈ BW := bw 1840 (by decide +kernel) rfl
theorem gL_212 : ∀ z, xCv (Cf z) RL 212 MX11_image 0 := fun z => ⟨cmX11_image z, bw_1838, bw_1839, bw_1840⟩
theorem bw_1233 : (Jvm.Cond.code ({ cls := "HumUnheard", name := "restore", desc := "()I" } : Jvm.MethodName) prog_1_method_49_code (2 : Nat) (Option.some Jvm.ClassFile.FieldType.int) : Cond) ∈ BW := bw 1233 (by decide +kernel) rfl
theorem cmX10_restore : ∀ z, xCm (Cf z) MX10_restore 0 := fun z => ⟨bw_80, bw_1233, by decide +kernel, by decide, by decide +kernel⟩
theorem bw_1230 : (Jvm.Cond.methodLink "HumUnheardLaw" (213 : Nat) ({ cls := "HumUnheard", name := "restore", desc := "()I" } : Jvm.MethodName) : Cond) ∈ BW := bw 1230 (by decide +kernel) rfl
theorem bw_1231 : (Jvm.Cond.instanceMethod ({ cls := "HumUnheard", name := "restore", desc := "()I" } : Jvm.MethodName) : Cond) ∈ BW := bw 1231 (by decide +kernel) rfl
theorem bw_1232 : (Jvm.Cond.selects "HumUnheard" ({ cls := "HumUnheard", name := "restore", desc := "()I" } : Jvm.MethodName) ({ cls := "HumUnheard", name := "restore", desc := "()I" } : Jvm.MethodName) : Cond) ∈ BW := bw 1232 (by decide +kernel) rfl
theorem gL_213 : ∀ z, xCv (Cf z) RL 213 MX10_restore 0 := fun z => ⟨cmX10_restore z, bw_1230, bw_1231, bw_1232⟩
theorem bw_1853 : (Jvm.Cond.code ({ cls := "HumUnheardModel", name := "restore", desc := "()I" } : Jvm.MethodName) prog_13_method_95_code (2 : Nat) (Option.some Jvm.ClassFile.FieldType.int) : Cond) ∈ BW := bw 1853 (by decide +kernel) rfl
theorem cmX11_restore : ∀ z, xCm (Cf z) MX11_restore 0 := fun z => ⟨bw_92, bw_1853, by decide +kernel, by decide, by decide +kernel⟩
theorem bw_1850 : (Jvm.Cond.methodLink "HumUnheardLaw" (216 : Nat) ({ cls := "HumUnheardModel", name := "restore", desc := "()I" } : Jvm.MethodName) : Cond) ∈ BW := bw 1850 (by decide +kernel) rfl
theorem bw_1851 : (Jvm.Cond.instanceMethod ({ cls := "HumUnheardModel", name := "restore", desc := "()I" } : Jvm.MethodName) : Cond) ∈ BW := bw 1851 (by decide +kernel) rfl
theorem bw_1852 : (Jvm.Cond.selects "HumUnheardModel" ({ cls := "HumUnheardModel", name := "restore", desc := "()I" } : Jvm.MethodName) ({ cls := "HumUnheardModel", name := "restore", desc := "()I" } : Jvm.MethodName) : Cond) ∈ BW := bw 1852 (by decide +kernel) rfl
theorem gL_216 : ∀ z, xCv (Cf z) RL 216 MX11_restore 0 := fun z => ⟨cmX11_restore z, bw_1850, bw_1851, bw_1852⟩
theorem bw_1237 : (Jvm.Cond.code ({ cls := "HumUnheard", name := "status", desc := "(I)I" } : Jvm.MethodName) prog_1_method_50_code (2 : Nat) (Option.some Jvm.ClassFile.FieldType.int) : Cond) ∈ BW := bw 1237 (by decide +kernel) rfl
theorem cmX10_status : ∀ z, xCm (Cf z) MX10_status 1 := fun z => ⟨bw_80, bw_1237, by decide +kernel, by decide, by decide +kernel⟩
theorem bw_1234 : (Jvm.Cond.methodLink "HumUnheardLaw" (217 : Nat) ({ cls := "HumUnheard", name := "status", desc := "(I)I" } : Jvm.MethodName) : Cond) ∈ BW := bw 1234 (by decide +kernel) rfl
theorem bw_1235 : (Jvm.Cond.instanceMethod ({ cls := "HumUnheard", name := "status", desc := "(I)I" } : Jvm.MethodName) : Cond) ∈ BW := bw 1235 (by decide +kernel) rfl
theorem bw_1236 : (Jvm.Cond.selects "HumUnheard" ({ cls := "HumUnheard", name := "status", desc := "(I)I" } : Jvm.MethodName) ({ cls := "HumUnheard", name := "status", desc := "(I)I" } : Jvm.MethodName) : Cond) ∈ BW := bw 1236 (by decide +kernel) rfl
theorem gL_217 : ∀ z, xCv (Cf z) RL 217 MX10_status 1 := fun z => ⟨cmX10_status z, bw_1234, bw_1235, bw_1236⟩
theorem bw_1857 : (Jvm.Cond.code ({ cls := "HumUnheardModel", name := "status", desc := "(I)I" } : Jvm.MethodName) prog_13_method_96_code (2 : Nat) (Option.some Jvm.ClassFile.FieldType.int) : Cond) ∈ BW := bw 1857 (by decide +kernel) rfl
theorem cmX11_status : ∀ z, xCm (Cf z) MX11_status 1 := fun z => ⟨bw_92, bw_1857, by decide +kernel, by decide, by decide +kernel⟩
theorem bw_1854 : (Jvm.Cond.methodLink "HumUnheardLaw" (220 : Nat) ({ cls := "HumUnheardModel", name := "status", desc := "(I)I" } : Jvm.MethodName) : Cond) ∈ BW := bw 1854 (by decide +kernel) rfl
theorem bw_1855 : (Jvm.Cond.instanceMethod ({ cls := "HumUnheardModel", name := "status", desc := "(I)I" } : Jvm.MethodName) : Cond) ∈ BW := bw 1855 (by decide +kernel) rfl
theorem bw_1856 : (Jvm.Cond.selects "HumUnheardModel" ({ cls := "HumUnheardModel", name := "status", desc := "(I)I" } : Jvm.MethodName) ({ cls := "HumUnheardModel", name := "status", desc := "(I)I" } : Jvm.MethodName) : Cond) ∈ BW := bw 1856 (by decide +kernel) rfl
theorem gL_220 : ∀ z, xCv (Cf z) RL 220 MX11_status 1 := fun z => ⟨cmX11_status z, bw_1854, bw_1855, bw_1856⟩
theorem bw_1858 : (Jvm.Cond.constantLong "HumUnheardLaw" (18 : Nat) (4294967295 : Int64) : Cond) ∈ BW := bw 1858 (by decide +kernel) rfl
theorem kL_18 : ∀ z, Cond.constantLong RL 18 4294967295 ∈ (Cf z).1 := fun z => bw_1858
theorem bw_99 : (Jvm.Cond.classLink "HumUnheardLaw" (7 : Nat) "HumUnheard" : Cond) ∈ BW := bw 99 (by decide +kernel) rfl
theorem bw_100 : (Jvm.Cond.instantiable "HumUnheard" (8 : Nat) : Cond) ∈ BW := bw 100 (by decide +kernel) rfl
theorem nL_7 : ∀ z, Cond.classLink RL 7 RX10 ∈ (Cf z).1 ∧ Cond.instantiable RX10 8 ∈ (Cf z).1 ∧ Cond.initialized RX10 ∈ (Cf z).1 := fun z => ⟨bw_99, bw_100, bw_80⟩
theorem bw_1238 : (Jvm.Cond.classLink "HumUnheardLaw" (10 : Nat) "HumUnheardModel" : Cond) ∈ BW := bw 1238 (by decide +kernel) rfl
theorem bw_1239 : (Jvm.Cond.instantiable "HumUnheardModel" (77 : Nat) : Cond) ∈ BW := bw 1239 (by decide +kernel) rfl
theorem nL_10 : ∀ z, Cond.classLink RL 10 RX11 ∈ (Cf z).1 ∧ Cond.instantiable RX11 77 ∈ (Cf z).1 ∧ Cond.initialized RX11 ∈ (Cf z).1 := fun z => ⟨bw_1238, bw_1239, bw_92⟩
theorem bw_1251 : (Jvm.Cond.fieldLink "HumUnheardModel" (9 : Nat) "HumUnheardModel" "forced" "I" : Cond) ∈ BW := bw 1251 (by decide +kernel) rfl
theorem fX11_9 : ∀ z, xFd (Cf z) RX11 9 11 7 := fun z => ⟨(RX11, TX11, 77), rfl, by decide, bw_1251⟩
theorem bw_1252 : (Jvm.Cond.fieldLink "HumUnheardModel" (13 : Nat) "HumUnheardModel" "fault" "I" : Cond) ∈ BW := bw 1252 (by decide +kernel) rfl
theorem fX11_13 : ∀ z, xFd (Cf z) RX11 13 11 8 := fun z => ⟨(RX11, TX11, 77), rfl, by decide, bw_1252⟩
theorem bw_1254 : (Jvm.Cond.fieldLink "HumUnheardModel" (16 : Nat) "HumUnheardModel" "refused" "[I" : Cond) ∈ BW := bw 1254 (by decide +kernel) rfl
theorem fX11_16 : ∀ z, xFd (Cf z) RX11 16 11 10 := fun z => ⟨(RX11, TX11, 77), rfl, by decide, bw_1254⟩
theorem bw_1255 : (Jvm.Cond.fieldLink "HumUnheardModel" (20 : Nat) "HumUnheardModel" "law" "[I" : Cond) ∈ BW := bw 1255 (by decide +kernel) rfl
theorem fX11_20 : ∀ z, xFd (Cf z) RX11 20 11 11 := fun z => ⟨(RX11, TX11, 77), rfl, by decide, bw_1255⟩
theorem bw_1256 : (Jvm.Cond.fieldLink "HumUnheardModel" (23 : Nat) "HumUnheardModel" "spotSize" "[I" : Cond) ∈ BW := bw 1256 (by decide +kernel) rfl
theorem fX11_23 : ∀ z, xFd (Cf z) RX11 23 11 12 := fun z => ⟨(RX11, TX11, 77), rfl, by decide, bw_1256⟩
theorem bw_1257 : (Jvm.Cond.fieldLink "HumUnheardModel" (26 : Nat) "HumUnheardModel" "weather" "[I" : Cond) ∈ BW := bw 1257 (by decide +kernel) rfl
theorem fX11_26 : ∀ z, xFd (Cf z) RX11 26 11 13 := fun z => ⟨(RX11, TX11, 77), rfl, by decide, bw_1257⟩
theorem bw_1258 : (Jvm.Cond.fieldLink "HumUnheardModel" (29 : Nat) "HumUnheardModel" "at" "[I" : Cond) ∈ BW := bw 1258 (by decide +kernel) rfl
theorem fX11_29 : ∀ z, xFd (Cf z) RX11 29 11 14 := fun z => ⟨(RX11, TX11, 77), rfl, by decide, bw_1258⟩
theorem bw_1259 : (Jvm.Cond.fieldLink "HumUnheardModel" (32 : Nat) "HumUnheardModel" "best" "[I" : Cond) ∈ BW := bw 1259 (by decide +kernel) rfl
theorem fX11_32 : ∀ z, xFd (Cf z) RX11 32 11 15 := fun z => ⟨(RX11, TX11, 77), rfl, by decide, bw_1259⟩
theorem bw_1260 : (Jvm.Cond.fieldLink "HumUnheardModel" (35 : Nat) "HumUnheardModel" "least" "[I" : Cond) ∈ BW := bw 1260 (by decide +kernel) rfl
theorem fX11_35 : ∀ z, xFd (Cf z) RX11 35 11 16 := fun z => ⟨(RX11, TX11, 77), rfl, by decide, bw_1260⟩
theorem bw_1261 : (Jvm.Cond.fieldLink "HumUnheardModel" (38 : Nat) "HumUnheardModel" "slope" "[I" : Cond) ∈ BW := bw 1261 (by decide +kernel) rfl
theorem fX11_38 : ∀ z, xFd (Cf z) RX11 38 11 17 := fun z => ⟨(RX11, TX11, 77), rfl, by decide, bw_1261⟩
theorem bw_1262 : (Jvm.Cond.fieldLink "HumUnheardModel" (41 : Nat) "HumUnheardModel" "reads" "[I" : Cond) ∈ BW := bw 1262 (by decide +kernel) rfl
theorem fX11_41 : ∀ z, xFd (Cf z) RX11 41 11 18 := fun z => ⟨(RX11, TX11, 77), rfl, by decide, bw_1262⟩
theorem bw_1263 : (Jvm.Cond.fieldLink "HumUnheardModel" (44 : Nat) "HumUnheardModel" "kind" "[I" : Cond) ∈ BW := bw 1263 (by decide +kernel) rfl
theorem fX11_44 : ∀ z, xFd (Cf z) RX11 44 11 19 := fun z => ⟨(RX11, TX11, 77), rfl, by decide, bw_1263⟩
theorem bw_1264 : (Jvm.Cond.fieldLink "HumUnheardModel" (47 : Nat) "HumUnheardModel" "where" "[I" : Cond) ∈ BW := bw 1264 (by decide +kernel) rfl
theorem fX11_47 : ∀ z, xFd (Cf z) RX11 47 11 20 := fun z => ⟨(RX11, TX11, 77), rfl, by decide, bw_1264⟩
theorem bw_1265 : (Jvm.Cond.fieldLink "HumUnheardModel" (50 : Nat) "HumUnheardModel" "tone" "[I" : Cond) ∈ BW := bw 1265 (by decide +kernel) rfl
theorem fX11_50 : ∀ z, xFd (Cf z) RX11 50 11 21 := fun z => ⟨(RX11, TX11, 77), rfl, by decide, bw_1265⟩
theorem bw_1266 : (Jvm.Cond.fieldLink "HumUnheardModel" (53 : Nat) "HumUnheardModel" "strength" "[I" : Cond) ∈ BW := bw 1266 (by decide +kernel) rfl
theorem fX11_53 : ∀ z, xFd (Cf z) RX11 53 11 22 := fun z => ⟨(RX11, TX11, 77), rfl, by decide, bw_1266⟩
theorem bw_1267 : (Jvm.Cond.fieldLink "HumUnheardModel" (56 : Nat) "HumUnheardModel" "from" "[I" : Cond) ∈ BW := bw 1267 (by decide +kernel) rfl
theorem fX11_56 : ∀ z, xFd (Cf z) RX11 56 11 23 := fun z => ⟨(RX11, TX11, 77), rfl, by decide, bw_1267⟩
theorem bw_1268 : (Jvm.Cond.fieldLink "HumUnheardModel" (59 : Nat) "HumUnheardModel" "to" "[I" : Cond) ∈ BW := bw 1268 (by decide +kernel) rfl
theorem fX11_59 : ∀ z, xFd (Cf z) RX11 59 11 24 := fun z => ⟨(RX11, TX11, 77), rfl, by decide, bw_1268⟩
theorem bw_1269 : (Jvm.Cond.fieldLink "HumUnheardModel" (62 : Nat) "HumUnheardModel" "cost" "[I" : Cond) ∈ BW := bw 1269 (by decide +kernel) rfl
theorem fX11_62 : ∀ z, xFd (Cf z) RX11 62 11 25 := fun z => ⟨(RX11, TX11, 77), rfl, by decide, bw_1269⟩
theorem bw_1270 : (Jvm.Cond.fieldLink "HumUnheardModel" (65 : Nat) "HumUnheardModel" "off" "[I" : Cond) ∈ BW := bw 1270 (by decide +kernel) rfl
theorem fX11_65 : ∀ z, xFd (Cf z) RX11 65 11 26 := fun z => ⟨(RX11, TX11, 77), rfl, by decide, bw_1270⟩
theorem bw_1271 : (Jvm.Cond.fieldLink "HumUnheardModel" (68 : Nat) "HumUnheardModel" "pWho" "[I" : Cond) ∈ BW := bw 1271 (by decide +kernel) rfl
theorem fX11_68 : ∀ z, xFd (Cf z) RX11 68 11 27 := fun z => ⟨(RX11, TX11, 77), rfl, by decide, bw_1271⟩
theorem bw_1272 : (Jvm.Cond.fieldLink "HumUnheardModel" (71 : Nat) "HumUnheardModel" "pHour" "[I" : Cond) ∈ BW := bw 1272 (by decide +kernel) rfl
theorem fX11_71 : ∀ z, xFd (Cf z) RX11 71 11 28 := fun z => ⟨(RX11, TX11, 77), rfl, by decide, bw_1272⟩
theorem bw_1273 : (Jvm.Cond.fieldLink "HumUnheardModel" (74 : Nat) "HumUnheardModel" "pSpot" "[I" : Cond) ∈ BW := bw 1273 (by decide +kernel) rfl
theorem fX11_74 : ∀ z, xFd (Cf z) RX11 74 11 29 := fun z => ⟨(RX11, TX11, 77), rfl, by decide, bw_1273⟩
theorem bw_1274 : (Jvm.Cond.fieldLink "HumUnheardModel" (77 : Nat) "HumUnheardModel" "pHeard" "[I" : Cond) ∈ BW := bw 1274 (by decide +kernel) rfl
theorem fX11_77 : ∀ z, xFd (Cf z) RX11 77 11 30 := fun z => ⟨(RX11, TX11, 77), rfl, by decide, bw_1274⟩
theorem bw_1275 : (Jvm.Cond.fieldLink "HumUnheardModel" (80 : Nat) "HumUnheardModel" "pCame" "[I" : Cond) ∈ BW := bw 1275 (by decide +kernel) rfl
theorem fX11_80 : ∀ z, xFd (Cf z) RX11 80 11 31 := fun z => ⟨(RX11, TX11, 77), rfl, by decide, bw_1275⟩
theorem bw_1276 : (Jvm.Cond.fieldLink "HumUnheardModel" (83 : Nat) "HumUnheardModel" "mWho" "[I" : Cond) ∈ BW := bw 1276 (by decide +kernel) rfl
theorem fX11_83 : ∀ z, xFd (Cf z) RX11 83 11 32 := fun z => ⟨(RX11, TX11, 77), rfl, by decide, bw_1276⟩
theorem bw_1277 : (Jvm.Cond.fieldLink "HumUnheardModel" (86 : Nat) "HumUnheardModel" "mTone" "[I" : Cond) ∈ BW := bw 1277 (by decide +kernel) rfl
theorem fX11_86 : ∀ z, xFd (Cf z) RX11 86 11 33 := fun z => ⟨(RX11, TX11, 77), rfl, by decide, bw_1277⟩
theorem bw_1278 : (Jvm.Cond.fieldLink "HumUnheardModel" (89 : Nat) "HumUnheardModel" "mCame" "[I" : Cond) ∈ BW := bw 1278 (by decide +kernel) rfl
theorem fX11_89 : ∀ z, xFd (Cf z) RX11 89 11 34 := fun z => ⟨(RX11, TX11, 77), rfl, by decide, bw_1278⟩
theorem bw_1279 : (Jvm.Cond.fieldLink "HumUnheardModel" (92 : Nat) "HumUnheardModel" "lWho" "[I" : Cond) ∈ BW := bw 1279 (by decide +kernel) rfl
theorem fX11_92 : ∀ z, xFd (Cf z) RX11 92 11 35 := fun z => ⟨(RX11, TX11, 77), rfl, by decide, bw_1279⟩
theorem bw_1280 : (Jvm.Cond.fieldLink "HumUnheardModel" (95 : Nat) "HumUnheardModel" "lHour" "[I" : Cond) ∈ BW := bw 1280 (by decide +kernel) rfl
theorem fX11_95 : ∀ z, xFd (Cf z) RX11 95 11 36 := fun z => ⟨(RX11, TX11, 77), rfl, by decide, bw_1280⟩
theorem bw_1281 : (Jvm.Cond.fieldLink "HumUnheardModel" (98 : Nat) "HumUnheardModel" "lSince" "[I" : Cond) ∈ BW := bw 1281 (by decide +kernel) rfl
theorem fX11_98 : ∀ z, xFd (Cf z) RX11 98 11 37 := fun z => ⟨(RX11, TX11, 77), rfl, by decide, bw_1281⟩
theorem bw_1282 : (Jvm.Cond.fieldLink "HumUnheardModel" (101 : Nat) "HumUnheardModel" "items" "[I" : Cond) ∈ BW := bw 1282 (by decide +kernel) rfl
theorem fX11_101 : ∀ z, xFd (Cf z) RX11 101 11 38 := fun z => ⟨(RX11, TX11, 77), rfl, by decide, bw_1282⟩
theorem bw_1283 : (Jvm.Cond.fieldLink "HumUnheardModel" (104 : Nat) "HumUnheardModel" "iOff" "[I" : Cond) ∈ BW := bw 1283 (by decide +kernel) rfl
theorem fX11_104 : ∀ z, xFd (Cf z) RX11 104 11 39 := fun z => ⟨(RX11, TX11, 77), rfl, by decide, bw_1283⟩
theorem bw_1284 : (Jvm.Cond.fieldLink "HumUnheardModel" (107 : Nat) "HumUnheardModel" "iSource" "[I" : Cond) ∈ BW := bw 1284 (by decide +kernel) rfl
theorem fX11_107 : ∀ z, xFd (Cf z) RX11 107 11 40 := fun z => ⟨(RX11, TX11, 77), rfl, by decide, bw_1284⟩
theorem bw_1285 : (Jvm.Cond.fieldLink "HumUnheardModel" (110 : Nat) "HumUnheardModel" "iFrom" "[I" : Cond) ∈ BW := bw 1285 (by decide +kernel) rfl
theorem fX11_110 : ∀ z, xFd (Cf z) RX11 110 11 41 := fun z => ⟨(RX11, TX11, 77), rfl, by decide, bw_1285⟩
theorem bw_1286 : (Jvm.Cond.fieldLink "HumUnheardModel" (113 : Nat) "HumUnheardModel" "iTo" "[I" : Cond) ∈ BW := bw 1286 (by decide +kernel) rfl
theorem fX11_113 : ∀ z, xFd (Cf z) RX11 113 11 42 := fun z => ⟨(RX11, TX11, 77), rfl, by decide, bw_1286⟩
theorem bw_1287 : (Jvm.Cond.fieldLink "HumUnheardModel" (116 : Nat) "HumUnheardModel" "iEach" "[I" : Cond) ∈ BW := bw 1287 (by decide +kernel) rfl
theorem fX11_116 : ∀ z, xFd (Cf z) RX11 116 11 43 := fun z => ⟨(RX11, TX11, 77), rfl, by decide, bw_1287⟩
theorem bw_1288 : (Jvm.Cond.fieldLink "HumUnheardModel" (119 : Nat) "HumUnheardModel" "held" "[I" : Cond) ∈ BW := bw 1288 (by decide +kernel) rfl
theorem fX11_119 : ∀ z, xFd (Cf z) RX11 119 11 44 := fun z => ⟨(RX11, TX11, 77), rfl, by decide, bw_1288⟩
theorem bw_1289 : (Jvm.Cond.fieldLink "HumUnheardModel" (122 : Nat) "HumUnheardModel" "sort" "[I" : Cond) ∈ BW := bw 1289 (by decide +kernel) rfl
theorem fX11_122 : ∀ z, xFd (Cf z) RX11 122 11 45 := fun z => ⟨(RX11, TX11, 77), rfl, by decide, bw_1289⟩
theorem bw_1290 : (Jvm.Cond.fieldLink "HumUnheardModel" (125 : Nat) "HumUnheardModel" "size" "[I" : Cond) ∈ BW := bw 1290 (by decide +kernel) rfl
theorem fX11_125 : ∀ z, xFd (Cf z) RX11 125 11 46 := fun z => ⟨(RX11, TX11, 77), rfl, by decide, bw_1290⟩
theorem bw_1291 : (Jvm.Cond.fieldLink "HumUnheardModel" (128 : Nat) "HumUnheardModel" "shown" "[I" : Cond) ∈ BW := bw 1291 (by decide +kernel) rfl
theorem fX11_128 : ∀ z, xFd (Cf z) RX11 128 11 47 := fun z => ⟨(RX11, TX11, 77), rfl, by decide, bw_1291⟩
theorem bw_1292 : (Jvm.Cond.fieldLink "HumUnheardModel" (131 : Nat) "HumUnheardModel" "cells" "[J" : Cond) ∈ BW := bw 1292 (by decide +kernel) rfl
theorem fX11_131 : ∀ z, xFd (Cf z) RX11 131 11 48 := fun z => ⟨(RX11, TX11, 77), rfl, by decide, bw_1292⟩
theorem bw_1293 : (Jvm.Cond.fieldLink "HumUnheardModel" (135 : Nat) "HumUnheardModel" "carried" "[J" : Cond) ∈ BW := bw 1293 (by decide +kernel) rfl
theorem fX11_135 : ∀ z, xFd (Cf z) RX11 135 11 49 := fun z => ⟨(RX11, TX11, 77), rfl, by decide, bw_1293⟩
theorem bw_1301 : (Jvm.Cond.fieldLink "HumUnheardModel" (138 : Nat) "HumUnheardModel" "tWhich" "[I" : Cond) ∈ BW := bw 1301 (by decide +kernel) rfl
theorem fX11_138 : ∀ z, xFd (Cf z) RX11 138 11 57 := fun z => ⟨(RX11, TX11, 77), rfl, by decide, bw_1301⟩
theorem bw_1302 : (Jvm.Cond.fieldLink "HumUnheardModel" (141 : Nat) "HumUnheardModel" "tNumber" "[I" : Cond) ∈ BW := bw 1302 (by decide +kernel) rfl
theorem fX11_141 : ∀ z, xFd (Cf z) RX11 141 11 58 := fun z => ⟨(RX11, TX11, 77), rfl, by decide, bw_1302⟩
theorem bw_1303 : (Jvm.Cond.fieldLink "HumUnheardModel" (144 : Nat) "HumUnheardModel" "tOff" "[I" : Cond) ∈ BW := bw 1303 (by decide +kernel) rfl
theorem fX11_144 : ∀ z, xFd (Cf z) RX11 144 11 59 := fun z => ⟨(RX11, TX11, 77), rfl, by decide, bw_1303⟩
theorem bw_1304 : (Jvm.Cond.fieldLink "HumUnheardModel" (147 : Nat) "HumUnheardModel" "tSource" "[I" : Cond) ∈ BW := bw 1304 (by decide +kernel) rfl
theorem fX11_147 : ∀ z, xFd (Cf z) RX11 147 11 60 := fun z => ⟨(RX11, TX11, 77), rfl, by decide, bw_1304⟩
theorem bw_1305 : (Jvm.Cond.fieldLink "HumUnheardModel" (150 : Nat) "HumUnheardModel" "tFrom" "[I" : Cond) ∈ BW := bw 1305 (by decide +kernel) rfl
theorem fX11_150 : ∀ z, xFd (Cf z) RX11 150 11 61 := fun z => ⟨(RX11, TX11, 77), rfl, by decide, bw_1305⟩
theorem bw_1306 : (Jvm.Cond.fieldLink "HumUnheardModel" (153 : Nat) "HumUnheardModel" "tTo" "[I" : Cond) ∈ BW := bw 1306 (by decide +kernel) rfl
theorem fX11_153 : ∀ z, xFd (Cf z) RX11 153 11 62 := fun z => ⟨(RX11, TX11, 77), rfl, by decide, bw_1306⟩
theorem bw_1307 : (Jvm.Cond.fieldLink "HumUnheardModel" (156 : Nat) "HumUnheardModel" "tEach" "[I" : Cond) ∈ BW := bw 1307 (by decide +kernel) rfl
theorem fX11_156 : ∀ z, xFd (Cf z) RX11 156 11 63 := fun z => ⟨(RX11, TX11, 77), rfl, by decide, bw_1307⟩
theorem bw_1308 : (Jvm.Cond.fieldLink "HumUnheardModel" (159 : Nat) "HumUnheardModel" "ear" "[I" : Cond) ∈ BW := bw 1308 (by decide +kernel) rfl
theorem fX11_159 : ∀ z, xFd (Cf z) RX11 159 11 64 := fun z => ⟨(RX11, TX11, 77), rfl, by decide, bw_1308⟩
theorem bw_1309 : (Jvm.Cond.fieldLink "HumUnheardModel" (162 : Nat) "HumUnheardModel" "trace" "[I" : Cond) ∈ BW := bw 1309 (by decide +kernel) rfl
theorem fX11_162 : ∀ z, xFd (Cf z) RX11 162 11 65 := fun z => ⟨(RX11, TX11, 77), rfl, by decide, bw_1309⟩
theorem bw_1311 : (Jvm.Cond.fieldLink "HumUnheardModel" (165 : Nat) "HumUnheardModel" "iNow" "I" : Cond) ∈ BW := bw 1311 (by decide +kernel) rfl
theorem fX11_165 : ∀ z, xFd (Cf z) RX11 165 11 67 := fun z => ⟨(RX11, TX11, 77), rfl, by decide, bw_1311⟩
theorem bw_1320 : (Jvm.Cond.fieldLink "HumUnheardModel" (168 : Nat) "HumUnheardModel" "kept" "[I" : Cond) ∈ BW := bw 1320 (by decide +kernel) rfl
theorem fX11_168 : ∀ z, xFd (Cf z) RX11 168 11 76 := fun z => ⟨(RX11, TX11, 77), rfl, by decide, bw_1320⟩
theorem bw_1245 : (Jvm.Cond.fieldLink "HumUnheardModel" (171 : Nat) "HumUnheardModel" "people" "I" : Cond) ∈ BW := bw 1245 (by decide +kernel) rfl
theorem fX11_171 : ∀ z, xFd (Cf z) RX11 171 11 1 := fun z => ⟨(RX11, TX11, 77), rfl, by decide, bw_1245⟩
theorem bw_1246 : (Jvm.Cond.fieldLink "HumUnheardModel" (174 : Nat) "HumUnheardModel" "sources" "I" : Cond) ∈ BW := bw 1246 (by decide +kernel) rfl
theorem fX11_174 : ∀ z, xFd (Cf z) RX11 174 11 2 := fun z => ⟨(RX11, TX11, 77), rfl, by decide, bw_1246⟩
theorem bw_1244 : (Jvm.Cond.fieldLink "HumUnheardModel" (200 : Nat) "HumUnheardModel" "now" "I" : Cond) ∈ BW := bw 1244 (by decide +kernel) rfl
theorem fX11_200 : ∀ z, xFd (Cf z) RX11 200 11 0 := fun z => ⟨(RX11, TX11, 77), rfl, by decide, bw_1244⟩
theorem bw_1295 : (Jvm.Cond.fieldLink "HumUnheardModel" (203 : Nat) "HumUnheardModel" "place" "I" : Cond) ∈ BW := bw 1295 (by decide +kernel) rfl
theorem fX11_203 : ∀ z, xFd (Cf z) RX11 203 11 51 := fun z => ⟨(RX11, TX11, 77), rfl, by decide, bw_1295⟩
theorem bw_1296 : (Jvm.Cond.fieldLink "HumUnheardModel" (206 : Nat) "HumUnheardModel" "end" "I" : Cond) ∈ BW := bw 1296 (by decide +kernel) rfl
theorem fX11_206 : ∀ z, xFd (Cf z) RX11 206 11 52 := fun z => ⟨(RX11, TX11, 77), rfl, by decide, bw_1296⟩
theorem bw_1294 : (Jvm.Cond.fieldLink "HumUnheardModel" (209 : Nat) "HumUnheardModel" "base" "I" : Cond) ∈ BW := bw 1294 (by decide +kernel) rfl
theorem fX11_209 : ∀ z, xFd (Cf z) RX11 209 11 50 := fun z => ⟨(RX11, TX11, 77), rfl, by decide, bw_1294⟩
theorem bw_1299 : (Jvm.Cond.fieldLink "HumUnheardModel" (212 : Nat) "HumUnheardModel" "wrongAt" "I" : Cond) ∈ BW := bw 1299 (by decide +kernel) rfl
theorem fX11_212 : ∀ z, xFd (Cf z) RX11 212 11 55 := fun z => ⟨(RX11, TX11, 77), rfl, by decide, bw_1299⟩
theorem bw_1298 : (Jvm.Cond.fieldLink "HumUnheardModel" (222 : Nat) "HumUnheardModel" "digitAt" "I" : Cond) ∈ BW := bw 1298 (by decide +kernel) rfl
theorem fX11_222 : ∀ z, xFd (Cf z) RX11 222 11 54 := fun z => ⟨(RX11, TX11, 77), rfl, by decide, bw_1298⟩
theorem bw_1297 : (Jvm.Cond.fieldLink "HumUnheardModel" (225 : Nat) "HumUnheardModel" "number" "I" : Cond) ∈ BW := bw 1297 (by decide +kernel) rfl
theorem fX11_225 : ∀ z, xFd (Cf z) RX11 225 11 53 := fun z => ⟨(RX11, TX11, 77), rfl, by decide, bw_1297⟩
theorem bw_1300 : (Jvm.Cond.fieldLink "HumUnheardModel" (238 : Nat) "HumUnheardModel" "tN" "I" : Cond) ∈ BW := bw 1300 (by decide +kernel) rfl
theorem fX11_238 : ∀ z, xFd (Cf z) RX11 238 11 56 := fun z => ⟨(RX11, TX11, 77), rfl, by decide, bw_1300⟩
theorem bw_1250 : (Jvm.Cond.fieldLink "HumUnheardModel" (257 : Nat) "HumUnheardModel" "plans" "I" : Cond) ∈ BW := bw 1250 (by decide +kernel) rfl
theorem fX11_257 : ∀ z, xFd (Cf z) RX11 257 11 6 := fun z => ⟨(RX11, TX11, 77), rfl, by decide, bw_1250⟩
theorem bw_1247 : (Jvm.Cond.fieldLink "HumUnheardModel" (303 : Nat) "HumUnheardModel" "presses" "I" : Cond) ∈ BW := bw 1247 (by decide +kernel) rfl
theorem fX11_303 : ∀ z, xFd (Cf z) RX11 303 11 3 := fun z => ⟨(RX11, TX11, 77), rfl, by decide, bw_1247⟩
theorem bw_1253 : (Jvm.Cond.fieldLink "HumUnheardModel" (306 : Nat) "HumUnheardModel" "came" "I" : Cond) ∈ BW := bw 1253 (by decide +kernel) rfl
theorem fX11_306 : ∀ z, xFd (Cf z) RX11 306 11 9 := fun z => ⟨(RX11, TX11, 77), rfl, by decide, bw_1253⟩
theorem bw_1248 : (Jvm.Cond.fieldLink "HumUnheardModel" (316 : Nat) "HumUnheardModel" "matches" "I" : Cond) ∈ BW := bw 1248 (by decide +kernel) rfl
theorem fX11_316 : ∀ z, xFd (Cf z) RX11 316 11 4 := fun z => ⟨(RX11, TX11, 77), rfl, by decide, bw_1248⟩
theorem bw_1249 : (Jvm.Cond.fieldLink "HumUnheardModel" (319 : Nat) "HumUnheardModel" "letters" "I" : Cond) ∈ BW := bw 1249 (by decide +kernel) rfl
theorem fX11_319 : ∀ z, xFd (Cf z) RX11 319 11 5 := fun z => ⟨(RX11, TX11, 77), rfl, by decide, bw_1249⟩
theorem bw_1310 : (Jvm.Cond.fieldLink "HumUnheardModel" (351 : Nat) "HumUnheardModel" "ran" "I" : Cond) ∈ BW := bw 1310 (by decide +kernel) rfl
theorem fX11_351 : ∀ z, xFd (Cf z) RX11 351 11 66 := fun z => ⟨(RX11, TX11, 77), rfl, by decide, bw_1310⟩
theorem bw_1312 : (Jvm.Cond.fieldLink "HumUnheardModel" (371 : Nat) "HumUnheardModel" "iPeople" "I" : Cond) ∈ BW := bw 1312 (by decide +kernel) rfl
theorem fX11_371 : ∀ z, xFd (Cf z) RX11 371 11 68 := fun z => ⟨(RX11, TX11, 77), rfl, by decide, bw_1312⟩
theorem bw_1313 : (Jvm.Cond.fieldLink "HumUnheardModel" (374 : Nat) "HumUnheardModel" "iSources" "I" : Cond) ∈ BW := bw 1313 (by decide +kernel) rfl
theorem fX11_374 : ∀ z, xFd (Cf z) RX11 374 11 69 := fun z => ⟨(RX11, TX11, 77), rfl, by decide, bw_1313⟩
theorem bw_1314 : (Jvm.Cond.fieldLink "HumUnheardModel" (377 : Nat) "HumUnheardModel" "iPresses" "I" : Cond) ∈ BW := bw 1314 (by decide +kernel) rfl
theorem fX11_377 : ∀ z, xFd (Cf z) RX11 377 11 70 := fun z => ⟨(RX11, TX11, 77), rfl, by decide, bw_1314⟩
theorem bw_1315 : (Jvm.Cond.fieldLink "HumUnheardModel" (380 : Nat) "HumUnheardModel" "iMatches" "I" : Cond) ∈ BW := bw 1315 (by decide +kernel) rfl
theorem fX11_380 : ∀ z, xFd (Cf z) RX11 380 11 71 := fun z => ⟨(RX11, TX11, 77), rfl, by decide, bw_1315⟩
theorem bw_1316 : (Jvm.Cond.fieldLink "HumUnheardModel" (383 : Nat) "HumUnheardModel" "iLetters" "I" : Cond) ∈ BW := bw 1316 (by decide +kernel) rfl
theorem fX11_383 : ∀ z, xFd (Cf z) RX11 383 11 72 := fun z => ⟨(RX11, TX11, 77), rfl, by decide, bw_1316⟩
theorem bw_1317 : (Jvm.Cond.fieldLink "HumUnheardModel" (386 : Nat) "HumUnheardModel" "iPlans" "I" : Cond) ∈ BW := bw 1317 (by decide +kernel) rfl
theorem fX11_386 : ∀ z, xFd (Cf z) RX11 386 11 73 := fun z => ⟨(RX11, TX11, 77), rfl, by decide, bw_1317⟩
theorem bw_1318 : (Jvm.Cond.fieldLink "HumUnheardModel" (389 : Nat) "HumUnheardModel" "iForced" "I" : Cond) ∈ BW := bw 1318 (by decide +kernel) rfl
theorem fX11_389 : ∀ z, xFd (Cf z) RX11 389 11 74 := fun z => ⟨(RX11, TX11, 77), rfl, by decide, bw_1318⟩
theorem bw_1319 : (Jvm.Cond.fieldLink "HumUnheardModel" (392 : Nat) "HumUnheardModel" "iCame" "I" : Cond) ∈ BW := bw 1319 (by decide +kernel) rfl
theorem fX11_392 : ∀ z, xFd (Cf z) RX11 392 11 75 := fun z => ⟨(RX11, TX11, 77), rfl, by decide, bw_1319⟩
theorem bw_1243 : (Jvm.Cond.methodLink "HumUnheardModel" (1 : Nat) ({ cls := "java/lang/Object", name := "<init>", desc := "()V" } : Jvm.MethodName) : Cond) ∈ BW := bw 1243 (by decide +kernel) rfl
theorem gX11_1 : ∀ z, Cond.methodLink RX11 1 objectInit ∈ (Cf z).1 := fun z => bw_1243
theorem bw_1631 : (Jvm.Cond.code ({ cls := "HumUnheardModel", name := "isHour", desc := "(I)Z" } : Jvm.MethodName) prog_13_method_7_code (2 : Nat) (Option.some Jvm.ClassFile.FieldType.boolean) : Cond) ∈ BW := bw 1631 (by decide +kernel) rfl
theorem cmX11_isHour : ∀ z, xCm (Cf z) MX11_isHour 1 := fun z => ⟨bw_92, bw_1631, by decide +kernel, by decide, by decide +kernel⟩
theorem bw_1628 : (Jvm.Cond.methodLink "HumUnheardModel" (177 : Nat) ({ cls := "HumUnheardModel", name := "isHour", desc := "(I)Z" } : Jvm.MethodName) : Cond) ∈ BW := bw 1628 (by decide +kernel) rfl
theorem bw_1630 : (Jvm.Cond.instanceMethod ({ cls := "HumUnheardModel", name := "isHour", desc := "(I)Z" } : Jvm.MethodName) : Cond) ∈ BW := bw 1630 (by decide +kernel) rfl
theorem bw_49 : Cond.selects "HumUnheardModel" ⟨"HumUnheardModel", "isHour", "(I)Z"⟩ ⟨"HumUnheardModel", "isHour", "(I)Z"⟩ ∈ BW := bw 49 (by decide +kernel) rfl
theorem gX11_177 : ∀ z, xCv (Cf z) RX11 177 MX11_isHour 1 := fun z => ⟨cmX11_isHour z, bw_1628, bw_1630, bw_49⟩
theorem bw_1483 : (Jvm.Cond.code ({ cls := "HumUnheardModel", name := "isShelf", desc := "(I)Z" } : Jvm.MethodName) prog_13_method_3_code (2 : Nat) (Option.some Jvm.ClassFile.FieldType.boolean) : Cond) ∈ BW := bw 1483 (by decide +kernel) rfl
theorem cmX11_isShelf : ∀ z, xCm (Cf z) MX11_isShelf 1 := fun z => ⟨bw_92, bw_1483, by decide +kernel, by decide, by decide +kernel⟩
theorem bw_1480 : (Jvm.Cond.methodLink "HumUnheardModel" (181 : Nat) ({ cls := "HumUnheardModel", name := "isShelf", desc := "(I)Z" } : Jvm.MethodName) : Cond) ∈ BW := bw 1480 (by decide +kernel) rfl
theorem bw_1482 : (Jvm.Cond.instanceMethod ({ cls := "HumUnheardModel", name := "isShelf", desc := "(I)Z" } : Jvm.MethodName) : Cond) ∈ BW := bw 1482 (by decide +kernel) rfl
theorem bw_33 : Cond.selects "HumUnheardModel" ⟨"HumUnheardModel", "isShelf", "(I)Z"⟩ ⟨"HumUnheardModel", "isShelf", "(I)Z"⟩ ∈ BW := bw 33 (by decide +kernel) rfl
theorem gX11_181 : ∀ z, xCv (Cf z) RX11 181 MX11_isShelf 1 := fun z => ⟨cmX11_isShelf z, bw_1480, bw_1482, bw_33⟩
theorem bw_1487 : (Jvm.Cond.code ({ cls := "HumUnheardModel", name := "no", desc := "(I)I" } : Jvm.MethodName) prog_13_method_2_code (2 : Nat) (Option.some Jvm.ClassFile.FieldType.int) : Cond) ∈ BW := bw 1487 (by decide +kernel) rfl
theorem cmX11_no : ∀ z, xCm (Cf z) MX11_no 1 := fun z => ⟨bw_92, bw_1487, by decide +kernel, by decide, by decide +kernel⟩
theorem bw_1484 : (Jvm.Cond.methodLink "HumUnheardModel" (184 : Nat) ({ cls := "HumUnheardModel", name := "no", desc := "(I)I" } : Jvm.MethodName) : Cond) ∈ BW := bw 1484 (by decide +kernel) rfl
theorem bw_1486 : (Jvm.Cond.instanceMethod ({ cls := "HumUnheardModel", name := "no", desc := "(I)I" } : Jvm.MethodName) : Cond) ∈ BW := bw 1486 (by decide +kernel) rfl
theorem bw_34 : Cond.selects "HumUnheardModel" ⟨"HumUnheardModel", "no", "(I)I"⟩ ⟨"HumUnheardModel", "no", "(I)I"⟩ ∈ BW := bw 34 (by decide +kernel) rfl
theorem gX11_184 : ∀ z, xCv (Cf z) RX11 184 MX11_no 1 := fun z => ⟨cmX11_no z, bw_1484, bw_1486, bw_34⟩
theorem bw_1507 : (Jvm.Cond.code ({ cls := "HumUnheardModel", name := "isSource", desc := "(I)Z" } : Jvm.MethodName) prog_13_method_6_code (2 : Nat) (Option.some Jvm.ClassFile.FieldType.boolean) : Cond) ∈ BW := bw 1507 (by decide +kernel) rfl
theorem cmX11_isSource : ∀ z, xCm (Cf z) MX11_isSource 1 := fun z => ⟨bw_92, bw_1507, by decide +kernel, by decide, by decide +kernel⟩
theorem bw_1504 : (Jvm.Cond.methodLink "HumUnheardModel" (188 : Nat) ({ cls := "HumUnheardModel", name := "isSource", desc := "(I)Z" } : Jvm.MethodName) : Cond) ∈ BW := bw 1504 (by decide +kernel) rfl
theorem bw_1506 : (Jvm.Cond.instanceMethod ({ cls := "HumUnheardModel", name := "isSource", desc := "(I)Z" } : Jvm.MethodName) : Cond) ∈ BW := bw 1506 (by decide +kernel) rfl
theorem bw_35 : Cond.selects "HumUnheardModel" ⟨"HumUnheardModel", "isSource", "(I)Z"⟩ ⟨"HumUnheardModel", "isSource", "(I)Z"⟩ ∈ BW := bw 35 (by decide +kernel) rfl
theorem gX11_188 : ∀ z, xCv (Cf z) RX11 188 MX11_isSource 1 := fun z => ⟨cmX11_isSource z, bw_1504, bw_1506, bw_35⟩
theorem bw_1523 : (Jvm.Cond.code ({ cls := "HumUnheardModel", name := "isSpot", desc := "(I)Z" } : Jvm.MethodName) prog_13_method_4_code (2 : Nat) (Option.some Jvm.ClassFile.FieldType.boolean) : Cond) ∈ BW := bw 1523 (by decide +kernel) rfl
theorem cmX11_isSpot : ∀ z, xCm (Cf z) MX11_isSpot 1 := fun z => ⟨bw_92, bw_1523, by decide +kernel, by decide, by decide +kernel⟩
theorem bw_1520 : (Jvm.Cond.methodLink "HumUnheardModel" (191 : Nat) ({ cls := "HumUnheardModel", name := "isSpot", desc := "(I)Z" } : Jvm.MethodName) : Cond) ∈ BW := bw 1520 (by decide +kernel) rfl
theorem bw_1522 : (Jvm.Cond.instanceMethod ({ cls := "HumUnheardModel", name := "isSpot", desc := "(I)Z" } : Jvm.MethodName) : Cond) ∈ BW := bw 1522 (by decide +kernel) rfl
theorem bw_36 : Cond.selects "HumUnheardModel" ⟨"HumUnheardModel", "isSpot", "(I)Z"⟩ ⟨"HumUnheardModel", "isSpot", "(I)Z"⟩ ∈ BW := bw 36 (by decide +kernel) rfl
theorem gX11_191 : ∀ z, xCv (Cf z) RX11 191 MX11_isSpot 1 := fun z => ⟨cmX11_isSpot z, bw_1520, bw_1522, bw_36⟩
theorem bw_1527 : (Jvm.Cond.code ({ cls := "HumUnheardModel", name := "isTone", desc := "(I)Z" } : Jvm.MethodName) prog_13_method_8_code (2 : Nat) (Option.some Jvm.ClassFile.FieldType.boolean) : Cond) ∈ BW := bw 1527 (by decide +kernel) rfl
theorem cmX11_isTone : ∀ z, xCm (Cf z) MX11_isTone 1 := fun z => ⟨bw_92, bw_1527, by decide +kernel, by decide, by decide +kernel⟩
theorem bw_1524 : (Jvm.Cond.methodLink "HumUnheardModel" (194 : Nat) ({ cls := "HumUnheardModel", name := "isTone", desc := "(I)Z" } : Jvm.MethodName) : Cond) ∈ BW := bw 1524 (by decide +kernel) rfl
theorem bw_1526 : (Jvm.Cond.instanceMethod ({ cls := "HumUnheardModel", name := "isTone", desc := "(I)Z" } : Jvm.MethodName) : Cond) ∈ BW := bw 1526 (by decide +kernel) rfl
theorem bw_37 : Cond.selects "HumUnheardModel" ⟨"HumUnheardModel", "isTone", "(I)Z"⟩ ⟨"HumUnheardModel", "isTone", "(I)Z"⟩ ∈ BW := bw 37 (by decide +kernel) rfl
theorem gX11_194 : ∀ z, xCv (Cf z) RX11 194 MX11_isTone 1 := fun z => ⟨cmX11_isTone z, bw_1524, bw_1526, bw_37⟩
theorem bw_1535 : (Jvm.Cond.code ({ cls := "HumUnheardModel", name := "isPerson", desc := "(I)Z" } : Jvm.MethodName) prog_13_method_5_code (2 : Nat) (Option.some Jvm.ClassFile.FieldType.boolean) : Cond) ∈ BW := bw 1535 (by decide +kernel) rfl
theorem cmX11_isPerson : ∀ z, xCm (Cf z) MX11_isPerson 1 := fun z => ⟨bw_92, bw_1535, by decide +kernel, by decide, by decide +kernel⟩
theorem bw_1532 : (Jvm.Cond.methodLink "HumUnheardModel" (197 : Nat) ({ cls := "HumUnheardModel", name := "isPerson", desc := "(I)Z" } : Jvm.MethodName) : Cond) ∈ BW := bw 1532 (by decide +kernel) rfl
theorem bw_1534 : (Jvm.Cond.instanceMethod ({ cls := "HumUnheardModel", name := "isPerson", desc := "(I)Z" } : Jvm.MethodName) : Cond) ∈ BW := bw 1534 (by decide +kernel) rfl
theorem bw_38 : Cond.selects "HumUnheardModel" ⟨"HumUnheardModel", "isPerson", "(I)Z"⟩ ⟨"HumUnheardModel", "isPerson", "(I)Z"⟩ ∈ BW := bw 38 (by decide +kernel) rfl
theorem gX11_197 : ∀ z, xCv (Cf z) RX11 197 MX11_isPerson 1 := fun z => ⟨cmX11_isPerson z, bw_1532, bw_1534, bw_38⟩
theorem bw_1591 : (Jvm.Cond.code ({ cls := "HumUnheardModel", name := "letter", desc := "()I" } : Jvm.MethodName) prog_13_method_30_code (1 : Nat) (Option.some Jvm.ClassFile.FieldType.int) : Cond) ∈ BW := bw 1591 (by decide +kernel) rfl
theorem cmX11_letter : ∀ z, xCm (Cf z) MX11_letter 0 := fun z => ⟨bw_92, bw_1591, by decide +kernel, by decide, by decide +kernel⟩
theorem bw_1588 : (Jvm.Cond.methodLink "HumUnheardModel" (215 : Nat) ({ cls := "HumUnheardModel", name := "letter", desc := "()I" } : Jvm.MethodName) : Cond) ∈ BW := bw 1588 (by decide +kernel) rfl
theorem bw_1590 : (Jvm.Cond.instanceMethod ({ cls := "HumUnheardModel", name := "letter", desc := "()I" } : Jvm.MethodName) : Cond) ∈ BW := bw 1590 (by decide +kernel) rfl
theorem bw_44 : Cond.selects "HumUnheardModel" ⟨"HumUnheardModel", "letter", "()I"⟩ ⟨"HumUnheardModel", "letter", "()I"⟩ ∈ BW := bw 44 (by decide +kernel) rfl
theorem gX11_215 : ∀ z, xCv (Cf z) RX11 215 MX11_letter 0 := fun z => ⟨cmX11_letter z, bw_1588, bw_1590, bw_44⟩
theorem bw_1595 : (Jvm.Cond.code ({ cls := "HumUnheardModel", name := "wrong", desc := "(I)Z" } : Jvm.MethodName) prog_13_method_31_code (2 : Nat) (Option.some Jvm.ClassFile.FieldType.boolean) : Cond) ∈ BW := bw 1595 (by decide +kernel) rfl
theorem cmX11_wrong : ∀ z, xCm (Cf z) MX11_wrong 1 := fun z => ⟨bw_92, bw_1595, by decide +kernel, by decide, by decide +kernel⟩
theorem bw_1592 : (Jvm.Cond.methodLink "HumUnheardModel" (219 : Nat) ({ cls := "HumUnheardModel", name := "wrong", desc := "(I)Z" } : Jvm.MethodName) : Cond) ∈ BW := bw 1592 (by decide +kernel) rfl
theorem bw_1594 : (Jvm.Cond.instanceMethod ({ cls := "HumUnheardModel", name := "wrong", desc := "(I)Z" } : Jvm.MethodName) : Cond) ∈ BW := bw 1594 (by decide +kernel) rfl
theorem bw_45 : Cond.selects "HumUnheardModel" ⟨"HumUnheardModel", "wrong", "(I)Z"⟩ ⟨"HumUnheardModel", "wrong", "(I)Z"⟩ ∈ BW := bw 45 (by decide +kernel) rfl
theorem gX11_219 : ∀ z, xCv (Cf z) RX11 219 MX11_wrong 1 := fun z => ⟨cmX11_wrong z, bw_1592, bw_1594, bw_45⟩
theorem bw_1603 : (Jvm.Cond.code ({ cls := "HumUnheardModel", name := "isDigit", desc := "()Z" } : Jvm.MethodName) prog_13_method_33_code (1 : Nat) (Option.some Jvm.ClassFile.FieldType.boolean) : Cond) ∈ BW := bw 1603 (by decide +kernel) rfl
theorem cmX11_isDigit : ∀ z, xCm (Cf z) MX11_isDigit 0 := fun z => ⟨bw_92, bw_1603, by decide +kernel, by decide, by decide +kernel⟩
theorem bw_1600 : (Jvm.Cond.methodLink "HumUnheardModel" (228 : Nat) ({ cls := "HumUnheardModel", name := "isDigit", desc := "()Z" } : Jvm.MethodName) : Cond) ∈ BW := bw 1600 (by decide +kernel) rfl
theorem bw_1602 : (Jvm.Cond.instanceMethod ({ cls := "HumUnheardModel", name := "isDigit", desc := "()Z" } : Jvm.MethodName) : Cond) ∈ BW := bw 1602 (by decide +kernel) rfl
theorem bw_47 : Cond.selects "HumUnheardModel" ⟨"HumUnheardModel", "isDigit", "()Z"⟩ ⟨"HumUnheardModel", "isDigit", "()Z"⟩ ∈ BW := bw 47 (by decide +kernel) rfl
theorem gX11_228 : ∀ z, xCv (Cf z) RX11 228 MX11_isDigit 0 := fun z => ⟨cmX11_isDigit z, bw_1600, bw_1602, bw_47⟩
theorem bw_1587 : (Jvm.Cond.code ({ cls := "HumUnheardModel", name := "takes", desc := "(I)Z" } : Jvm.MethodName) prog_13_method_32_code (2 : Nat) (Option.some Jvm.ClassFile.FieldType.boolean) : Cond) ∈ BW := bw 1587 (by decide +kernel) rfl
theorem cmX11_takes : ∀ z, xCm (Cf z) MX11_takes 1 := fun z => ⟨bw_92, bw_1587, by decide +kernel, by decide, by decide +kernel⟩
theorem bw_1584 : (Jvm.Cond.methodLink "HumUnheardModel" (232 : Nat) ({ cls := "HumUnheardModel", name := "takes", desc := "(I)Z" } : Jvm.MethodName) : Cond) ∈ BW := bw 1584 (by decide +kernel) rfl
theorem bw_1586 : (Jvm.Cond.instanceMethod ({ cls := "HumUnheardModel", name := "takes", desc := "(I)Z" } : Jvm.MethodName) : Cond) ∈ BW := bw 1586 (by decide +kernel) rfl
theorem bw_43 : Cond.selects "HumUnheardModel" ⟨"HumUnheardModel", "takes", "(I)Z"⟩ ⟨"HumUnheardModel", "takes", "(I)Z"⟩ ∈ BW := bw 43 (by decide +kernel) rfl
theorem gX11_232 : ∀ z, xCv (Cf z) RX11 232 MX11_takes 1 := fun z => ⟨cmX11_takes z, bw_1584, bw_1586, bw_43⟩
theorem bw_1599 : (Jvm.Cond.code ({ cls := "HumUnheardModel", name := "number", desc := "(II)Z" } : Jvm.MethodName) prog_13_method_34_code (4 : Nat) (Option.some Jvm.ClassFile.FieldType.boolean) : Cond) ∈ BW := bw 1599 (by decide +kernel) rfl
theorem cmX11_number : ∀ z, xCm (Cf z) MX11_number 2 := fun z => ⟨bw_92, bw_1599, by decide +kernel, by decide, by decide +kernel⟩
theorem bw_1596 : (Jvm.Cond.methodLink "HumUnheardModel" (235 : Nat) ({ cls := "HumUnheardModel", name := "number", desc := "(II)Z" } : Jvm.MethodName) : Cond) ∈ BW := bw 1596 (by decide +kernel) rfl
theorem bw_1598 : (Jvm.Cond.instanceMethod ({ cls := "HumUnheardModel", name := "number", desc := "(II)Z" } : Jvm.MethodName) : Cond) ∈ BW := bw 1598 (by decide +kernel) rfl
theorem bw_46 : Cond.selects "HumUnheardModel" ⟨"HumUnheardModel", "number", "(II)Z"⟩ ⟨"HumUnheardModel", "number", "(II)Z"⟩ ∈ BW := bw 46 (by decide +kernel) rfl
theorem gX11_235 : ∀ z, xCv (Cf z) RX11 235 MX11_number 2 := fun z => ⟨cmX11_number z, bw_1596, bw_1598, bw_46⟩
theorem bw_1583 : (Jvm.Cond.code ({ cls := "HumUnheardModel", name := "item", desc := "()Z" } : Jvm.MethodName) prog_13_method_36_code (2 : Nat) (Option.some Jvm.ClassFile.FieldType.boolean) : Cond) ∈ BW := bw 1583 (by decide +kernel) rfl
theorem cmX11_item : ∀ z, xCm (Cf z) MX11_item 0 := fun z => ⟨bw_92, bw_1583, by decide +kernel, by decide, by decide +kernel⟩
theorem bw_1580 : (Jvm.Cond.methodLink "HumUnheardModel" (241 : Nat) ({ cls := "HumUnheardModel", name := "item", desc := "()Z" } : Jvm.MethodName) : Cond) ∈ BW := bw 1580 (by decide +kernel) rfl
theorem bw_1582 : (Jvm.Cond.instanceMethod ({ cls := "HumUnheardModel", name := "item", desc := "()Z" } : Jvm.MethodName) : Cond) ∈ BW := bw 1582 (by decide +kernel) rfl
theorem bw_42 : Cond.selects "HumUnheardModel" ⟨"HumUnheardModel", "item", "()Z"⟩ ⟨"HumUnheardModel", "item", "()Z"⟩ ∈ BW := bw 42 (by decide +kernel) rfl
theorem gX11_241 : ∀ z, xCv (Cf z) RX11 241 MX11_item 0 := fun z => ⟨cmX11_item z, bw_1580, bw_1582, bw_42⟩
theorem bw_1607 : (Jvm.Cond.code ({ cls := "HumUnheardModel", name := "oneLaw", desc := "()Z" } : Jvm.MethodName) prog_13_method_35_code (5 : Nat) (Option.some Jvm.ClassFile.FieldType.boolean) : Cond) ∈ BW := bw 1607 (by decide +kernel) rfl
theorem cmX11_oneLaw : ∀ z, xCm (Cf z) MX11_oneLaw 0 := fun z => ⟨bw_92, bw_1607, by decide +kernel, by decide, by decide +kernel⟩
theorem bw_1604 : (Jvm.Cond.methodLink "HumUnheardModel" (244 : Nat) ({ cls := "HumUnheardModel", name := "oneLaw", desc := "()Z" } : Jvm.MethodName) : Cond) ∈ BW := bw 1604 (by decide +kernel) rfl
theorem bw_1606 : (Jvm.Cond.instanceMethod ({ cls := "HumUnheardModel", name := "oneLaw", desc := "()Z" } : Jvm.MethodName) : Cond) ∈ BW := bw 1606 (by decide +kernel) rfl
theorem bw_48 : Cond.selects "HumUnheardModel" ⟨"HumUnheardModel", "oneLaw", "()Z"⟩ ⟨"HumUnheardModel", "oneLaw", "()Z"⟩ ∈ BW := bw 48 (by decide +kernel) rfl
theorem gX11_244 : ∀ z, xCv (Cf z) RX11 244 MX11_oneLaw 0 := fun z => ⟨cmX11_oneLaw z, bw_1604, bw_1606, bw_48⟩
theorem bw_1575 : (Jvm.Cond.code ({ cls := "HumUnheardModel", name := "wants", desc := "(I)I" } : Jvm.MethodName) prog_13_method_19_code (2 : Nat) (Option.some Jvm.ClassFile.FieldType.int) : Cond) ∈ BW := bw 1575 (by decide +kernel) rfl
theorem cmX11_wants : ∀ z, xCm (Cf z) MX11_wants 1 := fun z => ⟨bw_92, bw_1575, by decide +kernel, by decide, by decide +kernel⟩
theorem bw_1572 : (Jvm.Cond.methodLink "HumUnheardModel" (247 : Nat) ({ cls := "HumUnheardModel", name := "wants", desc := "(I)I" } : Jvm.MethodName) : Cond) ∈ BW := bw 1572 (by decide +kernel) rfl
theorem bw_1574 : (Jvm.Cond.instanceMethod ({ cls := "HumUnheardModel", name := "wants", desc := "(I)I" } : Jvm.MethodName) : Cond) ∈ BW := bw 1574 (by decide +kernel) rfl
theorem bw_40 : Cond.selects "HumUnheardModel" ⟨"HumUnheardModel", "wants", "(I)I"⟩ ⟨"HumUnheardModel", "wants", "(I)I"⟩ ∈ BW := bw 40 (by decide +kernel) rfl
theorem gX11_247 : ∀ z, xCv (Cf z) RX11 247 MX11_wants 1 := fun z => ⟨cmX11_wants z, bw_1572, bw_1574, bw_40⟩
theorem bw_1579 : (Jvm.Cond.code ({ cls := "HumUnheardModel", name := "reads", desc := "(Z)Z" } : Jvm.MethodName) prog_13_method_37_code (2 : Nat) (Option.some Jvm.ClassFile.FieldType.boolean) : Cond) ∈ BW := bw 1579 (by decide +kernel) rfl
theorem cmX11_reads : ∀ z, xCm (Cf z) MX11_reads 1 := fun z => ⟨bw_92, bw_1579, by decide +kernel, by decide, by decide +kernel⟩
theorem bw_1576 : (Jvm.Cond.methodLink "HumUnheardModel" (250 : Nat) ({ cls := "HumUnheardModel", name := "reads", desc := "(Z)Z" } : Jvm.MethodName) : Cond) ∈ BW := bw 1576 (by decide +kernel) rfl
theorem bw_1578 : (Jvm.Cond.instanceMethod ({ cls := "HumUnheardModel", name := "reads", desc := "(Z)Z" } : Jvm.MethodName) : Cond) ∈ BW := bw 1578 (by decide +kernel) rfl
theorem bw_41 : Cond.selects "HumUnheardModel" ⟨"HumUnheardModel", "reads", "(Z)Z"⟩ ⟨"HumUnheardModel", "reads", "(Z)Z"⟩ ∈ BW := bw 41 (by decide +kernel) rfl
theorem gX11_250 : ∀ z, xCv (Cf z) RX11 250 MX11_reads 1 := fun z => ⟨cmX11_reads z, bw_1576, bw_1578, bw_41⟩
theorem bw_1571 : (Jvm.Cond.code ({ cls := "HumUnheardModel", name := "text", desc := "(IZ)I" } : Jvm.MethodName) prog_13_method_38_code (4 : Nat) (Option.some Jvm.ClassFile.FieldType.int) : Cond) ∈ BW := bw 1571 (by decide +kernel) rfl
theorem cmX11_text : ∀ z, xCm (Cf z) MX11_text 2 := fun z => ⟨bw_92, bw_1571, by decide +kernel, by decide, by decide +kernel⟩
theorem bw_1568 : (Jvm.Cond.methodLink "HumUnheardModel" (253 : Nat) ({ cls := "HumUnheardModel", name := "text", desc := "(IZ)I" } : Jvm.MethodName) : Cond) ∈ BW := bw 1568 (by decide +kernel) rfl
theorem bw_1570 : (Jvm.Cond.instanceMethod ({ cls := "HumUnheardModel", name := "text", desc := "(IZ)I" } : Jvm.MethodName) : Cond) ∈ BW := bw 1570 (by decide +kernel) rfl
theorem bw_39 : Cond.selects "HumUnheardModel" ⟨"HumUnheardModel", "text", "(IZ)I"⟩ ⟨"HumUnheardModel", "text", "(IZ)I"⟩ ∈ BW := bw 39 (by decide +kernel) rfl
theorem gX11_253 : ∀ z, xCv (Cf z) RX11 253 MX11_text 2 := fun z => ⟨cmX11_text z, bw_1568, bw_1570, bw_39⟩
theorem bw_1643 : (Jvm.Cond.code ({ cls := "HumUnheardModel", name := "isOf", desc := "(II)Z" } : Jvm.MethodName) prog_13_method_44_code (4 : Nat) (Option.some Jvm.ClassFile.FieldType.boolean) : Cond) ∈ BW := bw 1643 (by decide +kernel) rfl
theorem cmX11_isOf : ∀ z, xCm (Cf z) MX11_isOf 2 := fun z => ⟨bw_92, bw_1643, by decide +kernel, by decide, by decide +kernel⟩
theorem bw_1640 : (Jvm.Cond.methodLink "HumUnheardModel" (260 : Nat) ({ cls := "HumUnheardModel", name := "isOf", desc := "(II)Z" } : Jvm.MethodName) : Cond) ∈ BW := bw 1640 (by decide +kernel) rfl
theorem bw_1642 : (Jvm.Cond.instanceMethod ({ cls := "HumUnheardModel", name := "isOf", desc := "(II)Z" } : Jvm.MethodName) : Cond) ∈ BW := bw 1642 (by decide +kernel) rfl
theorem bw_52 : Cond.selects "HumUnheardModel" ⟨"HumUnheardModel", "isOf", "(II)Z"⟩ ⟨"HumUnheardModel", "isOf", "(II)Z"⟩ ∈ BW := bw 52 (by decide +kernel) rfl
theorem gX11_260 : ∀ z, xCv (Cf z) RX11 260 MX11_isOf 2 := fun z => ⟨cmX11_isOf z, bw_1640, bw_1642, bw_52⟩
theorem bw_1639 : (Jvm.Cond.code ({ cls := "HumUnheardModel", name := "isOff", desc := "(II)Z" } : Jvm.MethodName) prog_13_method_45_code (5 : Nat) (Option.some Jvm.ClassFile.FieldType.boolean) : Cond) ∈ BW := bw 1639 (by decide +kernel) rfl
theorem cmX11_isOff : ∀ z, xCm (Cf z) MX11_isOff 2 := fun z => ⟨bw_92, bw_1639, by decide +kernel, by decide, by decide +kernel⟩
theorem bw_1636 : (Jvm.Cond.methodLink "HumUnheardModel" (263 : Nat) ({ cls := "HumUnheardModel", name := "isOff", desc := "(II)Z" } : Jvm.MethodName) : Cond) ∈ BW := bw 1636 (by decide +kernel) rfl
theorem bw_1638 : (Jvm.Cond.instanceMethod ({ cls := "HumUnheardModel", name := "isOff", desc := "(II)Z" } : Jvm.MethodName) : Cond) ∈ BW := bw 1638 (by decide +kernel) rfl
theorem bw_51 : Cond.selects "HumUnheardModel" ⟨"HumUnheardModel", "isOff", "(II)Z"⟩ ⟨"HumUnheardModel", "isOff", "(II)Z"⟩ ∈ BW := bw 51 (by decide +kernel) rfl
theorem gX11_263 : ∀ z, xCv (Cf z) RX11 263 MX11_isOff 2 := fun z => ⟨cmX11_isOff z, bw_1636, bw_1638, bw_51⟩
theorem bw_1659 : (Jvm.Cond.code ({ cls := "HumUnheardModel", name := "apart", desc := "(II)I" } : Jvm.MethodName) prog_13_method_11_code (3 : Nat) (Option.some Jvm.ClassFile.FieldType.int) : Cond) ∈ BW := bw 1659 (by decide +kernel) rfl
theorem cmX11_apart : ∀ z, xCm (Cf z) MX11_apart 2 := fun z => ⟨bw_92, bw_1659, by decide +kernel, by decide, by decide +kernel⟩
theorem bw_1656 : (Jvm.Cond.methodLink "HumUnheardModel" (266 : Nat) ({ cls := "HumUnheardModel", name := "apart", desc := "(II)I" } : Jvm.MethodName) : Cond) ∈ BW := bw 1656 (by decide +kernel) rfl
theorem bw_1658 : (Jvm.Cond.instanceMethod ({ cls := "HumUnheardModel", name := "apart", desc := "(II)I" } : Jvm.MethodName) : Cond) ∈ BW := bw 1658 (by decide +kernel) rfl
theorem bw_56 : Cond.selects "HumUnheardModel" ⟨"HumUnheardModel", "apart", "(II)I"⟩ ⟨"HumUnheardModel", "apart", "(II)I"⟩ ∈ BW := bw 56 (by decide +kernel) rfl
theorem gX11_266 : ∀ z, xCv (Cf z) RX11 266 MX11_apart 2 := fun z => ⟨cmX11_apart z, bw_1656, bw_1658, bw_56⟩
theorem bw_1647 : (Jvm.Cond.code ({ cls := "HumUnheardModel", name := "isFanning", desc := "(II)Z" } : Jvm.MethodName) prog_13_method_47_code (5 : Nat) (Option.some Jvm.ClassFile.FieldType.boolean) : Cond) ∈ BW := bw 1647 (by decide +kernel) rfl
theorem cmX11_isFanning : ∀ z, xCm (Cf z) MX11_isFanning 2 := fun z => ⟨bw_92, bw_1647, by decide +kernel, by decide, by decide +kernel⟩
theorem bw_1644 : (Jvm.Cond.methodLink "HumUnheardModel" (270 : Nat) ({ cls := "HumUnheardModel", name := "isFanning", desc := "(II)Z" } : Jvm.MethodName) : Cond) ∈ BW := bw 1644 (by decide +kernel) rfl
theorem bw_1646 : (Jvm.Cond.instanceMethod ({ cls := "HumUnheardModel", name := "isFanning", desc := "(II)Z" } : Jvm.MethodName) : Cond) ∈ BW := bw 1646 (by decide +kernel) rfl
theorem bw_53 : Cond.selects "HumUnheardModel" ⟨"HumUnheardModel", "isFanning", "(II)Z"⟩ ⟨"HumUnheardModel", "isFanning", "(II)Z"⟩ ∈ BW := bw 53 (by decide +kernel) rfl
theorem gX11_270 : ∀ z, xCv (Cf z) RX11 270 MX11_isFanning 2 := fun z => ⟨cmX11_isFanning z, bw_1644, bw_1646, bw_53⟩
theorem bw_1651 : (Jvm.Cond.code ({ cls := "HumUnheardModel", name := "isFan", desc := "(I)Z" } : Jvm.MethodName) prog_13_method_46_code (2 : Nat) (Option.some Jvm.ClassFile.FieldType.boolean) : Cond) ∈ BW := bw 1651 (by decide +kernel) rfl
theorem cmX11_isFan : ∀ z, xCm (Cf z) MX11_isFan 1 := fun z => ⟨bw_92, bw_1651, by decide +kernel, by decide, by decide +kernel⟩
theorem bw_1648 : (Jvm.Cond.methodLink "HumUnheardModel" (273 : Nat) ({ cls := "HumUnheardModel", name := "isFan", desc := "(I)Z" } : Jvm.MethodName) : Cond) ∈ BW := bw 1648 (by decide +kernel) rfl
theorem bw_1650 : (Jvm.Cond.instanceMethod ({ cls := "HumUnheardModel", name := "isFan", desc := "(I)Z" } : Jvm.MethodName) : Cond) ∈ BW := bw 1650 (by decide +kernel) rfl
theorem bw_54 : Cond.selects "HumUnheardModel" ⟨"HumUnheardModel", "isFan", "(I)Z"⟩ ⟨"HumUnheardModel", "isFan", "(I)Z"⟩ ∈ BW := bw 54 (by decide +kernel) rfl
theorem gX11_273 : ∀ z, xCv (Cf z) RX11 273 MX11_isFan 1 := fun z => ⟨cmX11_isFan z, bw_1648, bw_1650, bw_54⟩
theorem bw_1655 : (Jvm.Cond.code ({ cls := "HumUnheardModel", name := "beat", desc := "(II)Z" } : Jvm.MethodName) prog_13_method_48_code (4 : Nat) (Option.some Jvm.ClassFile.FieldType.boolean) : Cond) ∈ BW := bw 1655 (by decide +kernel) rfl
theorem cmX11_beat : ∀ z, xCm (Cf z) MX11_beat 2 := fun z => ⟨bw_92, bw_1655, by decide +kernel, by decide, by decide +kernel⟩
theorem bw_1652 : (Jvm.Cond.methodLink "HumUnheardModel" (276 : Nat) ({ cls := "HumUnheardModel", name := "beat", desc := "(II)Z" } : Jvm.MethodName) : Cond) ∈ BW := bw 1652 (by decide +kernel) rfl
theorem bw_1654 : (Jvm.Cond.instanceMethod ({ cls := "HumUnheardModel", name := "beat", desc := "(II)Z" } : Jvm.MethodName) : Cond) ∈ BW := bw 1654 (by decide +kernel) rfl
theorem bw_55 : Cond.selects "HumUnheardModel" ⟨"HumUnheardModel", "beat", "(II)Z"⟩ ⟨"HumUnheardModel", "beat", "(II)Z"⟩ ∈ BW := bw 55 (by decide +kernel) rfl
theorem gX11_276 : ∀ z, xCv (Cf z) RX11 276 MX11_beat 2 := fun z => ⟨cmX11_beat z, bw_1652, bw_1654, bw_55⟩
theorem bw_1671 : (Jvm.Cond.code ({ cls := "HumUnheardModel", name := "isTalk", desc := "(I)Z" } : Jvm.MethodName) prog_13_method_50_code (2 : Nat) (Option.some Jvm.ClassFile.FieldType.boolean) : Cond) ∈ BW := bw 1671 (by decide +kernel) rfl
theorem cmX11_isTalk : ∀ z, xCm (Cf z) MX11_isTalk 1 := fun z => ⟨bw_92, bw_1671, by decide +kernel, by decide, by decide +kernel⟩
theorem bw_1668 : (Jvm.Cond.methodLink "HumUnheardModel" (279 : Nat) ({ cls := "HumUnheardModel", name := "isTalk", desc := "(I)Z" } : Jvm.MethodName) : Cond) ∈ BW := bw 1668 (by decide +kernel) rfl
theorem bw_1670 : (Jvm.Cond.instanceMethod ({ cls := "HumUnheardModel", name := "isTalk", desc := "(I)Z" } : Jvm.MethodName) : Cond) ∈ BW := bw 1670 (by decide +kernel) rfl
theorem bw_58 : Cond.selects "HumUnheardModel" ⟨"HumUnheardModel", "isTalk", "(I)Z"⟩ ⟨"HumUnheardModel", "isTalk", "(I)Z"⟩ ∈ BW := bw 58 (by decide +kernel) rfl
theorem gX11_279 : ∀ z, xCv (Cf z) RX11 279 MX11_isTalk 1 := fun z => ⟨cmX11_isTalk z, bw_1668, bw_1670, bw_58⟩
theorem bw_1667 : (Jvm.Cond.code ({ cls := "HumUnheardModel", name := "level", desc := "(II)I" } : Jvm.MethodName) prog_13_method_51_code (6 : Nat) (Option.some Jvm.ClassFile.FieldType.int) : Cond) ∈ BW := bw 1667 (by decide +kernel) rfl
theorem cmX11_level : ∀ z, xCm (Cf z) MX11_level 2 := fun z => ⟨bw_92, bw_1667, by decide +kernel, by decide, by decide +kernel⟩
theorem bw_1664 : (Jvm.Cond.methodLink "HumUnheardModel" (282 : Nat) ({ cls := "HumUnheardModel", name := "level", desc := "(II)I" } : Jvm.MethodName) : Cond) ∈ BW := bw 1664 (by decide +kernel) rfl
theorem bw_1666 : (Jvm.Cond.instanceMethod ({ cls := "HumUnheardModel", name := "level", desc := "(II)I" } : Jvm.MethodName) : Cond) ∈ BW := bw 1666 (by decide +kernel) rfl
theorem bw_57 : Cond.selects "HumUnheardModel" ⟨"HumUnheardModel", "level", "(II)I"⟩ ⟨"HumUnheardModel", "level", "(II)I"⟩ ∈ BW := bw 57 (by decide +kernel) rfl
theorem gX11_282 : ∀ z, xCv (Cf z) RX11 282 MX11_level 2 := fun z => ⟨cmX11_level z, bw_1664, bw_1666, bw_57⟩
theorem bw_1679 : (Jvm.Cond.code ({ cls := "HumUnheardModel", name := "need", desc := "(II)I" } : Jvm.MethodName) prog_13_method_52_code (3 : Nat) (Option.some Jvm.ClassFile.FieldType.int) : Cond) ∈ BW := bw 1679 (by decide +kernel) rfl
theorem cmX11_need : ∀ z, xCm (Cf z) MX11_need 2 := fun z => ⟨bw_92, bw_1679, by decide +kernel, by decide, by decide +kernel⟩
theorem bw_1676 : (Jvm.Cond.methodLink "HumUnheardModel" (285 : Nat) ({ cls := "HumUnheardModel", name := "need", desc := "(II)I" } : Jvm.MethodName) : Cond) ∈ BW := bw 1676 (by decide +kernel) rfl
theorem bw_1678 : (Jvm.Cond.instanceMethod ({ cls := "HumUnheardModel", name := "need", desc := "(II)I" } : Jvm.MethodName) : Cond) ∈ BW := bw 1678 (by decide +kernel) rfl
theorem bw_59 : Cond.selects "HumUnheardModel" ⟨"HumUnheardModel", "need", "(II)I"⟩ ⟨"HumUnheardModel", "need", "(II)I"⟩ ∈ BW := bw 59 (by decide +kernel) rfl
theorem gX11_285 : ∀ z, xCv (Cf z) RX11 285 MX11_need 2 := fun z => ⟨cmX11_need z, bw_1676, bw_1678, bw_59⟩
theorem bw_1695 : (Jvm.Cond.code ({ cls := "HumUnheardModel", name := "couldHear", desc := "(III)Z" } : Jvm.MethodName) prog_13_method_53_code (5 : Nat) (Option.some Jvm.ClassFile.FieldType.boolean) : Cond) ∈ BW := bw 1695 (by decide +kernel) rfl
theorem cmX11_couldHear : ∀ z, xCm (Cf z) MX11_couldHear 3 := fun z => ⟨bw_92, bw_1695, by decide +kernel, by decide, by decide +kernel⟩
theorem bw_1692 : (Jvm.Cond.methodLink "HumUnheardModel" (288 : Nat) ({ cls := "HumUnheardModel", name := "couldHear", desc := "(III)Z" } : Jvm.MethodName) : Cond) ∈ BW := bw 1692 (by decide +kernel) rfl
theorem bw_1694 : (Jvm.Cond.instanceMethod ({ cls := "HumUnheardModel", name := "couldHear", desc := "(III)Z" } : Jvm.MethodName) : Cond) ∈ BW := bw 1694 (by decide +kernel) rfl
theorem bw_62 : Cond.selects "HumUnheardModel" ⟨"HumUnheardModel", "couldHear", "(III)Z"⟩ ⟨"HumUnheardModel", "couldHear", "(III)Z"⟩ ∈ BW := bw 62 (by decide +kernel) rfl
theorem gX11_288 : ∀ z, xCv (Cf z) RX11 288 MX11_couldHear 3 := fun z => ⟨cmX11_couldHear z, bw_1692, bw_1694, bw_62⟩
theorem bw_1635 : (Jvm.Cond.code ({ cls := "HumUnheardModel", name := "isSounding", desc := "(II)Z" } : Jvm.MethodName) prog_13_method_49_code (4 : Nat) (Option.some Jvm.ClassFile.FieldType.boolean) : Cond) ∈ BW := bw 1635 (by decide +kernel) rfl
theorem cmX11_isSounding : ∀ z, xCm (Cf z) MX11_isSounding 2 := fun z => ⟨bw_92, bw_1635, by decide +kernel, by decide, by decide +kernel⟩
theorem bw_1632 : (Jvm.Cond.methodLink "HumUnheardModel" (292 : Nat) ({ cls := "HumUnheardModel", name := "isSounding", desc := "(II)Z" } : Jvm.MethodName) : Cond) ∈ BW := bw 1632 (by decide +kernel) rfl
theorem bw_1634 : (Jvm.Cond.instanceMethod ({ cls := "HumUnheardModel", name := "isSounding", desc := "(II)Z" } : Jvm.MethodName) : Cond) ∈ BW := bw 1634 (by decide +kernel) rfl
theorem bw_50 : Cond.selects "HumUnheardModel" ⟨"HumUnheardModel", "isSounding", "(II)Z"⟩ ⟨"HumUnheardModel", "isSounding", "(II)Z"⟩ ∈ BW := bw 50 (by decide +kernel) rfl
theorem gX11_292 : ∀ z, xCv (Cf z) RX11 292 MX11_isSounding 2 := fun z => ⟨cmX11_isSounding z, bw_1632, bw_1634, bw_50⟩
theorem bw_1691 : (Jvm.Cond.code ({ cls := "HumUnheardModel", name := "isHearing", desc := "(IIII)Z" } : Jvm.MethodName) prog_13_method_54_code (5 : Nat) (Option.some Jvm.ClassFile.FieldType.boolean) : Cond) ∈ BW := bw 1691 (by decide +kernel) rfl
theorem cmX11_isHearing : ∀ z, xCm (Cf z) MX11_isHearing 4 := fun z => ⟨bw_92, bw_1691, by decide +kernel, by decide, by decide +kernel⟩
theorem bw_1688 : (Jvm.Cond.methodLink "HumUnheardModel" (295 : Nat) ({ cls := "HumUnheardModel", name := "isHearing", desc := "(IIII)Z" } : Jvm.MethodName) : Cond) ∈ BW := bw 1688 (by decide +kernel) rfl
theorem bw_1690 : (Jvm.Cond.instanceMethod ({ cls := "HumUnheardModel", name := "isHearing", desc := "(IIII)Z" } : Jvm.MethodName) : Cond) ∈ BW := bw 1690 (by decide +kernel) rfl
theorem bw_61 : Cond.selects "HumUnheardModel" ⟨"HumUnheardModel", "isHearing", "(IIII)Z"⟩ ⟨"HumUnheardModel", "isHearing", "(IIII)Z"⟩ ∈ BW := bw 61 (by decide +kernel) rfl
theorem gX11_295 : ∀ z, xCv (Cf z) RX11 295 MX11_isHearing 4 := fun z => ⟨cmX11_isHearing z, bw_1688, bw_1690, bw_61⟩
theorem bw_1687 : (Jvm.Cond.code ({ cls := "HumUnheardModel", name := "heard", desc := "(III)I" } : Jvm.MethodName) prog_13_method_55_code (6 : Nat) (Option.some Jvm.ClassFile.FieldType.int) : Cond) ∈ BW := bw 1687 (by decide +kernel) rfl
theorem cmX11_heard : ∀ z, xCm (Cf z) MX11_heard 3 := fun z => ⟨bw_92, bw_1687, by decide +kernel, by decide, by decide +kernel⟩
theorem bw_1684 : (Jvm.Cond.methodLink "HumUnheardModel" (299 : Nat) ({ cls := "HumUnheardModel", name := "heard", desc := "(III)I" } : Jvm.MethodName) : Cond) ∈ BW := bw 1684 (by decide +kernel) rfl
theorem bw_1686 : (Jvm.Cond.instanceMethod ({ cls := "HumUnheardModel", name := "heard", desc := "(III)I" } : Jvm.MethodName) : Cond) ∈ BW := bw 1686 (by decide +kernel) rfl
theorem bw_60 : Cond.selects "HumUnheardModel" ⟨"HumUnheardModel", "heard", "(III)I"⟩ ⟨"HumUnheardModel", "heard", "(III)I"⟩ ∈ BW := bw 60 (by decide +kernel) rfl
theorem gX11_299 : ∀ z, xCv (Cf z) RX11 299 MX11_heard 3 := fun z => ⟨cmX11_heard z, bw_1684, bw_1686, bw_60⟩
theorem bw_1707 : (Jvm.Cond.code ({ cls := "HumUnheardModel", name := "pressed", desc := "(III)V" } : Jvm.MethodName) prog_13_method_63_code (4 : Nat) (Option.none : Option Jvm.ClassFile.FieldType) : Cond) ∈ BW := bw 1707 (by decide +kernel) rfl
theorem cmX11_pressed : ∀ z, xCm (Cf z) MX11_pressed 3 := fun z => ⟨bw_92, bw_1707, by decide +kernel, by decide, by decide +kernel⟩
theorem bw_1704 : (Jvm.Cond.methodLink "HumUnheardModel" (309 : Nat) ({ cls := "HumUnheardModel", name := "pressed", desc := "(III)V" } : Jvm.MethodName) : Cond) ∈ BW := bw 1704 (by decide +kernel) rfl
theorem bw_1706 : (Jvm.Cond.instanceMethod ({ cls := "HumUnheardModel", name := "pressed", desc := "(III)V" } : Jvm.MethodName) : Cond) ∈ BW := bw 1706 (by decide +kernel) rfl
theorem bw_63 : Cond.selects "HumUnheardModel" ⟨"HumUnheardModel", "pressed", "(III)V"⟩ ⟨"HumUnheardModel", "pressed", "(III)V"⟩ ∈ BW := bw 63 (by decide +kernel) rfl
theorem gX11_309 : ∀ z, xCv (Cf z) RX11 309 MX11_pressed 3 := fun z => ⟨cmX11_pressed z, bw_1704, bw_1706, bw_63⟩
theorem bw_1715 : (Jvm.Cond.code ({ cls := "HumUnheardModel", name := "intAt", desc := "(II)I" } : Jvm.MethodName) prog_13_method_20_code (3 : Nat) (Option.some Jvm.ClassFile.FieldType.int) : Cond) ∈ BW := bw 1715 (by decide +kernel) rfl
theorem cmX11_intAt : ∀ z, xCm (Cf z) MX11_intAt 2 := fun z => ⟨bw_92, bw_1715, by decide +kernel, by decide, by decide +kernel⟩
theorem bw_1712 : (Jvm.Cond.methodLink "HumUnheardModel" (313 : Nat) ({ cls := "HumUnheardModel", name := "intAt", desc := "(II)I" } : Jvm.MethodName) : Cond) ∈ BW := bw 1712 (by decide +kernel) rfl
theorem bw_1714 : (Jvm.Cond.instanceMethod ({ cls := "HumUnheardModel", name := "intAt", desc := "(II)I" } : Jvm.MethodName) : Cond) ∈ BW := bw 1714 (by decide +kernel) rfl
theorem bw_64 : Cond.selects "HumUnheardModel" ⟨"HumUnheardModel", "intAt", "(II)I"⟩ ⟨"HumUnheardModel", "intAt", "(II)I"⟩ ∈ BW := bw 64 (by decide +kernel) rfl
theorem gX11_313 : ∀ z, xCv (Cf z) RX11 313 MX11_intAt 2 := fun z => ⟨cmX11_intAt z, bw_1712, bw_1714, bw_64⟩
theorem bw_1731 : (Jvm.Cond.code ({ cls := "HumUnheardModel", name := "worth", desc := "(II)J" } : Jvm.MethodName) prog_13_method_68_code (9 : Nat) (Option.some Jvm.ClassFile.FieldType.long) : Cond) ∈ BW := bw 1731 (by decide +kernel) rfl
theorem cmX11_worth : ∀ z, xCm (Cf z) MX11_worth 2 := fun z => ⟨bw_92, bw_1731, by decide +kernel, by decide, by decide +kernel⟩
theorem bw_1728 : (Jvm.Cond.methodLink "HumUnheardModel" (322 : Nat) ({ cls := "HumUnheardModel", name := "worth", desc := "(II)J" } : Jvm.MethodName) : Cond) ∈ BW := bw 1728 (by decide +kernel) rfl
theorem bw_1730 : (Jvm.Cond.instanceMethod ({ cls := "HumUnheardModel", name := "worth", desc := "(II)J" } : Jvm.MethodName) : Cond) ∈ BW := bw 1730 (by decide +kernel) rfl
theorem bw_65 : Cond.selects "HumUnheardModel" ⟨"HumUnheardModel", "worth", "(II)J"⟩ ⟨"HumUnheardModel", "worth", "(II)J"⟩ ∈ BW := bw 65 (by decide +kernel) rfl
theorem gX11_322 : ∀ z, xCv (Cf z) RX11 322 MX11_worth 2 := fun z => ⟨cmX11_worth z, bw_1728, bw_1730, bw_65⟩
theorem bw_1760 : (Jvm.Cond.code ({ cls := "HumUnheardModel", name := "sounding", desc := "(II)I" } : Jvm.MethodName) prog_13_method_56_code (7 : Nat) (Option.some Jvm.ClassFile.FieldType.int) : Cond) ∈ BW := bw 1760 (by decide +kernel) rfl
theorem cmX11_sounding : ∀ z, xCm (Cf z) MX11_sounding 2 := fun z => ⟨bw_92, bw_1760, by decide +kernel, by decide, by decide +kernel⟩
theorem bw_1757 : (Jvm.Cond.methodLink "HumUnheardModel" (328 : Nat) ({ cls := "HumUnheardModel", name := "sounding", desc := "(II)I" } : Jvm.MethodName) : Cond) ∈ BW := bw 1757 (by decide +kernel) rfl
theorem bw_1759 : (Jvm.Cond.instanceMethod ({ cls := "HumUnheardModel", name := "sounding", desc := "(II)I" } : Jvm.MethodName) : Cond) ∈ BW := bw 1759 (by decide +kernel) rfl
theorem bw_68 : Cond.selects "HumUnheardModel" ⟨"HumUnheardModel", "sounding", "(II)I"⟩ ⟨"HumUnheardModel", "sounding", "(II)I"⟩ ∈ BW := bw 68 (by decide +kernel) rfl
theorem gX11_328 : ∀ z, xCv (Cf z) RX11 328 MX11_sounding 2 := fun z => ⟨cmX11_sounding z, bw_1757, bw_1759, bw_68⟩
theorem bw_1764 : (Jvm.Cond.code ({ cls := "HumUnheardModel", name := "heardOf", desc := "(III)I" } : Jvm.MethodName) prog_13_method_57_code (6 : Nat) (Option.some Jvm.ClassFile.FieldType.int) : Cond) ∈ BW := bw 1764 (by decide +kernel) rfl
theorem cmX11_heardOf : ∀ z, xCm (Cf z) MX11_heardOf 3 := fun z => ⟨bw_92, bw_1764, by decide +kernel, by decide, by decide +kernel⟩
theorem bw_1761 : (Jvm.Cond.methodLink "HumUnheardModel" (331 : Nat) ({ cls := "HumUnheardModel", name := "heardOf", desc := "(III)I" } : Jvm.MethodName) : Cond) ∈ BW := bw 1761 (by decide +kernel) rfl
theorem bw_1763 : (Jvm.Cond.instanceMethod ({ cls := "HumUnheardModel", name := "heardOf", desc := "(III)I" } : Jvm.MethodName) : Cond) ∈ BW := bw 1763 (by decide +kernel) rfl
theorem bw_69 : Cond.selects "HumUnheardModel" ⟨"HumUnheardModel", "heardOf", "(III)I"⟩ ⟨"HumUnheardModel", "heardOf", "(III)I"⟩ ∈ BW := bw 69 (by decide +kernel) rfl
theorem gX11_331 : ∀ z, xCv (Cf z) RX11 331 MX11_heardOf 3 := fun z => ⟨cmX11_heardOf z, bw_1761, bw_1763, bw_69⟩
theorem bw_1752 : (Jvm.Cond.code ({ cls := "HumUnheardModel", name := "isHours", desc := "(II)Z" } : Jvm.MethodName) prog_13_method_9_code (3 : Nat) (Option.some Jvm.ClassFile.FieldType.boolean) : Cond) ∈ BW := bw 1752 (by decide +kernel) rfl
theorem cmX11_isHours : ∀ z, xCm (Cf z) MX11_isHours 2 := fun z => ⟨bw_92, bw_1752, by decide +kernel, by decide, by decide +kernel⟩
theorem bw_1749 : (Jvm.Cond.methodLink "HumUnheardModel" (334 : Nat) ({ cls := "HumUnheardModel", name := "isHours", desc := "(II)Z" } : Jvm.MethodName) : Cond) ∈ BW := bw 1749 (by decide +kernel) rfl
theorem bw_1751 : (Jvm.Cond.instanceMethod ({ cls := "HumUnheardModel", name := "isHours", desc := "(II)Z" } : Jvm.MethodName) : Cond) ∈ BW := bw 1751 (by decide +kernel) rfl
theorem bw_66 : Cond.selects "HumUnheardModel" ⟨"HumUnheardModel", "isHours", "(II)Z"⟩ ⟨"HumUnheardModel", "isHours", "(II)Z"⟩ ∈ BW := bw 66 (by decide +kernel) rfl
theorem gX11_334 : ∀ z, xCv (Cf z) RX11 334 MX11_isHours 2 := fun z => ⟨cmX11_isHours z, bw_1749, bw_1751, bw_66⟩
theorem bw_1756 : (Jvm.Cond.code ({ cls := "HumUnheardModel", name := "ears", desc := "(II)V" } : Jvm.MethodName) prog_13_method_73_code (5 : Nat) (Option.none : Option Jvm.ClassFile.FieldType) : Cond) ∈ BW := bw 1756 (by decide +kernel) rfl
theorem cmX11_ears : ∀ z, xCm (Cf z) MX11_ears 2 := fun z => ⟨bw_92, bw_1756, by decide +kernel, by decide, by decide +kernel⟩
theorem bw_1753 : (Jvm.Cond.methodLink "HumUnheardModel" (337 : Nat) ({ cls := "HumUnheardModel", name := "ears", desc := "(II)V" } : Jvm.MethodName) : Cond) ∈ BW := bw 1753 (by decide +kernel) rfl
theorem bw_1755 : (Jvm.Cond.instanceMethod ({ cls := "HumUnheardModel", name := "ears", desc := "(II)V" } : Jvm.MethodName) : Cond) ∈ BW := bw 1755 (by decide +kernel) rfl
theorem bw_67 : Cond.selects "HumUnheardModel" ⟨"HumUnheardModel", "ears", "(II)V"⟩ ⟨"HumUnheardModel", "ears", "(II)V"⟩ ∈ BW := bw 67 (by decide +kernel) rfl
theorem gX11_337 : ∀ z, xCv (Cf z) RX11 337 MX11_ears 2 := fun z => ⟨cmX11_ears z, bw_1753, bw_1755, bw_67⟩
theorem bw_1768 : (Jvm.Cond.code ({ cls := "HumUnheardModel", name := "ridBy", desc := "(I)I" } : Jvm.MethodName) prog_13_method_74_code (4 : Nat) (Option.some Jvm.ClassFile.FieldType.int) : Cond) ∈ BW := bw 1768 (by decide +kernel) rfl
theorem cmX11_ridBy : ∀ z, xCm (Cf z) MX11_ridBy 1 := fun z => ⟨bw_92, bw_1768, by decide +kernel, by decide, by decide +kernel⟩
theorem bw_1765 : (Jvm.Cond.methodLink "HumUnheardModel" (341 : Nat) ({ cls := "HumUnheardModel", name := "ridBy", desc := "(I)I" } : Jvm.MethodName) : Cond) ∈ BW := bw 1765 (by decide +kernel) rfl
theorem bw_1767 : (Jvm.Cond.instanceMethod ({ cls := "HumUnheardModel", name := "ridBy", desc := "(I)I" } : Jvm.MethodName) : Cond) ∈ BW := bw 1767 (by decide +kernel) rfl
theorem bw_70 : Cond.selects "HumUnheardModel" ⟨"HumUnheardModel", "ridBy", "(I)I"⟩ ⟨"HumUnheardModel", "ridBy", "(I)I"⟩ ∈ BW := bw 70 (by decide +kernel) rfl
theorem gX11_341 : ∀ z, xCv (Cf z) RX11 341 MX11_ridBy 1 := fun z => ⟨cmX11_ridBy z, bw_1765, bw_1767, bw_70⟩
theorem bw_1801 : (Jvm.Cond.code ({ cls := "HumUnheardModel", name := "metered", desc := "(III)I" } : Jvm.MethodName) prog_13_method_82_code (6 : Nat) (Option.some Jvm.ClassFile.FieldType.int) : Cond) ∈ BW := bw 1801 (by decide +kernel) rfl
theorem cmX11_metered : ∀ z, xCm (Cf z) MX11_metered 3 := fun z => ⟨bw_92, bw_1801, by decide +kernel, by decide, by decide +kernel⟩
theorem bw_1798 : (Jvm.Cond.methodLink "HumUnheardModel" (345 : Nat) ({ cls := "HumUnheardModel", name := "metered", desc := "(III)I" } : Jvm.MethodName) : Cond) ∈ BW := bw 1798 (by decide +kernel) rfl
theorem bw_1800 : (Jvm.Cond.instanceMethod ({ cls := "HumUnheardModel", name := "metered", desc := "(III)I" } : Jvm.MethodName) : Cond) ∈ BW := bw 1800 (by decide +kernel) rfl
theorem bw_71 : Cond.selects "HumUnheardModel" ⟨"HumUnheardModel", "metered", "(III)I"⟩ ⟨"HumUnheardModel", "metered", "(III)I"⟩ ∈ BW := bw 71 (by decide +kernel) rfl
theorem gX11_345 : ∀ z, xCv (Cf z) RX11 345 MX11_metered 3 := fun z => ⟨cmX11_metered z, bw_1798, bw_1800, bw_71⟩
theorem bw_1813 : (Jvm.Cond.code ({ cls := "HumUnheardModel", name := "many", desc := "(I)I" } : Jvm.MethodName) prog_13_method_10_code (4 : Nat) (Option.some Jvm.ClassFile.FieldType.int) : Cond) ∈ BW := bw 1813 (by decide +kernel) rfl
theorem cmX11_many : ∀ z, xCm (Cf z) MX11_many 1 := fun z => ⟨bw_92, bw_1813, by decide +kernel, by decide, by decide +kernel⟩
theorem bw_1810 : (Jvm.Cond.methodLink "HumUnheardModel" (348 : Nat) ({ cls := "HumUnheardModel", name := "many", desc := "(I)I" } : Jvm.MethodName) : Cond) ∈ BW := bw 1810 (by decide +kernel) rfl
theorem bw_1812 : (Jvm.Cond.instanceMethod ({ cls := "HumUnheardModel", name := "many", desc := "(I)I" } : Jvm.MethodName) : Cond) ∈ BW := bw 1812 (by decide +kernel) rfl
theorem bw_72 : Cond.selects "HumUnheardModel" ⟨"HumUnheardModel", "many", "(I)I"⟩ ⟨"HumUnheardModel", "many", "(I)I"⟩ ∈ BW := bw 72 (by decide +kernel) rfl
theorem gX11_348 : ∀ z, xCv (Cf z) RX11 348 MX11_many 1 := fun z => ⟨cmX11_many z, bw_1810, bw_1812, bw_72⟩
theorem bw_1825 : (Jvm.Cond.code ({ cls := "HumUnheardModel", name := "body", desc := "(I)V" } : Jvm.MethodName) prog_13_method_86_code (2 : Nat) (Option.none : Option Jvm.ClassFile.FieldType) : Cond) ∈ BW := bw 1825 (by decide +kernel) rfl
theorem cmX11_body : ∀ z, xCm (Cf z) MX11_body 1 := fun z => ⟨bw_92, bw_1825, by decide +kernel, by decide, by decide +kernel⟩
theorem bw_1822 : (Jvm.Cond.methodLink "HumUnheardModel" (354 : Nat) ({ cls := "HumUnheardModel", name := "body", desc := "(I)V" } : Jvm.MethodName) : Cond) ∈ BW := bw 1822 (by decide +kernel) rfl
theorem bw_1824 : (Jvm.Cond.instanceMethod ({ cls := "HumUnheardModel", name := "body", desc := "(I)V" } : Jvm.MethodName) : Cond) ∈ BW := bw 1824 (by decide +kernel) rfl
theorem bw_74 : Cond.selects "HumUnheardModel" ⟨"HumUnheardModel", "body", "(I)V"⟩ ⟨"HumUnheardModel", "body", "(I)V"⟩ ∈ BW := bw 74 (by decide +kernel) rfl
theorem gX11_354 : ∀ z, xCv (Cf z) RX11 354 MX11_body 1 := fun z => ⟨cmX11_body z, bw_1822, bw_1824, bw_74⟩
theorem bw_1821 : (Jvm.Cond.code ({ cls := "HumUnheardModel", name := "soundsOf", desc := "(II)I" } : Jvm.MethodName) prog_13_method_87_code (6 : Nat) (Option.some Jvm.ClassFile.FieldType.int) : Cond) ∈ BW := bw 1821 (by decide +kernel) rfl
theorem cmX11_soundsOf : ∀ z, xCm (Cf z) MX11_soundsOf 2 := fun z => ⟨bw_92, bw_1821, by decide +kernel, by decide, by decide +kernel⟩
theorem bw_1818 : (Jvm.Cond.methodLink "HumUnheardModel" (358 : Nat) ({ cls := "HumUnheardModel", name := "soundsOf", desc := "(II)I" } : Jvm.MethodName) : Cond) ∈ BW := bw 1818 (by decide +kernel) rfl
theorem bw_1820 : (Jvm.Cond.instanceMethod ({ cls := "HumUnheardModel", name := "soundsOf", desc := "(II)I" } : Jvm.MethodName) : Cond) ∈ BW := bw 1820 (by decide +kernel) rfl
theorem bw_73 : Cond.selects "HumUnheardModel" ⟨"HumUnheardModel", "soundsOf", "(II)I"⟩ ⟨"HumUnheardModel", "soundsOf", "(II)I"⟩ ∈ BW := bw 73 (by decide +kernel) rfl
theorem gX11_358 : ∀ z, xCv (Cf z) RX11 358 MX11_soundsOf 2 := fun z => ⟨cmX11_soundsOf z, bw_1818, bw_1820, bw_73⟩
theorem bw_1829 : (Jvm.Cond.code ({ cls := "HumUnheardModel", name := "reachesOf", desc := "(II)I" } : Jvm.MethodName) prog_13_method_88_code (6 : Nat) (Option.some Jvm.ClassFile.FieldType.int) : Cond) ∈ BW := bw 1829 (by decide +kernel) rfl
theorem cmX11_reachesOf : ∀ z, xCm (Cf z) MX11_reachesOf 2 := fun z => ⟨bw_92, bw_1829, by decide +kernel, by decide, by decide +kernel⟩
theorem bw_1826 : (Jvm.Cond.methodLink "HumUnheardModel" (361 : Nat) ({ cls := "HumUnheardModel", name := "reachesOf", desc := "(II)I" } : Jvm.MethodName) : Cond) ∈ BW := bw 1826 (by decide +kernel) rfl
theorem bw_1828 : (Jvm.Cond.instanceMethod ({ cls := "HumUnheardModel", name := "reachesOf", desc := "(II)I" } : Jvm.MethodName) : Cond) ∈ BW := bw 1828 (by decide +kernel) rfl
theorem bw_75 : Cond.selects "HumUnheardModel" ⟨"HumUnheardModel", "reachesOf", "(II)I"⟩ ⟨"HumUnheardModel", "reachesOf", "(II)I"⟩ ∈ BW := bw 75 (by decide +kernel) rfl
theorem gX11_361 : ∀ z, xCv (Cf z) RX11 361 MX11_reachesOf 2 := fun z => ⟨cmX11_reachesOf z, bw_1826, bw_1828, bw_75⟩
theorem bw_1833 : (Jvm.Cond.code ({ cls := "HumUnheardModel", name := "hearsOf", desc := "(II)I" } : Jvm.MethodName) prog_13_method_89_code (5 : Nat) (Option.some Jvm.ClassFile.FieldType.int) : Cond) ∈ BW := bw 1833 (by decide +kernel) rfl
theorem cmX11_hearsOf : ∀ z, xCm (Cf z) MX11_hearsOf 2 := fun z => ⟨bw_92, bw_1833, by decide +kernel, by decide, by decide +kernel⟩
theorem bw_1830 : (Jvm.Cond.methodLink "HumUnheardModel" (364 : Nat) ({ cls := "HumUnheardModel", name := "hearsOf", desc := "(II)I" } : Jvm.MethodName) : Cond) ∈ BW := bw 1830 (by decide +kernel) rfl
theorem bw_1832 : (Jvm.Cond.instanceMethod ({ cls := "HumUnheardModel", name := "hearsOf", desc := "(II)I" } : Jvm.MethodName) : Cond) ∈ BW := bw 1832 (by decide +kernel) rfl
theorem bw_76 : Cond.selects "HumUnheardModel" ⟨"HumUnheardModel", "hearsOf", "(II)I"⟩ ⟨"HumUnheardModel", "hearsOf", "(II)I"⟩ ∈ BW := bw 76 (by decide +kernel) rfl
theorem gX11_364 : ∀ z, xCv (Cf z) RX11 364 MX11_hearsOf 2 := fun z => ⟨cmX11_hearsOf z, bw_1830, bw_1832, bw_76⟩
theorem bw_1849 : (Jvm.Cond.code ({ cls := "HumUnheardModel", name := "keeps", desc := "([IIIZ)I" } : Jvm.MethodName) prog_13_method_92_code (6 : Nat) (Option.some Jvm.ClassFile.FieldType.int) : Cond) ∈ BW := bw 1849 (by decide +kernel) rfl
theorem cmX11_keeps : ∀ z, xCm (Cf z) MX11_keeps 4 := fun z => ⟨bw_92, bw_1849, by decide +kernel, by decide, by decide +kernel⟩
theorem bw_1846 : (Jvm.Cond.methodLink "HumUnheardModel" (367 : Nat) ({ cls := "HumUnheardModel", name := "keeps", desc := "([IIIZ)I" } : Jvm.MethodName) : Cond) ∈ BW := bw 1846 (by decide +kernel) rfl
theorem bw_1848 : (Jvm.Cond.instanceMethod ({ cls := "HumUnheardModel", name := "keeps", desc := "([IIIZ)I" } : Jvm.MethodName) : Cond) ∈ BW := bw 1848 (by decide +kernel) rfl
theorem bw_78 : Cond.selects "HumUnheardModel" ⟨"HumUnheardModel", "keeps", "([IIIZ)I"⟩ ⟨"HumUnheardModel", "keeps", "([IIIZ)I"⟩ ∈ BW := bw 78 (by decide +kernel) rfl
theorem gX11_367 : ∀ z, xCv (Cf z) RX11 367 MX11_keeps 4 := fun z => ⟨cmX11_keeps z, bw_1846, bw_1848, bw_78⟩
theorem bw_1845 : (Jvm.Cond.code ({ cls := "HumUnheardModel", name := "all", desc := "(Z)V" } : Jvm.MethodName) prog_13_method_93_code (3 : Nat) (Option.none : Option Jvm.ClassFile.FieldType) : Cond) ∈ BW := bw 1845 (by decide +kernel) rfl
theorem cmX11_all : ∀ z, xCm (Cf z) MX11_all 1 := fun z => ⟨bw_92, bw_1845, by decide +kernel, by decide, by decide +kernel⟩
theorem bw_1842 : (Jvm.Cond.methodLink "HumUnheardModel" (395 : Nat) ({ cls := "HumUnheardModel", name := "all", desc := "(Z)V" } : Jvm.MethodName) : Cond) ∈ BW := bw 1842 (by decide +kernel) rfl
theorem bw_1844 : (Jvm.Cond.instanceMethod ({ cls := "HumUnheardModel", name := "all", desc := "(Z)V" } : Jvm.MethodName) : Cond) ∈ BW := bw 1844 (by decide +kernel) rfl
theorem bw_77 : Cond.selects "HumUnheardModel" ⟨"HumUnheardModel", "all", "(Z)V"⟩ ⟨"HumUnheardModel", "all", "(Z)V"⟩ ∈ BW := bw 77 (by decide +kernel) rfl
theorem gX11_395 : ∀ z, xCv (Cf z) RX11 395 MX11_all 1 := fun z => ⟨cmX11_all z, bw_1842, bw_1844, bw_77⟩
theorem bw_1736 : (Jvm.Cond.constantLong "HumUnheardModel" (326 : Nat) (100 : Int64) : Cond) ∈ BW := bw 1736 (by decide +kernel) rfl
theorem kX11_326 : ∀ z, Cond.constantLong RX11 326 100 ∈ (Cf z).1 := fun z => bw_1736
theorem bw_1781 : (Jvm.Cond.constant "HumUnheardModel" (344 : Nat) (1000000 : Int32) : Cond) ∈ BW := bw 1781 (by decide +kernel) rfl
theorem kX11_344 : ∀ z, Cond.constant RX11 344 1000000 ∈ (Cf z).1 := fun z => bw_1781
theorem pX11_9 : ∀ z, xFp (Cf z) RX11 9 11 7 (.int) := fun z => ⟨(RX11, TX11, 77), rfl, by decide, bw_1251, rfl, by decide +kernel⟩
theorem pX11_13 : ∀ z, xFp (Cf z) RX11 13 11 8 (.int) := fun z => ⟨(RX11, TX11, 77), rfl, by decide, bw_1252, rfl, by decide +kernel⟩
theorem pX11_16 : ∀ z, xFf (Cf z) RX11 16 11 10 (.array .int) := fun z => ⟨(RX11, TX11, 77), rfl, by decide, bw_1254, rfl, rfl, by decide +kernel⟩
theorem pX11_20 : ∀ z, xFf (Cf z) RX11 20 11 11 (.array .int) := fun z => ⟨(RX11, TX11, 77), rfl, by decide, bw_1255, rfl, rfl, by decide +kernel⟩
theorem pX11_23 : ∀ z, xFf (Cf z) RX11 23 11 12 (.array .int) := fun z => ⟨(RX11, TX11, 77), rfl, by decide, bw_1256, rfl, rfl, by decide +kernel⟩
theorem pX11_26 : ∀ z, xFf (Cf z) RX11 26 11 13 (.array .int) := fun z => ⟨(RX11, TX11, 77), rfl, by decide, bw_1257, rfl, rfl, by decide +kernel⟩
theorem pX11_29 : ∀ z, xFf (Cf z) RX11 29 11 14 (.array .int) := fun z => ⟨(RX11, TX11, 77), rfl, by decide, bw_1258, rfl, rfl, by decide +kernel⟩
theorem pX11_32 : ∀ z, xFf (Cf z) RX11 32 11 15 (.array .int) := fun z => ⟨(RX11, TX11, 77), rfl, by decide, bw_1259, rfl, rfl, by decide +kernel⟩
theorem pX11_35 : ∀ z, xFf (Cf z) RX11 35 11 16 (.array .int) := fun z => ⟨(RX11, TX11, 77), rfl, by decide, bw_1260, rfl, rfl, by decide +kernel⟩
theorem pX11_38 : ∀ z, xFf (Cf z) RX11 38 11 17 (.array .int) := fun z => ⟨(RX11, TX11, 77), rfl, by decide, bw_1261, rfl, rfl, by decide +kernel⟩
theorem pX11_41 : ∀ z, xFf (Cf z) RX11 41 11 18 (.array .int) := fun z => ⟨(RX11, TX11, 77), rfl, by decide, bw_1262, rfl, rfl, by decide +kernel⟩
theorem pX11_44 : ∀ z, xFf (Cf z) RX11 44 11 19 (.array .int) := fun z => ⟨(RX11, TX11, 77), rfl, by decide, bw_1263, rfl, rfl, by decide +kernel⟩
theorem pX11_47 : ∀ z, xFf (Cf z) RX11 47 11 20 (.array .int) := fun z => ⟨(RX11, TX11, 77), rfl, by decide, bw_1264, rfl, rfl, by decide +kernel⟩
theorem pX11_50 : ∀ z, xFf (Cf z) RX11 50 11 21 (.array .int) := fun z => ⟨(RX11, TX11, 77), rfl, by decide, bw_1265, rfl, rfl, by decide +kernel⟩
theorem pX11_53 : ∀ z, xFf (Cf z) RX11 53 11 22 (.array .int) := fun z => ⟨(RX11, TX11, 77), rfl, by decide, bw_1266, rfl, rfl, by decide +kernel⟩
theorem pX11_56 : ∀ z, xFf (Cf z) RX11 56 11 23 (.array .int) := fun z => ⟨(RX11, TX11, 77), rfl, by decide, bw_1267, rfl, rfl, by decide +kernel⟩
theorem pX11_59 : ∀ z, xFf (Cf z) RX11 59 11 24 (.array .int) := fun z => ⟨(RX11, TX11, 77), rfl, by decide, bw_1268, rfl, rfl, by decide +kernel⟩
theorem pX11_62 : ∀ z, xFf (Cf z) RX11 62 11 25 (.array .int) := fun z => ⟨(RX11, TX11, 77), rfl, by decide, bw_1269, rfl, rfl, by decide +kernel⟩
theorem pX11_65 : ∀ z, xFf (Cf z) RX11 65 11 26 (.array .int) := fun z => ⟨(RX11, TX11, 77), rfl, by decide, bw_1270, rfl, rfl, by decide +kernel⟩
theorem pX11_68 : ∀ z, xFf (Cf z) RX11 68 11 27 (.array .int) := fun z => ⟨(RX11, TX11, 77), rfl, by decide, bw_1271, rfl, rfl, by decide +kernel⟩
theorem pX11_71 : ∀ z, xFf (Cf z) RX11 71 11 28 (.array .int) := fun z => ⟨(RX11, TX11, 77), rfl, by decide, bw_1272, rfl, rfl, by decide +kernel⟩
theorem pX11_74 : ∀ z, xFf (Cf z) RX11 74 11 29 (.array .int) := fun z => ⟨(RX11, TX11, 77), rfl, by decide, bw_1273, rfl, rfl, by decide +kernel⟩
theorem pX11_77 : ∀ z, xFf (Cf z) RX11 77 11 30 (.array .int) := fun z => ⟨(RX11, TX11, 77), rfl, by decide, bw_1274, rfl, rfl, by decide +kernel⟩
theorem pX11_80 : ∀ z, xFf (Cf z) RX11 80 11 31 (.array .int) := fun z => ⟨(RX11, TX11, 77), rfl, by decide, bw_1275, rfl, rfl, by decide +kernel⟩
theorem pX11_83 : ∀ z, xFf (Cf z) RX11 83 11 32 (.array .int) := fun z => ⟨(RX11, TX11, 77), rfl, by decide, bw_1276, rfl, rfl, by decide +kernel⟩
theorem pX11_86 : ∀ z, xFf (Cf z) RX11 86 11 33 (.array .int) := fun z => ⟨(RX11, TX11, 77), rfl, by decide, bw_1277, rfl, rfl, by decide +kernel⟩
theorem pX11_89 : ∀ z, xFf (Cf z) RX11 89 11 34 (.array .int) := fun z => ⟨(RX11, TX11, 77), rfl, by decide, bw_1278, rfl, rfl, by decide +kernel⟩
theorem pX11_92 : ∀ z, xFf (Cf z) RX11 92 11 35 (.array .int) := fun z => ⟨(RX11, TX11, 77), rfl, by decide, bw_1279, rfl, rfl, by decide +kernel⟩
theorem pX11_95 : ∀ z, xFf (Cf z) RX11 95 11 36 (.array .int) := fun z => ⟨(RX11, TX11, 77), rfl, by decide, bw_1280, rfl, rfl, by decide +kernel⟩
theorem pX11_98 : ∀ z, xFf (Cf z) RX11 98 11 37 (.array .int) := fun z => ⟨(RX11, TX11, 77), rfl, by decide, bw_1281, rfl, rfl, by decide +kernel⟩
theorem pX11_101 : ∀ z, xFf (Cf z) RX11 101 11 38 (.array .int) := fun z => ⟨(RX11, TX11, 77), rfl, by decide, bw_1282, rfl, rfl, by decide +kernel⟩
theorem pX11_104 : ∀ z, xFf (Cf z) RX11 104 11 39 (.array .int) := fun z => ⟨(RX11, TX11, 77), rfl, by decide, bw_1283, rfl, rfl, by decide +kernel⟩
theorem pX11_107 : ∀ z, xFf (Cf z) RX11 107 11 40 (.array .int) := fun z => ⟨(RX11, TX11, 77), rfl, by decide, bw_1284, rfl, rfl, by decide +kernel⟩
theorem pX11_110 : ∀ z, xFf (Cf z) RX11 110 11 41 (.array .int) := fun z => ⟨(RX11, TX11, 77), rfl, by decide, bw_1285, rfl, rfl, by decide +kernel⟩
theorem pX11_113 : ∀ z, xFf (Cf z) RX11 113 11 42 (.array .int) := fun z => ⟨(RX11, TX11, 77), rfl, by decide, bw_1286, rfl, rfl, by decide +kernel⟩
theorem pX11_116 : ∀ z, xFf (Cf z) RX11 116 11 43 (.array .int) := fun z => ⟨(RX11, TX11, 77), rfl, by decide, bw_1287, rfl, rfl, by decide +kernel⟩
theorem pX11_119 : ∀ z, xFf (Cf z) RX11 119 11 44 (.array .int) := fun z => ⟨(RX11, TX11, 77), rfl, by decide, bw_1288, rfl, rfl, by decide +kernel⟩
theorem pX11_122 : ∀ z, xFf (Cf z) RX11 122 11 45 (.array .int) := fun z => ⟨(RX11, TX11, 77), rfl, by decide, bw_1289, rfl, rfl, by decide +kernel⟩
theorem pX11_125 : ∀ z, xFf (Cf z) RX11 125 11 46 (.array .int) := fun z => ⟨(RX11, TX11, 77), rfl, by decide, bw_1290, rfl, rfl, by decide +kernel⟩
theorem pX11_128 : ∀ z, xFf (Cf z) RX11 128 11 47 (.array .int) := fun z => ⟨(RX11, TX11, 77), rfl, by decide, bw_1291, rfl, rfl, by decide +kernel⟩
theorem pX11_131 : ∀ z, xFf (Cf z) RX11 131 11 48 (.array .long) := fun z => ⟨(RX11, TX11, 77), rfl, by decide, bw_1292, rfl, rfl, by decide +kernel⟩
theorem pX11_135 : ∀ z, xFf (Cf z) RX11 135 11 49 (.array .long) := fun z => ⟨(RX11, TX11, 77), rfl, by decide, bw_1293, rfl, rfl, by decide +kernel⟩
theorem pX11_138 : ∀ z, xFf (Cf z) RX11 138 11 57 (.array .int) := fun z => ⟨(RX11, TX11, 77), rfl, by decide, bw_1301, rfl, rfl, by decide +kernel⟩
theorem pX11_141 : ∀ z, xFf (Cf z) RX11 141 11 58 (.array .int) := fun z => ⟨(RX11, TX11, 77), rfl, by decide, bw_1302, rfl, rfl, by decide +kernel⟩
theorem pX11_144 : ∀ z, xFf (Cf z) RX11 144 11 59 (.array .int) := fun z => ⟨(RX11, TX11, 77), rfl, by decide, bw_1303, rfl, rfl, by decide +kernel⟩
theorem pX11_147 : ∀ z, xFf (Cf z) RX11 147 11 60 (.array .int) := fun z => ⟨(RX11, TX11, 77), rfl, by decide, bw_1304, rfl, rfl, by decide +kernel⟩
theorem pX11_150 : ∀ z, xFf (Cf z) RX11 150 11 61 (.array .int) := fun z => ⟨(RX11, TX11, 77), rfl, by decide, bw_1305, rfl, rfl, by decide +kernel⟩
theorem pX11_153 : ∀ z, xFf (Cf z) RX11 153 11 62 (.array .int) := fun z => ⟨(RX11, TX11, 77), rfl, by decide, bw_1306, rfl, rfl, by decide +kernel⟩
theorem pX11_156 : ∀ z, xFf (Cf z) RX11 156 11 63 (.array .int) := fun z => ⟨(RX11, TX11, 77), rfl, by decide, bw_1307, rfl, rfl, by decide +kernel⟩
theorem pX11_159 : ∀ z, xFf (Cf z) RX11 159 11 64 (.array .int) := fun z => ⟨(RX11, TX11, 77), rfl, by decide, bw_1308, rfl, rfl, by decide +kernel⟩
theorem pX11_162 : ∀ z, xFf (Cf z) RX11 162 11 65 (.array .int) := fun z => ⟨(RX11, TX11, 77), rfl, by decide, bw_1309, rfl, rfl, by decide +kernel⟩
theorem pX11_165 : ∀ z, xFp (Cf z) RX11 165 11 67 (.int) := fun z => ⟨(RX11, TX11, 77), rfl, by decide, bw_1311, rfl, by decide +kernel⟩
theorem pX11_168 : ∀ z, xFf (Cf z) RX11 168 11 76 (.array .int) := fun z => ⟨(RX11, TX11, 77), rfl, by decide, bw_1320, rfl, rfl, by decide +kernel⟩
theorem pX11_171 : ∀ z, xFp (Cf z) RX11 171 11 1 (.int) := fun z => ⟨(RX11, TX11, 77), rfl, by decide, bw_1245, rfl, by decide +kernel⟩
theorem pX11_174 : ∀ z, xFp (Cf z) RX11 174 11 2 (.int) := fun z => ⟨(RX11, TX11, 77), rfl, by decide, bw_1246, rfl, by decide +kernel⟩
theorem pX11_200 : ∀ z, xFp (Cf z) RX11 200 11 0 (.int) := fun z => ⟨(RX11, TX11, 77), rfl, by decide, bw_1244, rfl, by decide +kernel⟩
theorem pX11_203 : ∀ z, xFp (Cf z) RX11 203 11 51 (.int) := fun z => ⟨(RX11, TX11, 77), rfl, by decide, bw_1295, rfl, by decide +kernel⟩
theorem pX11_206 : ∀ z, xFp (Cf z) RX11 206 11 52 (.int) := fun z => ⟨(RX11, TX11, 77), rfl, by decide, bw_1296, rfl, by decide +kernel⟩
theorem pX11_209 : ∀ z, xFp (Cf z) RX11 209 11 50 (.int) := fun z => ⟨(RX11, TX11, 77), rfl, by decide, bw_1294, rfl, by decide +kernel⟩
theorem pX11_212 : ∀ z, xFp (Cf z) RX11 212 11 55 (.int) := fun z => ⟨(RX11, TX11, 77), rfl, by decide, bw_1299, rfl, by decide +kernel⟩
theorem pX11_222 : ∀ z, xFp (Cf z) RX11 222 11 54 (.int) := fun z => ⟨(RX11, TX11, 77), rfl, by decide, bw_1298, rfl, by decide +kernel⟩
theorem pX11_225 : ∀ z, xFp (Cf z) RX11 225 11 53 (.int) := fun z => ⟨(RX11, TX11, 77), rfl, by decide, bw_1297, rfl, by decide +kernel⟩
theorem pX11_238 : ∀ z, xFp (Cf z) RX11 238 11 56 (.int) := fun z => ⟨(RX11, TX11, 77), rfl, by decide, bw_1300, rfl, by decide +kernel⟩
theorem pX11_257 : ∀ z, xFp (Cf z) RX11 257 11 6 (.int) := fun z => ⟨(RX11, TX11, 77), rfl, by decide, bw_1250, rfl, by decide +kernel⟩
theorem pX11_303 : ∀ z, xFp (Cf z) RX11 303 11 3 (.int) := fun z => ⟨(RX11, TX11, 77), rfl, by decide, bw_1247, rfl, by decide +kernel⟩
theorem pX11_306 : ∀ z, xFp (Cf z) RX11 306 11 9 (.int) := fun z => ⟨(RX11, TX11, 77), rfl, by decide, bw_1253, rfl, by decide +kernel⟩
theorem pX11_316 : ∀ z, xFp (Cf z) RX11 316 11 4 (.int) := fun z => ⟨(RX11, TX11, 77), rfl, by decide, bw_1248, rfl, by decide +kernel⟩
theorem pX11_319 : ∀ z, xFp (Cf z) RX11 319 11 5 (.int) := fun z => ⟨(RX11, TX11, 77), rfl, by decide, bw_1249, rfl, by decide +kernel⟩
theorem pX11_351 : ∀ z, xFp (Cf z) RX11 351 11 66 (.int) := fun z => ⟨(RX11, TX11, 77), rfl, by decide, bw_1310, rfl, by decide +kernel⟩
theorem pX11_371 : ∀ z, xFp (Cf z) RX11 371 11 68 (.int) := fun z => ⟨(RX11, TX11, 77), rfl, by decide, bw_1312, rfl, by decide +kernel⟩
theorem pX11_374 : ∀ z, xFp (Cf z) RX11 374 11 69 (.int) := fun z => ⟨(RX11, TX11, 77), rfl, by decide, bw_1313, rfl, by decide +kernel⟩
theorem pX11_377 : ∀ z, xFp (Cf z) RX11 377 11 70 (.int) := fun z => ⟨(RX11, TX11, 77), rfl, by decide, bw_1314, rfl, by decide +kernel⟩
theorem pX11_380 : ∀ z, xFp (Cf z) RX11 380 11 71 (.int) := fun z => ⟨(RX11, TX11, 77), rfl, by decide, bw_1315, rfl, by decide +kernel⟩
theorem pX11_383 : ∀ z, xFp (Cf z) RX11 383 11 72 (.int) := fun z => ⟨(RX11, TX11, 77), rfl, by decide, bw_1316, rfl, by decide +kernel⟩
theorem pX11_386 : ∀ z, xFp (Cf z) RX11 386 11 73 (.int) := fun z => ⟨(RX11, TX11, 77), rfl, by decide, bw_1317, rfl, by decide +kernel⟩
theorem pX11_389 : ∀ z, xFp (Cf z) RX11 389 11 74 (.int) := fun z => ⟨(RX11, TX11, 77), rfl, by decide, bw_1318, rfl, by decide +kernel⟩
theorem pX11_392 : ∀ z, xFp (Cf z) RX11 392 11 75 (.int) := fun z => ⟨(RX11, TX11, 77), rfl, by decide, bw_1319, rfl, by decide +kernel⟩
theorem bw_1122 : (Jvm.Cond.constant "java/lang/Integer" (265 : Nat) (1431655765 : Int32) : Cond) ∈ BW := bw 1122 (by decide +kernel) rfl
theorem kJ6_265 : ∀ z, Cond.constant RJ6 265 1431655765 ∈ (Cf z).1 := fun z => bw_1122
theorem bw_1123 : (Jvm.Cond.constant "java/lang/Integer" (266 : Nat) (858993459 : Int32) : Cond) ∈ BW := bw 1123 (by decide +kernel) rfl
theorem kJ6_266 : ∀ z, Cond.constant RJ6 266 858993459 ∈ (Cf z).1 := fun z => bw_1123
theorem bw_1124 : (Jvm.Cond.constant "java/lang/Integer" (267 : Nat) (252645135 : Int32) : Cond) ∈ BW := bw 1124 (by decide +kernel) rfl
theorem kJ6_267 : ∀ z, Cond.constant RJ6 267 252645135 ∈ (Cf z).1 := fun z => bw_1124
theorem bw_1860 : (Jvm.Cond.fieldLink "java/lang/String" (9 : Nat) "java/lang/String" "value" "[B" : Cond) ∈ BW := bw 1860 (by decide +kernel) rfl
theorem fJ0_9 : ∀ z, Cond.fieldLink RJ0 9 "java/lang/String" "value" "[B" ∈ (Cf z).1 := fun z => bw_1860
theorem bw_1859 : (Jvm.Cond.fieldLink "java/lang/String" (15 : Nat) "java/lang/String" "coder" "B" : Cond) ∈ BW := bw 1859 (by decide +kernel) rfl
theorem fJ0_15 : ∀ z, Cond.fieldLink RJ0 15 "java/lang/String" "coder" "B" ∈ (Cf z).1 := fun z => bw_1859
theorem bw_721 : (Jvm.Cond.fieldLink "java/lang/String" (38 : Nat) "java/lang/String" "COMPACT_STRINGS" "Z" : Cond) ∈ BW := bw 721 (by decide +kernel) rfl
theorem sJ0_38 : ∀ z, Cond.fieldLink RJ0 38 "java/lang/String" "COMPACT_STRINGS" "Z" ∈ (Cf z).1 := fun z => bw_721
theorem bw_729 : (Jvm.Cond.fieldLink "java/lang/String" (1053 : Nat) "jdk/internal/util/Preconditions" "SIOOBE_FORMATTER" "Ljava/util/function/BiFunction;" : Cond) ∈ BW := bw 729 (by decide +kernel) rfl
theorem sJ0_1053 : ∀ z, Cond.fieldLink RJ0 1053 "jdk/internal/util/Preconditions" "SIOOBE_FORMATTER" "Ljava/util/function/BiFunction;" ∈ (Cf z).1 := fun z => bw_729
theorem bw_95 : (Jvm.Cond.initialized "java/lang/StringLatin1" : Cond) ∈ BW := bw 95 (by decide +kernel) rfl
theorem bw_725 : (Jvm.Cond.code ({ cls := "java/lang/StringLatin1", name := "charAt", desc := "([BI)C" } : Jvm.MethodName) prog_17_method_2_code (2 : Nat) (Option.some Jvm.ClassFile.FieldType.char) : Cond) ∈ BW := bw 725 (by decide +kernel) rfl
theorem cmJ1_charAt_3b067 : ∀ z, xCm (Cf z) MJ1_charAt_3b067 2 := fun z => ⟨bw_95, bw_725, by decide +kernel, by decide, by decide +kernel⟩
theorem bw_723 : (Jvm.Cond.methodLink "java/lang/String" (495 : Nat) ({ cls := "java/lang/StringLatin1", name := "charAt", desc := "([BI)C" } : Jvm.MethodName) : Cond) ∈ BW := bw 723 (by decide +kernel) rfl
theorem bw_724 : (Jvm.Cond.static ({ cls := "java/lang/StringLatin1", name := "charAt", desc := "([BI)C" } : Jvm.MethodName) : Cond) ∈ BW := bw 724 (by decide +kernel) rfl
theorem gJ0_495 : ∀ z, xCs (Cf z) RJ0 495 MJ1_charAt_3b067 2 ∨ ∃ h, xCsN (Cf z) RJ0 495 MJ1_charAt_3b067 2 h := fun z => Or.inl ⟨cmJ1_charAt_3b067 z, bw_723, bw_724⟩
theorem bw_97 : (Jvm.Cond.initialized "java/lang/StringUTF16" : Cond) ∈ BW := bw 97 (by decide +kernel) rfl
theorem bw_736 : (Jvm.Cond.code ({ cls := "java/lang/StringUTF16", name := "charAt", desc := "([BI)C" } : Jvm.MethodName) prog_18_method_83_code (2 : Nat) (Option.some Jvm.ClassFile.FieldType.char) : Cond) ∈ BW := bw 736 (by decide +kernel) rfl
theorem cmJ2_charAt_3b067 : ∀ z, xCm (Cf z) MJ2_charAt_3b067 2 := fun z => ⟨bw_97, bw_736, by decide +kernel, by decide, by decide +kernel⟩
theorem bw_734 : (Jvm.Cond.methodLink "java/lang/String" (498 : Nat) ({ cls := "java/lang/StringUTF16", name := "charAt", desc := "([BI)C" } : Jvm.MethodName) : Cond) ∈ BW := bw 734 (by decide +kernel) rfl
theorem bw_735 : (Jvm.Cond.static ({ cls := "java/lang/StringUTF16", name := "charAt", desc := "([BI)C" } : Jvm.MethodName) : Cond) ∈ BW := bw 735 (by decide +kernel) rfl
theorem gJ0_498 : ∀ z, xCs (Cf z) RJ0 498 MJ2_charAt_3b067 2 ∨ ∃ h, xCsN (Cf z) RJ0 498 MJ2_charAt_3b067 2 h := fun z => Or.inl ⟨cmJ2_charAt_3b067 z, bw_734, bw_735⟩
theorem bw_96 : (Jvm.Cond.initialized "jdk/internal/util/Preconditions" : Cond) ∈ BW := bw 96 (by decide +kernel) rfl
theorem bw_733 : (Jvm.Cond.code ({ cls := "jdk/internal/util/Preconditions", name := "checkIndex", desc := "(IILjava/util/function/BiFunction;)I" } : Jvm.MethodName) prog_20_method_11_code (3 : Nat) (Option.some Jvm.ClassFile.FieldType.int) : Cond) ∈ BW := bw 733 (by decide +kernel) rfl
theorem cmJ3_checkIndex_8e157 : ∀ z, xCm (Cf z) MJ3_checkIndex_8e157 3 := fun z => ⟨bw_96, bw_733, by decide +kernel, by decide, by decide +kernel⟩
theorem bw_731 : (Jvm.Cond.methodLink "java/lang/String" (1059 : Nat) ({ cls := "jdk/internal/util/Preconditions", name := "checkIndex", desc := "(IILjava/util/function/BiFunction;)I" } : Jvm.MethodName) : Cond) ∈ BW := bw 731 (by decide +kernel) rfl
theorem bw_732 : (Jvm.Cond.static ({ cls := "jdk/internal/util/Preconditions", name := "checkIndex", desc := "(IILjava/util/function/BiFunction;)I" } : Jvm.MethodName) : Cond) ∈ BW := bw 732 (by decide +kernel) rfl
theorem gJ0_1059 : ∀ z, xCs (Cf z) RJ0 1059 MJ3_checkIndex_8e157 3 ∨ ∃ h, xCsN (Cf z) RJ0 1059 MJ3_checkIndex_8e157 3 h := fun z => Or.inl ⟨cmJ3_checkIndex_8e157 z, bw_731, bw_732⟩
theorem bw_772 : (Jvm.Cond.code ({ cls := "java/lang/String", name := "coder", desc := "()B" } : Jvm.MethodName) prog_16_method_152_code (1 : Nat) (Option.some Jvm.ClassFile.FieldType.byte) : Cond) ∈ BW := bw 772 (by decide +kernel) rfl
theorem cmJ0_coder_7d493 : ∀ z, xCm (Cf z) MJ0_coder_7d493 0 := fun z => ⟨bw_94, bw_772, by decide +kernel, by decide, by decide +kernel⟩
theorem bw_769 : (Jvm.Cond.methodLink "java/lang/String" (335 : Nat) ({ cls := "java/lang/String", name := "coder", desc := "()B" } : Jvm.MethodName) : Cond) ∈ BW := bw 769 (by decide +kernel) rfl
theorem bw_770 : (Jvm.Cond.instanceMethod ({ cls := "java/lang/String", name := "coder", desc := "()B" } : Jvm.MethodName) : Cond) ∈ BW := bw 770 (by decide +kernel) rfl
theorem bw_771 : (Jvm.Cond.selects "java/lang/String" ({ cls := "java/lang/String", name := "coder", desc := "()B" } : Jvm.MethodName) ({ cls := "java/lang/String", name := "coder", desc := "()B" } : Jvm.MethodName) : Cond) ∈ BW := bw 771 (by decide +kernel) rfl
theorem gJ0_335 : ∀ z, xCv (Cf z) RJ0 335 MJ0_coder_7d493 0 := fun z => ⟨cmJ0_coder_7d493 z, bw_769, bw_770, bw_771⟩
theorem bw_720 : (Jvm.Cond.code ({ cls := "java/lang/String", name := "isLatin1", desc := "()Z" } : Jvm.MethodName) prog_16_method_154_code (1 : Nat) (Option.some Jvm.ClassFile.FieldType.boolean) : Cond) ∈ BW := bw 720 (by decide +kernel) rfl
theorem cmJ0_isLatin1_aae02 : ∀ z, xCm (Cf z) MJ0_isLatin1_aae02 0 := fun z => ⟨bw_94, bw_720, by decide +kernel, by decide, by decide +kernel⟩
theorem bw_717 : (Jvm.Cond.methodLink "java/lang/String" (492 : Nat) ({ cls := "java/lang/String", name := "isLatin1", desc := "()Z" } : Jvm.MethodName) : Cond) ∈ BW := bw 717 (by decide +kernel) rfl
theorem bw_718 : (Jvm.Cond.instanceMethod ({ cls := "java/lang/String", name := "isLatin1", desc := "()Z" } : Jvm.MethodName) : Cond) ∈ BW := bw 718 (by decide +kernel) rfl
theorem bw_719 : (Jvm.Cond.selects "java/lang/String" ({ cls := "java/lang/String", name := "isLatin1", desc := "()Z" } : Jvm.MethodName) ({ cls := "java/lang/String", name := "isLatin1", desc := "()Z" } : Jvm.MethodName) : Cond) ∈ BW := bw 719 (by decide +kernel) rfl
theorem gJ0_492 : ∀ z, xCv (Cf z) RJ0 492 MJ0_isLatin1_aae02 0 := fun z => ⟨cmJ0_isLatin1_aae02 z, bw_717, bw_718, bw_719⟩
theorem bw_728 : (Jvm.Cond.code ({ cls := "java/lang/String", name := "checkIndex", desc := "(II)V" } : Jvm.MethodName) prog_16_method_155_code (2 : Nat) (Option.none : Option Jvm.ClassFile.FieldType) : Cond) ∈ BW := bw 728 (by decide +kernel) rfl
theorem cmJ0_checkIndex_df160 : ∀ z, xCm (Cf z) MJ0_checkIndex_df160 2 := fun z => ⟨bw_94, bw_728, by decide +kernel, by decide, by decide +kernel⟩
theorem bw_726 : (Jvm.Cond.methodLink "java/lang/StringLatin1" (9 : Nat) ({ cls := "java/lang/String", name := "checkIndex", desc := "(II)V" } : Jvm.MethodName) : Cond) ∈ BW := bw 726 (by decide +kernel) rfl
theorem bw_727 : (Jvm.Cond.static ({ cls := "java/lang/String", name := "checkIndex", desc := "(II)V" } : Jvm.MethodName) : Cond) ∈ BW := bw 727 (by decide +kernel) rfl
theorem gJ1_9 : ∀ z, xCs (Cf z) RJ1 9 MJ0_checkIndex_df160 2 ∨ ∃ h, xCsN (Cf z) RJ1 9 MJ0_checkIndex_df160 2 h := fun z => Or.inl ⟨cmJ0_checkIndex_df160 z, bw_726, bw_727⟩
theorem bw_747 : (Jvm.Cond.fieldLink "java/lang/StringUTF16" (44 : Nat) "java/lang/StringUTF16" "$assertionsDisabled" "Z" : Cond) ∈ BW := bw 747 (by decide +kernel) rfl
theorem sJ2_44 : ∀ z, Cond.fieldLink RJ2 44 "java/lang/StringUTF16" "$assertionsDisabled" "Z" ∈ (Cf z).1 := fun z => bw_747
theorem bw_749 : (Jvm.Cond.fieldLink "java/lang/StringUTF16" (59 : Nat) "java/lang/StringUTF16" "HI_BYTE_SHIFT" "I" : Cond) ∈ BW := bw 749 (by decide +kernel) rfl
theorem sJ2_59 : ∀ z, Cond.fieldLink RJ2 59 "java/lang/StringUTF16" "HI_BYTE_SHIFT" "I" ∈ (Cf z).1 := fun z => bw_749
theorem bw_751 : (Jvm.Cond.fieldLink "java/lang/StringUTF16" (63 : Nat) "java/lang/StringUTF16" "LO_BYTE_SHIFT" "I" : Cond) ∈ BW := bw 751 (by decide +kernel) rfl
theorem sJ2_63 : ∀ z, Cond.fieldLink RJ2 63 "java/lang/StringUTF16" "LO_BYTE_SHIFT" "I" ∈ (Cf z).1 := fun z => bw_751
theorem bw_742 : (Jvm.Cond.code ({ cls := "java/lang/StringUTF16", name := "length", desc := "([B)I" } : Jvm.MethodName) prog_18_method_6_code (1 : Nat) (Option.some Jvm.ClassFile.FieldType.int) : Cond) ∈ BW := bw 742 (by decide +kernel) rfl
theorem cmJ2_length_9d52b : ∀ z, xCm (Cf z) MJ2_length_9d52b 1 := fun z => ⟨bw_97, bw_742, by decide +kernel, by decide, by decide +kernel⟩
theorem bw_740 : (Jvm.Cond.methodLink "java/lang/StringUTF16" (48 : Nat) ({ cls := "java/lang/StringUTF16", name := "length", desc := "([B)I" } : Jvm.MethodName) : Cond) ∈ BW := bw 740 (by decide +kernel) rfl
theorem bw_741 : (Jvm.Cond.static ({ cls := "java/lang/StringUTF16", name := "length", desc := "([B)I" } : Jvm.MethodName) : Cond) ∈ BW := bw 741 (by decide +kernel) rfl
theorem gJ2_48 : ∀ z, xCs (Cf z) RJ2 48 MJ2_length_9d52b 1 ∨ ∃ h, xCsN (Cf z) RJ2 48 MJ2_length_9d52b 1 h := fun z => Or.inl ⟨cmJ2_length_9d52b z, bw_740, bw_741⟩
theorem bw_739 : (Jvm.Cond.code ({ cls := "java/lang/StringUTF16", name := "checkIndex", desc := "(I[B)V" } : Jvm.MethodName) prog_18_method_91_code (2 : Nat) (Option.none : Option Jvm.ClassFile.FieldType) : Cond) ∈ BW := bw 739 (by decide +kernel) rfl
theorem cmJ2_checkIndex_2214a : ∀ z, xCm (Cf z) MJ2_checkIndex_2214a 2 := fun z => ⟨bw_97, bw_739, by decide +kernel, by decide, by decide +kernel⟩
theorem bw_737 : (Jvm.Cond.methodLink "java/lang/StringUTF16" (67 : Nat) ({ cls := "java/lang/StringUTF16", name := "checkIndex", desc := "(I[B)V" } : Jvm.MethodName) : Cond) ∈ BW := bw 737 (by decide +kernel) rfl
theorem bw_738 : (Jvm.Cond.static ({ cls := "java/lang/StringUTF16", name := "checkIndex", desc := "(I[B)V" } : Jvm.MethodName) : Cond) ∈ BW := bw 738 (by decide +kernel) rfl
theorem gJ2_67 : ∀ z, xCs (Cf z) RJ2 67 MJ2_checkIndex_2214a 2 ∨ ∃ h, xCsN (Cf z) RJ2 67 MJ2_checkIndex_2214a 2 h := fun z => Or.inl ⟨cmJ2_checkIndex_2214a z, bw_737, bw_738⟩
theorem bw_746 : (Jvm.Cond.code ({ cls := "java/lang/StringUTF16", name := "getChar", desc := "([BI)C" } : Jvm.MethodName) prog_18_method_5_code (2 : Nat) (Option.some Jvm.ClassFile.FieldType.char) : Cond) ∈ BW := bw 746 (by decide +kernel) rfl
theorem cmJ2_getChar_3b067 : ∀ z, xCm (Cf z) MJ2_getChar_3b067 2 := fun z => ⟨bw_97, bw_746, by decide +kernel, by decide, by decide +kernel⟩
theorem bw_744 : (Jvm.Cond.methodLink "java/lang/StringUTF16" (71 : Nat) ({ cls := "java/lang/StringUTF16", name := "getChar", desc := "([BI)C" } : Jvm.MethodName) : Cond) ∈ BW := bw 744 (by decide +kernel) rfl
theorem bw_745 : (Jvm.Cond.static ({ cls := "java/lang/StringUTF16", name := "getChar", desc := "([BI)C" } : Jvm.MethodName) : Cond) ∈ BW := bw 745 (by decide +kernel) rfl
theorem gJ2_71 : ∀ z, xCs (Cf z) RJ2 71 MJ2_getChar_3b067 2 ∨ ∃ h, xCsN (Cf z) RJ2 71 MJ2_getChar_3b067 2 h := fun z => Or.inl ⟨cmJ2_getChar_3b067 z, bw_744, bw_745⟩
theorem bw_743 : (Jvm.Cond.methodLink "java/lang/StringUTF16" (414 : Nat) ({ cls := "java/lang/String", name := "checkIndex", desc := "(II)V" } : Jvm.MethodName) : Cond) ∈ BW := bw 743 (by decide +kernel) rfl
theorem gJ2_414 : ∀ z, xCs (Cf z) RJ2 414 MJ0_checkIndex_df160 2 ∨ ∃ h, xCsN (Cf z) RJ2 414 MJ0_checkIndex_df160 2 h := fun z => Or.inl ⟨cmJ0_checkIndex_df160 z, bw_743, bw_727⟩
theorem bw_105 : (Jvm.Cond.instanceMethod ({ cls := "java/lang/Object", name := "<init>", desc := "()V" } : Jvm.MethodName) : Cond) ∈ BW := bw 105 (by decide +kernel) rfl
theorem objw : ∀ z, Cond.instanceMethod objectInit ∈ (Cf z).1 ∧ Cond.code objectInit ⟨#[0xb1]⟩ 1 none ∈ (Cf z).1 := fun z => ⟨bw_105, bw 106 (by decide +kernel) rfl⟩
theorem bw_162 : (Jvm.Cond.arrayClass Jvm.ClassFile.FieldType.int : Cond) ∈ BW := bw 162 (by decide +kernel) rfl
theorem ac_int : ∀ z, Cond.arrayClass .int ∈ (Cf z).1 := fun z => bw_162
theorem bw_372 : (Jvm.Cond.arrayClass Jvm.ClassFile.FieldType.long : Cond) ∈ BW := bw 372 (by decide +kernel) rfl
theorem ac_long : ∀ z, Cond.arrayClass .long ∈ (Cf z).1 := fun z => bw_372

