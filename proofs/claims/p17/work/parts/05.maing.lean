theorem in_X11_init_X7 : ∀ w ∈ wsX70, w ∈ wsX11_init := fun _ h => List.mem_cons_of_mem _ (List.mem_append_left _ (List.mem_append_left _ (List.mem_append_left _ (List.mem_append_left _ (List.mem_append_left _ (List.mem_append_left _ (List.mem_append_left _ (List.mem_append_left _ (List.mem_append_left _ (List.mem_append_left _ (List.mem_append_left _ (List.mem_append_right _ h))))))))))))
set_option maxRecDepth 20000 in
theorem zbX11_init_X7_init : GoodIn wsX11_init (Cond.code yX7_init cX7_init 2 none :: [.methodLink RX7 3 objectInit, .instanceMethod objectInit, .code objectInit ⟨#[0xb1]⟩ 1 none, .methodLink RX7 9 Lib.Math.max.name, .static Lib.Math.max.name, .initialized "java/lang/Math", .code Lib.Math.max.name Lib.Math.max.code 2 (some .int), .arrayClass .byte, .fieldLink RX7 15 "ClayAccounts$Text" "bytes" "[B", .fieldLink RX7 21 "ClayAccounts$Text" "size" "I"]) := goodIn_r _ [47, 48, 2, 3, 49, 50, 51, 52, 53, 54, 55] (by decide +kernel) (by decide +kernel)
set_option maxRecDepth 20000 in
theorem ggX11_init_X7_init : GoodIn wsX11_init wsX7_init := (goodIn_ca zbX11_init_X7_init (goodIn_sub in_X11_init_X7 zgw_X7))
set_option maxRecDepth 20000 in
theorem gX11_init_X7_init : GoodIn wsX11_init (wsX7_init) := ggX11_init_X7_init
theorem in_X11_init_X10 : ∀ w ∈ wsX100, w ∈ wsX11_init := fun _ h => List.mem_cons_of_mem _ (List.mem_append_left _ (List.mem_append_left _ (List.mem_append_left _ (List.mem_append_left _ (List.mem_append_left _ (List.mem_append_left _ (List.mem_append_left _ (List.mem_append_left _ (List.mem_append_left _ (List.mem_append_right _ h))))))))))
theorem in_X11_init_X8 : ∀ w ∈ wsX80, w ∈ wsX11_init := fun _ h => List.mem_cons_of_mem _ (List.mem_append_left _ (List.mem_append_left _ (List.mem_append_right _ h)))
set_option maxRecDepth 20000 in
theorem zbX11_init_X10_init_0 : GoodIn wsX11_init [Cond.code yX10_init cX10_init 1 none] := goodIn_r _ [57] (by decide +kernel) (by decide +kernel)
set_option maxRecDepth 20000 in
theorem zbX11_init_X10_init_1 : GoodIn wsX11_init wsX10_init_r1 := goodIn_r _ [58, 2, 3, 59, 60, 61, 62, 63, 64, 65, 66, 5, 6, 67, 68, 46, 47, 48, 49, 50, 51, 52, 53, 54] (by decide +kernel) (by decide +kernel)
set_option maxRecDepth 20000 in
theorem zbX11_init_X10_init_2 : GoodIn wsX11_init wsX10_init_r2 := goodIn_r _ [55] (by decide +kernel) (by decide +kernel)
set_option maxRecDepth 20000 in
theorem ggX11_init_X10_init : GoodIn wsX11_init wsX10_init := (goodIn_ca (goodIn_ca (goodIn_ca (goodIn_cc zbX11_init_X10_init_0 (goodIn_app zbX11_init_X10_init_1 zbX11_init_X10_init_2)) (goodIn_sub in_X11_init_X8 zgw_X8)) (goodIn_sub in_X11_init_X10 zgw_X10)) (goodIn_sub in_X11_init_X7 zgw_X7))
set_option maxRecDepth 20000 in
theorem gX11_init_X10_init_n26 : GoodIn wsX11_init (wsX10_init) := ggX11_init_X10_init
theorem in_X11_init_X6 : ∀ w ∈ wsX60, w ∈ wsX11_init := fun _ h => List.mem_cons_of_mem _ (List.mem_append_left _ (List.mem_append_left _ (List.mem_append_left _ (List.mem_append_left _ (List.mem_append_left _ (List.mem_append_left _ (List.mem_append_left _ (List.mem_append_left _ (List.mem_append_right _ h)))))))))
set_option maxRecDepth 20000 in
theorem zbX11_init_X6_init_0 : GoodIn wsX11_init [Cond.code yX6_init cX6_init 1 none] := goodIn_r _ [70] (by decide +kernel) (by decide +kernel)
set_option maxRecDepth 20000 in
theorem zbX11_init_X6_init_1 : GoodIn wsX11_init wsX6_init_r1 := goodIn_r _ [71, 2, 3, 72, 60, 61, 73, 63, 64, 65, 66, 5, 6, 67, 68, 46, 47, 48, 49, 50, 51, 52, 53, 54] (by decide +kernel) (by decide +kernel)
set_option maxRecDepth 20000 in
theorem zbX11_init_X6_init_2 : GoodIn wsX11_init wsX6_init_r2 := goodIn_r _ [55] (by decide +kernel) (by decide +kernel)
set_option maxRecDepth 20000 in
theorem ggX11_init_X6_init : GoodIn wsX11_init wsX6_init := (goodIn_ca (goodIn_ca (goodIn_ca (goodIn_cc zbX11_init_X6_init_0 (goodIn_app zbX11_init_X6_init_1 zbX11_init_X6_init_2)) (goodIn_sub in_X11_init_X8 zgw_X8)) (goodIn_sub in_X11_init_X6 zgw_X6)) (goodIn_sub in_X11_init_X7 zgw_X7))
set_option maxRecDepth 20000 in
theorem gX11_init_X6_init_n33 : GoodIn wsX11_init (wsX6_init) := ggX11_init_X6_init
theorem in_X11_init_X4 : ∀ w ∈ wsX40, w ∈ wsX11_init := fun _ h => List.mem_cons_of_mem _ (List.mem_append_left _ (List.mem_append_left _ (List.mem_append_left _ (List.mem_append_left _ (List.mem_append_left _ (List.mem_append_left _ (List.mem_append_left _ (List.mem_append_right _ h))))))))
set_option maxRecDepth 20000 in
theorem zbX11_init_X4_init : GoodIn wsX11_init (Cond.code yX4_init cX4_init 1 none :: [.methodLink RX4 3 objectInit, .instanceMethod objectInit, .code objectInit ⟨#[0xb1]⟩ 1 none, .classLink RX4 9 "[[J", .arrayClass .long, .fieldLink RX4 11 "ClayAccounts$Solver" "off" "[[J", .fieldLink RX4 16 "ClayAccounts$Solver" "slopes" "[[J", .fieldLink RX4 19 "ClayAccounts$Solver" "downs" "[[J", .fieldLink RX4 22 "ClayAccounts$Solver" "ups" "[[J", .arrayClass .int, .fieldLink RX4 25 "ClayAccounts$Solver" "digits" "[I"]) := goodIn_r _ [75, 76, 2, 3, 77, 78, 79, 80, 81, 82, 33, 83] (by decide +kernel) (by decide +kernel)
set_option maxRecDepth 20000 in
theorem ggX11_init_X4_init : GoodIn wsX11_init wsX4_init := (goodIn_ca zbX11_init_X4_init (goodIn_sub in_X11_init_X4 zgw_X4))
set_option maxRecDepth 20000 in
theorem gX11_init_X4_init_n40 : GoodIn wsX11_init (wsX4_init) := ggX11_init_X4_init
theorem in_X11_init_X3 : ∀ w ∈ wsX30, w ∈ wsX11_init := fun _ h => List.mem_cons_of_mem _ (List.mem_append_left _ (List.mem_append_left _ (List.mem_append_left _ (List.mem_append_left _ (List.mem_append_left _ (List.mem_append_left _ (List.mem_append_right _ h)))))))
set_option maxRecDepth 20000 in
theorem zbX11_init_X3_init : GoodIn wsX11_init (Cond.code yX3_init cX3_init 1 none :: [.methodLink RX3 3 objectInit, .instanceMethod objectInit, .code objectInit ⟨#[0xb1]⟩ 1 none, .arrayClass .int, .fieldLink RX3 9 "ClayAccounts$Matcher" "partners" "[I", .fieldLink RX3 15 "ClayAccounts$Matcher" "weights" "[I", .fieldLink RX3 18 "ClayAccounts$Matcher" "best" "[I", .methodLink RX3 21 yJ7_fill_53178, .static yJ7_fill_53178, .initialized RJ7, .code yJ7_fill_53178 cJ7_fill_53178 4 none]) := goodIn_r _ [86, 87, 2, 3, 33, 88, 89, 90, 91, 92, 93, 94] (by decide +kernel) (by decide +kernel)
set_option maxRecDepth 20000 in
theorem ggX11_init_X3_init : GoodIn wsX11_init wsX3_init := (goodIn_ca zbX11_init_X3_init (goodIn_sub in_X11_init_X3 zgw_X3))
set_option maxRecDepth 20000 in
theorem gX11_init_X3_init : GoodIn wsX11_init (wsX3_init) := ggX11_init_X3_init
theorem in_X11_init_X1 : ∀ w ∈ wsX10, w ∈ wsX11_init := fun _ h => List.mem_cons_of_mem _ (List.mem_append_right _ h)
theorem in_X11_init_X2 : ∀ w ∈ wsX20, w ∈ wsX11_init := fun _ h => List.mem_cons_of_mem _ (List.mem_append_left _ (List.mem_append_right _ h))
theorem in_X11_init_X5 : ∀ w ∈ wsX50, w ∈ wsX11_init := fun _ h => List.mem_cons_of_mem _ (List.mem_append_left _ (List.mem_append_left _ (List.mem_append_left _ (List.mem_append_left _ (List.mem_append_left _ (List.mem_append_right _ h))))))
set_option maxRecDepth 20000 in
theorem zbX11_init_X5_init : GoodIn wsX11_init (Cond.code yX5_init cX5_init 2 none :: [.methodLink RX5 3 objectInit, .instanceMethod objectInit, .code objectInit ⟨#[0xb1]⟩ 1 none, .classLink RX5 9 RX2, .fieldLink RX5 11 "ClayAccounts$Tablet" "lines" "[LClayAccounts$Line;", .classLink RX5 17 RX1, .fieldLink RX5 19 "ClayAccounts$Tablet" "holes" "[LClayAccounts$Hole;", .instantiable RX2 6, .initialized RX2, .instantiable RX1 7, .initialized RX1, .instanceMethod yX2_init, .code yX2_init cX2_init 1 none, .methodLink RX2 3 objectInit, .instanceMethod yX1_init, .code yX1_init cX1_init 1 none, .methodLink RX1 3 objectInit]) := goodIn_r _ [97, 98, 2, 3, 99, 100, 101, 102, 103, 104, 105, 106, 107, 108, 109, 110, 111, 112] (by decide +kernel) (by decide +kernel)
set_option maxRecDepth 20000 in
theorem ggX11_init_X5_init : GoodIn wsX11_init wsX5_init := (goodIn_ca (goodIn_ca (goodIn_ca zbX11_init_X5_init (goodIn_sub in_X11_init_X5 zgw_X5)) (goodIn_sub in_X11_init_X2 zgw_X2)) (goodIn_sub in_X11_init_X1 zgw_X1))
set_option maxRecDepth 20000 in
theorem gX11_init_X5_init : GoodIn wsX11_init (wsX5_init) := ggX11_init_X5_init
theorem in_X11_init_X9 : ∀ w ∈ wsX90, w ∈ wsX11_init := fun _ h => List.mem_cons_of_mem _ (List.mem_append_left _ (List.mem_append_left _ (List.mem_append_left _ (List.mem_append_left _ (List.mem_append_right _ h)))))
set_option maxRecDepth 20000 in
theorem zbX11_init_X9_init : GoodIn wsX11_init (Cond.code yX9_init cX9_init 1 none :: [.methodLink RX9 3 objectInit, .instanceMethod objectInit, .code objectInit ⟨#[0xb1]⟩ 1 none, .arrayClass .long, .fieldLink RX9 9 "ClayAccounts$Units" "systemNames" "[J", .arrayClass .int, .fieldLink RX9 15 "ClayAccounts$Units" "unitCounts" "[I", .fieldLink RX9 19 "ClayAccounts$Units" "names" "[J", .fieldLink RX9 22 "ClayAccounts$Units" "factors" "[I", .fieldLink RX9 25 "ClayAccounts$Units" "worths" "[I", .fieldLink RX9 28 "ClayAccounts$Units" "mosts" "[I"]) := goodIn_r _ [114, 115, 2, 3, 78, 116, 33, 117, 118, 119, 120, 121] (by decide +kernel) (by decide +kernel)
set_option maxRecDepth 20000 in
theorem ggX11_init_X9_init : GoodIn wsX11_init wsX9_init := (goodIn_ca zbX11_init_X9_init (goodIn_sub in_X11_init_X9 zgw_X9))
set_option maxRecDepth 20000 in
theorem gX11_init_X9_init_n75 : GoodIn wsX11_init (wsX9_init) := ggX11_init_X9_init
theorem in_X11_init_X0 : ∀ w ∈ wsX00, w ∈ wsX11_init := fun _ h => List.mem_cons_of_mem _ (List.mem_append_left _ (List.mem_append_left _ (List.mem_append_left _ (List.mem_append_right _ h))))
set_option maxRecDepth 20000 in
theorem zbX11_init_X0_init : GoodIn wsX11_init (Cond.code yX0_init cX0_init 1 none :: [.methodLink RX0 3 objectInit, .instanceMethod objectInit, .code objectInit ⟨#[0xb1]⟩ 1 none, .classLink RX0 9 RX7, .instantiable RX7 2, .initialized RX7, .fieldLink RX0 14 "ClayAccounts$Fragment" "text" "LClayAccounts$Text;", .methodLink RX0 11 yX7_init, .instanceMethod yX7_init, .code yX7_init cX7_init 2 none, .methodLink RX7 3 objectInit, .methodLink RX7 9 Lib.Math.max.name, .static Lib.Math.max.name, .initialized "java/lang/Math", .code Lib.Math.max.name Lib.Math.max.code 2 (some .int), .arrayClass .byte, .fieldLink RX7 15 "ClayAccounts$Text" "bytes" "[B", .fieldLink RX7 21 "ClayAccounts$Text" "size" "I"]) := goodIn_r _ [123, 124, 2, 3, 125, 5, 6, 126, 127, 46, 47, 48, 49, 50, 51, 52, 53, 54, 55] (by decide +kernel) (by decide +kernel)
set_option maxRecDepth 20000 in
theorem ggX11_init_X0_init : GoodIn wsX11_init wsX0_init := (goodIn_ca (goodIn_ca zbX11_init_X0_init (goodIn_sub in_X11_init_X7 zgw_X7)) (goodIn_sub in_X11_init_X0 zgw_X0))
set_option maxRecDepth 20000 in
theorem gX11_init_X0_init_n83 : GoodIn wsX11_init (wsX0_init) := ggX11_init_X0_init
set_option maxRecDepth 20000 in
theorem zbX11_init_J7_fill_53178 : GoodIn wsX11_init (Cond.code yJ7_fill_53178 cJ7_fill_53178 4 none :: []) := goodIn_r _ [94] (by decide +kernel) (by decide +kernel)
set_option maxRecDepth 20000 in
theorem ggX11_init_J7_fill_53178 : GoodIn wsX11_init wsJ7_fill_53178 := zbX11_init_J7_fill_53178
set_option maxRecDepth 20000 in
theorem gX11_init_J7_fill_53178 : GoodIn wsX11_init (va_wsS RX11 84 yJ7_fill_53178 wsJ7_fill_53178) := goodIn_app (goodIn_of _ (by decide +kernel)) ggX11_init_J7_fill_53178
theorem in_X11_feed_X7 : ∀ w ∈ wsX70, w ∈ wsX11_feed := fun _ h => List.mem_cons_of_mem _ (List.mem_append_right _ h)
set_option maxRecDepth 20000 in
theorem zbX11_feed_X7_putFour : GoodIn wsX11_feed (Cond.code yX7_putFour cX7_putFour 2 none :: [.methodLink RX7 25 yX7_put, .instanceMethod yX7_put, .selects RX7 yX7_put yX7_put, .initialized RX7, .code yX7_put cX7_put 2 none, .fieldLink RX7 21 "ClayAccounts$Text" "size" "I", .fieldLink RX7 15 "ClayAccounts$Text" "bytes" "[B"]) := goodIn_r _ [7, 8, 9, 10, 6, 11, 12, 13] (by decide +kernel) (by decide +kernel)
set_option maxRecDepth 20000 in
theorem ggX11_feed_X7_putFour : GoodIn wsX11_feed wsX7_putFour := (goodIn_ca zbX11_feed_X7_putFour (goodIn_sub in_X11_feed_X7 zgw_X7))
set_option maxRecDepth 20000 in
theorem gX11_feed_X7_putFour : GoodIn wsX11_feed (wsV RX11 103 RX7 yX7_putFour wsX7_putFour) := goodIn_app (goodIn_of _ (by decide +kernel)) ggX11_feed_X7_putFour
theorem in_X11_systems_X10 : ∀ w ∈ wsX100, w ∈ wsX11_systems := fun _ h => List.mem_cons_of_mem _ (List.mem_append_left _ (List.mem_append_left _ (List.mem_append_left _ (List.mem_append_left _ (List.mem_append_right _ h)))))
theorem in_X11_systems_X7 : ∀ w ∈ wsX70, w ∈ wsX11_systems := fun _ h => List.mem_cons_of_mem _ (List.mem_append_left _ (List.mem_append_right _ h))
theorem in_X11_systems_X8 : ∀ w ∈ wsX80, w ∈ wsX11_systems := fun _ h => List.mem_cons_of_mem _ (List.mem_append_left _ (List.mem_append_left _ (List.mem_append_left _ (List.mem_append_right _ h))))
theorem in_X11_systems_X9 : ∀ w ∈ wsX90, w ∈ wsX11_systems := fun _ h => List.mem_cons_of_mem _ (List.mem_append_left _ (List.mem_append_left _ (List.mem_append_right _ h)))
set_option maxRecDepth 20000 in
theorem zbX11_systems_X10_read_0 : GoodIn wsX11_systems [Cond.code yX10_read cX10_read 4 (some .boolean)] := goodIn_r _ [17] (by decide +kernel) (by decide +kernel)
set_option maxRecDepth 20000 in
theorem zbX11_systems_X10_read_1 : GoodIn wsX11_systems wsX10_read_r1 := goodIn_r _ [18, 19, 20, 21, 22, 23, 24, 25, 26, 27, 28, 29, 30, 31, 32, 33, 34, 35, 36, 37, 38, 39, 40, 41] (by decide +kernel) (by decide +kernel)
set_option maxRecDepth 20000 in
theorem zbX11_systems_X10_read_2 : GoodIn wsX11_systems wsX10_read_r2 := goodIn_r _ [42, 43, 44, 45, 46, 47, 48, 49, 50, 51, 52, 53, 54, 55, 56, 57, 58, 59, 60, 61, 62, 63, 64, 65] (by decide +kernel) (by decide +kernel)
set_option maxRecDepth 20000 in
theorem zbX11_systems_X10_read_3 : GoodIn wsX11_systems wsX10_read_r3 := goodIn_r _ [66, 67, 68, 69, 70, 71, 72, 73, 74, 75, 76, 77, 78, 79, 80, 81, 82, 83, 84, 85, 86, 87, 88, 89] (by decide +kernel) (by decide +kernel)
set_option maxRecDepth 20000 in
theorem zbX11_systems_X10_read_4 : GoodIn wsX11_systems wsX10_read_r4 := goodIn_r _ [90, 91, 92, 93, 94, 95, 96, 97, 98, 99, 100, 101, 102, 103, 104, 105, 106, 107, 108, 109, 16, 110, 111, 112] (by decide +kernel) (by decide +kernel)
set_option maxRecDepth 20000 in
theorem zbX11_systems_X10_read_5 : GoodIn wsX11_systems wsX10_read_r5 := goodIn_r _ [113, 114, 115, 116, 117, 118, 119, 120, 121, 122, 123, 124, 125, 126, 127, 128, 129, 130, 131, 132, 133, 134, 135, 136] (by decide +kernel) (by decide +kernel)
set_option maxRecDepth 20000 in
theorem zbX11_systems_X10_read_6 : GoodIn wsX11_systems wsX10_read_r6 := goodIn_r _ [137, 138, 139, 140, 141, 142, 143, 144, 145, 146, 147, 148, 149, 150, 151, 152, 153, 154, 155, 156, 157, 158, 159, 160] (by decide +kernel) (by decide +kernel)
set_option maxRecDepth 20000 in
theorem zbX11_systems_X10_read_7 : GoodIn wsX11_systems wsX10_read_r7 := goodIn_r _ [161, 162, 163, 164, 165, 166, 167, 168, 169, 170, 171, 172, 173] (by decide +kernel) (by decide +kernel)
set_option maxRecDepth 20000 in
theorem ggX11_systems_X10_read : GoodIn wsX11_systems wsX10_read := (goodIn_ca (goodIn_ca (goodIn_ca (goodIn_ca (goodIn_cc zbX11_systems_X10_read_0 (goodIn_app zbX11_systems_X10_read_1 (goodIn_app zbX11_systems_X10_read_2 (goodIn_app zbX11_systems_X10_read_3 (goodIn_app zbX11_systems_X10_read_4 (goodIn_app zbX11_systems_X10_read_5 (goodIn_app zbX11_systems_X10_read_6 zbX11_systems_X10_read_7))))))) (goodIn_sub in_X11_systems_X10 zgw_X10)) (goodIn_sub in_X11_systems_X8 zgw_X8)) (goodIn_sub in_X11_systems_X9 zgw_X9)) (goodIn_sub in_X11_systems_X7 zgw_X7))
set_option maxRecDepth 20000 in
theorem gX11_systems_X10_read : GoodIn wsX11_systems (wsV RX11 106 RX10 yX10_read wsX10_read) := goodIn_app (goodIn_of _ (by decide +kernel)) ggX11_systems_X10_read
set_option maxRecDepth 20000 in
theorem zbX11_systems_X7_clear : GoodIn wsX11_systems (Cond.code yX7_clear cX7_clear 1 none :: [.fieldLink RX7 21 "ClayAccounts$Text" "size" "I"]) := goodIn_r _ [177, 65] (by decide +kernel) (by decide +kernel)
set_option maxRecDepth 20000 in
theorem ggX11_systems_X7_clear : GoodIn wsX11_systems wsX7_clear := (goodIn_ca zbX11_systems_X7_clear (goodIn_sub in_X11_systems_X7 zgw_X7))
set_option maxRecDepth 20000 in
theorem gX11_systems_X7_clear : GoodIn wsX11_systems (wsV RX11 110 RX7 yX7_clear wsX7_clear) := goodIn_app (goodIn_of _ (by decide +kernel)) ggX11_systems_X7_clear
theorem in_X11_systems_X3 : ∀ w ∈ wsX30, w ∈ wsX11_systems := fun _ h => List.mem_cons_of_mem _ (List.mem_append_right _ h)
set_option maxRecDepth 20000 in
theorem zbX11_systems_X3_forget : GoodIn wsX11_systems (Cond.code yX3_forget cX3_forget 1 none :: [.fieldLink RX3 9 "ClayAccounts$Matcher" "partners" "[I", .fieldLink RX3 27 "ClayAccounts$Matcher" "pairCount" "I", .fieldLink RX3 31 "ClayAccounts$Matcher" "sureCount" "I", .methodLink RX3 21 yJ7_fill_53178, .static yJ7_fill_53178, .initialized RJ7, .code yJ7_fill_53178 cJ7_fill_53178 4 none]) := goodIn_r _ [182, 183, 184, 185, 186, 36, 33, 37] (by decide +kernel) (by decide +kernel)
set_option maxRecDepth 20000 in
theorem ggX11_systems_X3_forget : GoodIn wsX11_systems wsX3_forget := (goodIn_ca zbX11_systems_X3_forget (goodIn_sub in_X11_systems_X3 zgw_X3))
set_option maxRecDepth 20000 in
theorem gX11_systems_X3_forget : GoodIn wsX11_systems (wsV RX11 125 RX3 yX3_forget wsX3_forget) := goodIn_app (goodIn_of _ (by decide +kernel)) ggX11_systems_X3_forget
set_option maxRecDepth 20000 in
theorem zbX11_systems_J7_fill_53178 : GoodIn wsX11_systems (Cond.code yJ7_fill_53178 cJ7_fill_53178 4 none :: []) := goodIn_r _ [37] (by decide +kernel) (by decide +kernel)
set_option maxRecDepth 20000 in
theorem ggX11_systems_J7_fill_53178 : GoodIn wsX11_systems wsJ7_fill_53178 := zbX11_systems_J7_fill_53178
set_option maxRecDepth 20000 in
theorem gX11_systems_J7_fill_53178 : GoodIn wsX11_systems (va_wsS RX11 84 yJ7_fill_53178 wsJ7_fill_53178) := goodIn_app (goodIn_of _ (by decide +kernel)) ggX11_systems_J7_fill_53178
theorem in_X11_system_X11 : ∀ w ∈ wsX110, w ∈ wsX11_system := fun _ h => List.mem_cons_of_mem _ (List.mem_append_left _ (List.mem_append_left _ (List.mem_append_right _ h)))
theorem in_X11_system_X9 : ∀ w ∈ wsX90, w ∈ wsX11_system := fun _ h => List.mem_cons_of_mem _ (List.mem_append_left _ (List.mem_append_right _ h))
set_option maxRecDepth 20000 in
theorem zbX11_system_X11_isSystem : GoodIn wsX11_system (Cond.code yX11_isSystem cX11_isSystem 2 (some .boolean) :: [.fieldLink RX11 76 "ClayAccounts" "units" "LClayAccounts$Units;", .fieldLink RX11 128 "ClayAccounts$Units" "systemCount" "I"]) := goodIn_r _ [10, 3, 11] (by decide +kernel) (by decide +kernel)
set_option maxRecDepth 20000 in
theorem ggX11_system_X11_isSystem : GoodIn wsX11_system wsX11_isSystem := (goodIn_ca (goodIn_ca zbX11_system_X11_isSystem (goodIn_sub in_X11_system_X11 zgw_X11)) (goodIn_sub in_X11_system_X9 zgw_X9))
set_option maxRecDepth 20000 in
theorem gX11_system_X11_isSystem : GoodIn wsX11_system (wsV RX11 131 RX11 yX11_isSystem wsX11_isSystem) := goodIn_app (goodIn_of _ (by decide +kernel)) ggX11_system_X11_isSystem
set_option maxRecDepth 20000 in
theorem zbX11_system_X9_slot : GoodIn wsX11_system (Cond.code yX9_slot cX9_slot 2 (some .int) :: []) := goodIn_r _ [15] (by decide +kernel) (by decide +kernel)
set_option maxRecDepth 20000 in
theorem ggX11_system_X9_slot : GoodIn wsX11_system wsX9_slot := zbX11_system_X9_slot
set_option maxRecDepth 20000 in
theorem gX11_system_X9_slot : GoodIn wsX11_system (va_wsS RX11 148 yX9_slot wsX9_slot) := goodIn_app (goodIn_of _ (by decide +kernel)) ggX11_system_X9_slot
theorem in_X11_write_X11 : ∀ w ∈ wsX110, w ∈ wsX11_write := fun _ h => List.mem_cons_of_mem _ (List.mem_append_left _ (List.mem_append_left _ (List.mem_append_right _ h)))
theorem in_X11_write_X9 : ∀ w ∈ wsX90, w ∈ wsX11_write := fun _ h => List.mem_cons_of_mem _ (List.mem_append_right _ h)
set_option maxRecDepth 20000 in
theorem zbX11_write_X11_isSystem : GoodIn wsX11_write (Cond.code yX11_isSystem cX11_isSystem 2 (some .boolean) :: [.fieldLink RX11 76 "ClayAccounts" "units" "LClayAccounts$Units;", .fieldLink RX11 128 "ClayAccounts$Units" "systemCount" "I"]) := goodIn_r _ [8, 1, 9] (by decide +kernel) (by decide +kernel)
set_option maxRecDepth 20000 in
theorem ggX11_write_X11_isSystem : GoodIn wsX11_write wsX11_isSystem := (goodIn_ca (goodIn_ca zbX11_write_X11_isSystem (goodIn_sub in_X11_write_X11 zgw_X11)) (goodIn_sub in_X11_write_X9 zgw_X9))
set_option maxRecDepth 20000 in
theorem gX11_write_X11_isSystem : GoodIn wsX11_write (wsV RX11 131 RX11 yX11_isSystem wsX11_isSystem) := goodIn_app (goodIn_of _ (by decide +kernel)) ggX11_write_X11_isSystem
set_option maxRecDepth 20000 in
theorem zbX11_write_X9_canWrite : GoodIn wsX11_write (Cond.code yX9_canWrite cX9_canWrite 5 (some .boolean) :: [.fieldLink RX9 15 "ClayAccounts$Units" "unitCounts" "[I", .fieldLink RX9 25 "ClayAccounts$Units" "worths" "[I", .methodLink RX9 48 yX9_slot, .static yX9_slot, .initialized RX9, .code yX9_slot cX9_slot 2 (some .int)]) := goodIn_r _ [14, 15, 16, 17, 18, 13, 19] (by decide +kernel) (by decide +kernel)
set_option maxRecDepth 20000 in
theorem ggX11_write_X9_canWrite : GoodIn wsX11_write wsX9_canWrite := (goodIn_ca zbX11_write_X9_canWrite (goodIn_sub in_X11_write_X9 zgw_X9))
set_option maxRecDepth 20000 in
theorem gX11_write_X9_canWrite : GoodIn wsX11_write (wsV RX11 152 RX9 yX9_canWrite wsX9_canWrite) := goodIn_app (goodIn_of _ (by decide +kernel)) ggX11_write_X9_canWrite
theorem in_X11_write_X7 : ∀ w ∈ wsX70, w ∈ wsX11_write := fun _ h => List.mem_cons_of_mem _ (List.mem_append_left _ (List.mem_append_right _ h))
set_option maxRecDepth 20000 in
theorem zbX11_write_X7_clear : GoodIn wsX11_write (Cond.code yX7_clear cX7_clear 1 none :: [.fieldLink RX7 21 "ClayAccounts$Text" "size" "I"]) := goodIn_r _ [24, 25] (by decide +kernel) (by decide +kernel)
set_option maxRecDepth 20000 in
theorem ggX11_write_X7_clear : GoodIn wsX11_write wsX7_clear := (goodIn_ca zbX11_write_X7_clear (goodIn_sub in_X11_write_X7 zgw_X7))
set_option maxRecDepth 20000 in
theorem gX11_write_X7_clear : GoodIn wsX11_write (wsV RX11 110 RX7 yX7_clear wsX7_clear) := goodIn_app (goodIn_of _ (by decide +kernel)) ggX11_write_X7_clear
set_option maxRecDepth 20000 in
theorem zbX11_write_X9_writeTo : GoodIn wsX11_write (Cond.code yX9_writeTo cX9_writeTo 9 none :: [.fieldLink RX9 15 "ClayAccounts$Units" "unitCounts" "[I", .fieldLink RX9 25 "ClayAccounts$Units" "worths" "[I", .fieldLink RX9 19 "ClayAccounts$Units" "names" "[J", .methodLink RX9 48 yX9_slot, .static yX9_slot, .initialized RX9, .code yX9_slot cX9_slot 2 (some .int), .methodLink RX9 56 yX9_writeAmount, .static yX9_writeAmount, .code yX9_writeAmount cX9_writeAmount 6 none, .fieldLink RX9 60 "ClayAccounts$Text" "size" "I", .methodLink RX9 65 yX7_put, .instanceMethod yX7_put, .selects RX7 yX7_put yX7_put, .initialized RX7, .code yX7_put cX7_put 2 none, .fieldLink RX7 21 "ClayAccounts$Text" "size" "I", .fieldLink RX7 15 "ClayAccounts$Text" "bytes" "[B"]) := goodIn_r _ [29, 15, 16, 30, 17, 18, 13, 19, 31, 32, 33, 34, 35, 36, 37, 23, 38, 25, 39] (by decide +kernel) (by decide +kernel)
set_option maxRecDepth 20000 in
theorem ggX11_write_X9_writeTo : GoodIn wsX11_write wsX9_writeTo := (goodIn_ca (goodIn_ca zbX11_write_X9_writeTo (goodIn_sub in_X11_write_X9 zgw_X9)) (goodIn_sub in_X11_write_X7 zgw_X7))
set_option maxRecDepth 20000 in
theorem gX11_write_X9_writeTo : GoodIn wsX11_write (wsV RX11 156 RX9 yX9_writeTo wsX9_writeTo) := goodIn_app (goodIn_of _ (by decide +kernel)) ggX11_write_X9_writeTo
theorem in_X11_octet_X7 : ∀ w ∈ wsX70, w ∈ wsX11_octet := fun _ h => List.mem_cons_of_mem _ (List.mem_append_left _ (List.mem_append_right _ h))
set_option maxRecDepth 20000 in
theorem zbX11_octet_X7_byteAt : GoodIn wsX11_octet (Cond.code yX7_byteAt cX7_byteAt 2 (some .int) :: [.fieldLink RX7 21 "ClayAccounts$Text" "size" "I", .fieldLink RX7 15 "ClayAccounts$Text" "bytes" "[B"]) := goodIn_r _ [9, 10, 11] (by decide +kernel) (by decide +kernel)
set_option maxRecDepth 20000 in
theorem ggX11_octet_X7_byteAt : GoodIn wsX11_octet wsX7_byteAt := (goodIn_ca zbX11_octet_X7_byteAt (goodIn_sub in_X11_octet_X7 zgw_X7))
set_option maxRecDepth 20000 in
theorem gX11_octet_X7_byteAt : GoodIn wsX11_octet (wsV RX11 162 RX7 yX7_byteAt wsX7_byteAt) := goodIn_app (goodIn_of _ (by decide +kernel)) ggX11_octet_X7_byteAt
theorem in_X11_tablet_X1 : ∀ w ∈ wsX10, w ∈ wsX11_tablet := fun _ h => List.mem_cons_of_mem _ (List.mem_append_right _ h)
theorem in_X11_tablet_X2 : ∀ w ∈ wsX20, w ∈ wsX11_tablet := fun _ h => List.mem_cons_of_mem _ (List.mem_append_left _ (List.mem_append_right _ h))
theorem in_X11_tablet_X5 : ∀ w ∈ wsX50, w ∈ wsX11_tablet := fun _ h => List.mem_cons_of_mem _ (List.mem_append_left _ (List.mem_append_left _ (List.mem_append_left _ (List.mem_append_right _ h))))
theorem in_X11_tablet_X6 : ∀ w ∈ wsX60, w ∈ wsX11_tablet := fun _ h => List.mem_cons_of_mem _ (List.mem_append_left _ (List.mem_append_left _ (List.mem_append_left _ (List.mem_append_left _ (List.mem_append_left _ (List.mem_append_right _ h))))))
theorem in_X11_tablet_X7 : ∀ w ∈ wsX70, w ∈ wsX11_tablet := fun _ h => List.mem_cons_of_mem _ (List.mem_append_left _ (List.mem_append_left _ (List.mem_append_right _ h)))
theorem in_X11_tablet_X8 : ∀ w ∈ wsX80, w ∈ wsX11_tablet := fun _ h => List.mem_cons_of_mem _ (List.mem_append_left _ (List.mem_append_left _ (List.mem_append_left _ (List.mem_append_left _ (List.mem_append_right _ h)))))
theorem in_X11_tablet_X9 : ∀ w ∈ wsX90, w ∈ wsX11_tablet := fun _ h => List.mem_cons_of_mem _ (List.mem_append_left _ (List.mem_append_left _ (List.mem_append_left _ (List.mem_append_left _ (List.mem_append_left _ (List.mem_append_left _ (List.mem_append_right _ h)))))))
set_option maxRecDepth 20000 in
theorem zbX11_tablet_X6_read_0 : GoodIn wsX11_tablet [Cond.code yX6_read cX6_read 5 (some .boolean)] := goodIn_r _ [15] (by decide +kernel) (by decide +kernel)
set_option maxRecDepth 20000 in
theorem zbX11_tablet_X6_read_1 : GoodIn wsX11_tablet wsX6_read_r1 := goodIn_r _ [16, 17, 18, 19, 20, 21, 22, 23, 24, 25, 26, 27, 28, 29, 30, 31, 32, 33, 34, 35, 36, 37, 38, 39] (by decide +kernel) (by decide +kernel)
set_option maxRecDepth 20000 in
theorem zbX11_tablet_X6_read_2 : GoodIn wsX11_tablet wsX6_read_r2 := goodIn_r _ [40, 41, 42, 43, 44, 45, 46, 47, 48, 49, 50, 51, 52, 53, 54, 55, 56, 57, 58, 59, 60, 61, 62, 63] (by decide +kernel) (by decide +kernel)
set_option maxRecDepth 20000 in
theorem zbX11_tablet_X6_read_3 : GoodIn wsX11_tablet wsX6_read_r3 := goodIn_r _ [64, 65, 66, 67, 68, 69, 70, 71, 72, 73, 74, 75, 76, 77, 78, 79, 80, 81, 82, 83, 84, 85, 86, 87] (by decide +kernel) (by decide +kernel)
set_option maxRecDepth 20000 in
theorem zbX11_tablet_X6_read_4 : GoodIn wsX11_tablet wsX6_read_r4 := goodIn_r _ [88, 89, 90, 91, 92, 93, 94, 95, 96, 97, 98, 99, 100, 101, 14, 102, 103, 104, 105, 106, 107, 108, 109, 110] (by decide +kernel) (by decide +kernel)
set_option maxRecDepth 20000 in
theorem zbX11_tablet_X6_read_5 : GoodIn wsX11_tablet wsX6_read_r5 := goodIn_r _ [111, 112, 113, 114, 115, 116, 117, 118, 119, 120, 121, 122, 123, 124, 125, 126, 127, 128, 129, 130, 131, 132, 133, 134] (by decide +kernel) (by decide +kernel)
set_option maxRecDepth 20000 in
theorem zbX11_tablet_X6_read_6 : GoodIn wsX11_tablet wsX6_read_r6 := goodIn_r _ [135, 136, 137, 138, 139, 140, 141, 142, 143, 144, 145, 146, 147, 148, 149, 150, 151, 152, 153, 154, 155, 156, 157, 158] (by decide +kernel) (by decide +kernel)
set_option maxRecDepth 20000 in
theorem zbX11_tablet_X6_read_7 : GoodIn wsX11_tablet wsX6_read_r7 := goodIn_r _ [159, 160, 161, 162, 163, 164, 165, 166, 167, 168, 169, 170, 171, 172, 173, 174, 175, 176, 177, 178, 179, 180, 181, 182] (by decide +kernel) (by decide +kernel)
set_option maxRecDepth 20000 in
theorem zbX11_tablet_X6_read_8 : GoodIn wsX11_tablet wsX6_read_r8 := goodIn_r _ [183, 184, 185, 186, 187, 188, 189, 190, 191, 192, 193, 194, 195, 196, 197, 198, 199, 200, 201, 202, 203, 204, 205, 206] (by decide +kernel) (by decide +kernel)
set_option maxRecDepth 20000 in
theorem zbX11_tablet_X6_read_9 : GoodIn wsX11_tablet wsX6_read_r9 := goodIn_r _ [207, 208, 209] (by decide +kernel) (by decide +kernel)
set_option maxRecDepth 20000 in
theorem ggX11_tablet_X6_read : GoodIn wsX11_tablet wsX6_read := (goodIn_ca (goodIn_ca (goodIn_ca (goodIn_ca (goodIn_ca (goodIn_ca (goodIn_ca (goodIn_cc zbX11_tablet_X6_read_0 (goodIn_app zbX11_tablet_X6_read_1 (goodIn_app zbX11_tablet_X6_read_2 (goodIn_app zbX11_tablet_X6_read_3 (goodIn_app zbX11_tablet_X6_read_4 (goodIn_app zbX11_tablet_X6_read_5 (goodIn_app zbX11_tablet_X6_read_6 (goodIn_app zbX11_tablet_X6_read_7 (goodIn_app zbX11_tablet_X6_read_8 zbX11_tablet_X6_read_9))))))))) (goodIn_sub in_X11_tablet_X6 zgw_X6)) (goodIn_sub in_X11_tablet_X8 zgw_X8)) (goodIn_sub in_X11_tablet_X5 zgw_X5)) (goodIn_sub in_X11_tablet_X7 zgw_X7)) (goodIn_sub in_X11_tablet_X2 zgw_X2)) (goodIn_sub in_X11_tablet_X9 zgw_X9)) (goodIn_sub in_X11_tablet_X1 zgw_X1))
set_option maxRecDepth 20000 in
theorem gX11_tablet_X6_read : GoodIn wsX11_tablet (wsV RX11 166 RX6 yX6_read wsX6_read) := goodIn_app (goodIn_of _ (by decide +kernel)) ggX11_tablet_X6_read
set_option maxRecDepth 20000 in
theorem zbX11_tablet_X7_clear : GoodIn wsX11_tablet (Cond.code yX7_clear cX7_clear 1 none :: [.fieldLink RX7 21 "ClayAccounts$Text" "size" "I"]) := goodIn_r _ [213, 57] (by decide +kernel) (by decide +kernel)
set_option maxRecDepth 20000 in
theorem ggX11_tablet_X7_clear : GoodIn wsX11_tablet wsX7_clear := (goodIn_ca zbX11_tablet_X7_clear (goodIn_sub in_X11_tablet_X7 zgw_X7))
set_option maxRecDepth 20000 in
theorem gX11_tablet_X7_clear : GoodIn wsX11_tablet (wsV RX11 110 RX7 yX7_clear wsX7_clear) := goodIn_app (goodIn_of _ (by decide +kernel)) ggX11_tablet_X7_clear
theorem in_X11_line_X11 : ∀ w ∈ wsX110, w ∈ wsX11_line := fun _ h => List.mem_cons_of_mem _ (List.mem_append_left _ (List.mem_append_left _ (List.mem_append_left _ (List.mem_append_right _ h))))
theorem in_X11_line_X5 : ∀ w ∈ wsX50, w ∈ wsX11_line := fun _ h => List.mem_cons_of_mem _ (List.mem_append_left _ (List.mem_append_left _ (List.mem_append_right _ h)))
set_option maxRecDepth 20000 in
theorem zbX11_line_X11_isLine : GoodIn wsX11_line (Cond.code yX11_isLine cX11_isLine 3 (some .boolean) :: [.fieldLink RX11 54 "ClayAccounts" "tablets" "[LClayAccounts$Tablet;", .fieldLink RX11 196 "ClayAccounts$Tablet" "lineCount" "I", .methodLink RX11 193 yX11_isTablet, .instanceMethod yX11_isTablet, .selects RX11 yX11_isTablet yX11_isTablet, .initialized RX11, .code yX11_isTablet cX11_isTablet 2 (some .boolean), .fieldLink RX11 90 "ClayAccounts" "tabletCount" "I"]) := goodIn_r _ [13, 3, 14, 15, 16, 17, 12, 18, 19] (by decide +kernel) (by decide +kernel)
set_option maxRecDepth 20000 in
theorem ggX11_line_X11_isLine : GoodIn wsX11_line wsX11_isLine := (goodIn_ca (goodIn_ca zbX11_line_X11_isLine (goodIn_sub in_X11_line_X11 zgw_X11)) (goodIn_sub in_X11_line_X5 zgw_X5))
set_option maxRecDepth 20000 in
theorem gX11_line_X11_isLine : GoodIn wsX11_line (wsV RX11 170 RX11 yX11_isLine wsX11_isLine) := goodIn_app (goodIn_of _ (by decide +kernel)) ggX11_line_X11_isLine
theorem in_X11_lines_X11 : ∀ w ∈ wsX110, w ∈ wsX11_lines := fun _ h => List.mem_cons_of_mem _ (List.mem_append_left _ (List.mem_append_right _ h))
set_option maxRecDepth 20000 in
theorem zbX11_lines_X11_isTablet : GoodIn wsX11_lines (Cond.code yX11_isTablet cX11_isTablet 2 (some .boolean) :: [.fieldLink RX11 90 "ClayAccounts" "tabletCount" "I"]) := goodIn_r _ [7, 8] (by decide +kernel) (by decide +kernel)
set_option maxRecDepth 20000 in
theorem ggX11_lines_X11_isTablet : GoodIn wsX11_lines wsX11_isTablet := (goodIn_ca zbX11_lines_X11_isTablet (goodIn_sub in_X11_lines_X11 zgw_X11))
set_option maxRecDepth 20000 in
theorem gX11_lines_X11_isTablet : GoodIn wsX11_lines (wsV RX11 193 RX11 yX11_isTablet wsX11_isTablet) := goodIn_app (goodIn_of _ (by decide +kernel)) ggX11_lines_X11_isTablet
theorem in_X11_readings_X11 : ∀ w ∈ wsX110, w ∈ wsX11_readings := fun _ h => List.mem_cons_of_mem _ (List.mem_append_left _ (List.mem_append_left _ (List.mem_append_left _ (List.mem_append_right _ h))))
set_option maxRecDepth 20000 in
theorem zbX11_readings_X11_isTablet : GoodIn wsX11_readings (Cond.code yX11_isTablet cX11_isTablet 2 (some .boolean) :: [.fieldLink RX11 90 "ClayAccounts" "tabletCount" "I"]) := goodIn_r _ [6, 7] (by decide +kernel) (by decide +kernel)
set_option maxRecDepth 20000 in
theorem ggX11_readings_X11_isTablet : GoodIn wsX11_readings wsX11_isTablet := (goodIn_ca zbX11_readings_X11_isTablet (goodIn_sub in_X11_readings_X11 zgw_X11))
set_option maxRecDepth 20000 in
theorem gX11_readings_X11_isTablet : GoodIn wsX11_readings (wsV RX11 193 RX11 yX11_isTablet wsX11_isTablet) := goodIn_app (goodIn_of _ (by decide +kernel)) ggX11_readings_X11_isTablet
theorem in_X11_readings_X1 : ∀ w ∈ wsX10, w ∈ wsX11_readings := fun _ h => List.mem_cons_of_mem _ (List.mem_append_right _ h)
theorem in_X11_readings_X2 : ∀ w ∈ wsX20, w ∈ wsX11_readings := fun _ h => List.mem_cons_of_mem _ (List.mem_append_left _ (List.mem_append_right _ h))
theorem in_X11_readings_X4 : ∀ w ∈ wsX40, w ∈ wsX11_readings := fun _ h => List.mem_cons_of_mem _ (List.mem_append_left _ (List.mem_append_left _ (List.mem_append_right _ h)))
theorem in_X11_readings_X5 : ∀ w ∈ wsX50, w ∈ wsX11_readings := fun _ h => List.mem_cons_of_mem _ (List.mem_append_left _ (List.mem_append_left _ (List.mem_append_left _ (List.mem_append_left _ (List.mem_append_right _ h)))))
set_option maxRecDepth 20000 in
theorem zbX11_readings_X11_solved_0 : GoodIn wsX11_readings [Cond.code yX11_solved cX11_solved 3 (some (.object "ClayAccounts$Tablet"))] := goodIn_r _ [11] (by decide +kernel) (by decide +kernel)
set_option maxRecDepth 20000 in
theorem zbX11_readings_X11_solved_1 : GoodIn wsX11_readings wsX11_solved_r1 := goodIn_r _ [12, 13, 14, 15, 16, 17, 18, 19, 20, 21, 22, 23, 24, 25, 26, 27, 28, 29, 30, 31, 32, 33, 34, 35] (by decide +kernel) (by decide +kernel)
set_option maxRecDepth 20000 in
theorem zbX11_readings_X11_solved_2 : GoodIn wsX11_readings wsX11_solved_r2 := goodIn_r _ [36, 37, 38, 39, 40, 41, 42, 43, 44, 45, 46, 47, 48, 49, 50, 51, 52, 53, 54, 55, 56, 57, 58, 59] (by decide +kernel) (by decide +kernel)
set_option maxRecDepth 20000 in
theorem zbX11_readings_X11_solved_3 : GoodIn wsX11_readings wsX11_solved_r3 := goodIn_r _ [60, 61, 62, 63, 64, 65, 66, 67, 68, 69, 70, 71, 72, 73, 74, 75, 76, 77, 78, 79, 80, 81, 82, 83] (by decide +kernel) (by decide +kernel)
set_option maxRecDepth 20000 in
theorem zbX11_readings_X11_solved_4 : GoodIn wsX11_readings wsX11_solved_r4 := goodIn_r _ [84, 85, 86, 87, 88, 89, 90, 91, 92, 93, 94, 95, 96, 97] (by decide +kernel) (by decide +kernel)
set_option maxRecDepth 20000 in
theorem ggX11_readings_X11_solved : GoodIn wsX11_readings wsX11_solved := (goodIn_ca (goodIn_ca (goodIn_ca (goodIn_ca (goodIn_ca (goodIn_cc zbX11_readings_X11_solved_0 (goodIn_app zbX11_readings_X11_solved_1 (goodIn_app zbX11_readings_X11_solved_2 (goodIn_app zbX11_readings_X11_solved_3 zbX11_readings_X11_solved_4)))) (goodIn_sub in_X11_readings_X11 zgw_X11)) (goodIn_sub in_X11_readings_X5 zgw_X5)) (goodIn_sub in_X11_readings_X4 zgw_X4)) (goodIn_sub in_X11_readings_X2 zgw_X2)) (goodIn_sub in_X11_readings_X1 zgw_X1))
set_option maxRecDepth 20000 in
theorem gX11_readings_X11_solved : GoodIn wsX11_readings (wsV RX11 199 RX11 yX11_solved wsX11_solved) := goodIn_app (goodIn_of _ (by decide +kernel)) ggX11_readings_X11_solved
theorem in_X11_bound_X11 : ∀ w ∈ wsX110, w ∈ wsX11_bound := fun _ h => List.mem_cons_of_mem _ (List.mem_append_left _ (List.mem_append_left _ (List.mem_append_left _ (List.mem_append_left _ (List.mem_append_right _ h)))))
theorem in_X11_bound_X5 : ∀ w ∈ wsX50, w ∈ wsX11_bound := fun _ h => List.mem_cons_of_mem _ (List.mem_append_left _ (List.mem_append_left _ (List.mem_append_left _ (List.mem_append_left _ (List.mem_append_left _ (List.mem_append_right _ h))))))
set_option maxRecDepth 20000 in
theorem zbX11_bound_X11_isLine : GoodIn wsX11_bound (Cond.code yX11_isLine cX11_isLine 3 (some .boolean) :: [.fieldLink RX11 54 "ClayAccounts" "tablets" "[LClayAccounts$Tablet;", .fieldLink RX11 196 "ClayAccounts$Tablet" "lineCount" "I", .methodLink RX11 193 yX11_isTablet, .instanceMethod yX11_isTablet, .selects RX11 yX11_isTablet yX11_isTablet, .initialized RX11, .code yX11_isTablet cX11_isTablet 2 (some .boolean), .fieldLink RX11 90 "ClayAccounts" "tabletCount" "I"]) := goodIn_r _ [9, 10, 11, 12, 13, 14, 8, 15, 16] (by decide +kernel) (by decide +kernel)
set_option maxRecDepth 20000 in
theorem ggX11_bound_X11_isLine : GoodIn wsX11_bound wsX11_isLine := (goodIn_ca (goodIn_ca zbX11_bound_X11_isLine (goodIn_sub in_X11_bound_X11 zgw_X11)) (goodIn_sub in_X11_bound_X5 zgw_X5))
set_option maxRecDepth 20000 in
theorem gX11_bound_X11_isLine : GoodIn wsX11_bound (wsV RX11 170 RX11 yX11_isLine wsX11_isLine) := goodIn_app (goodIn_of _ (by decide +kernel)) ggX11_bound_X11_isLine
theorem in_X11_bound_X1 : ∀ w ∈ wsX10, w ∈ wsX11_bound := fun _ h => List.mem_cons_of_mem _ (List.mem_append_left _ (List.mem_append_right _ h))
theorem in_X11_bound_X2 : ∀ w ∈ wsX20, w ∈ wsX11_bound := fun _ h => List.mem_cons_of_mem _ (List.mem_append_left _ (List.mem_append_left _ (List.mem_append_right _ h)))
theorem in_X11_bound_X4 : ∀ w ∈ wsX40, w ∈ wsX11_bound := fun _ h => List.mem_cons_of_mem _ (List.mem_append_left _ (List.mem_append_left _ (List.mem_append_left _ (List.mem_append_right _ h))))
set_option maxRecDepth 20000 in
theorem zbX11_bound_X11_solved_0 : GoodIn wsX11_bound [Cond.code yX11_solved cX11_solved 3 (some (.object "ClayAccounts$Tablet"))] := goodIn_r _ [20] (by decide +kernel) (by decide +kernel)
set_option maxRecDepth 20000 in
theorem zbX11_bound_X11_solved_1 : GoodIn wsX11_bound wsX11_solved_r1 := goodIn_r _ [10, 21, 22, 23, 24, 25, 26, 27, 28, 29, 30, 31, 32, 33, 34, 35, 36, 37, 38, 39, 40, 41, 42, 43] (by decide +kernel) (by decide +kernel)
set_option maxRecDepth 20000 in
theorem zbX11_bound_X11_solved_2 : GoodIn wsX11_bound wsX11_solved_r2 := goodIn_r _ [44, 45, 46, 47, 48, 49, 50, 51, 52, 53, 54, 55, 56, 57, 58, 59, 60, 61, 62, 63, 64, 65, 66, 67] (by decide +kernel) (by decide +kernel)
set_option maxRecDepth 20000 in
theorem zbX11_bound_X11_solved_3 : GoodIn wsX11_bound wsX11_solved_r3 := goodIn_r _ [68, 69, 70, 71, 72, 73, 74, 75, 76, 77, 78, 79, 80, 81, 82, 83, 84, 85, 86, 87, 88, 89, 90, 91] (by decide +kernel) (by decide +kernel)
set_option maxRecDepth 20000 in
theorem zbX11_bound_X11_solved_4 : GoodIn wsX11_bound wsX11_solved_r4 := goodIn_r _ [92, 93, 94, 95, 96, 97, 98, 99, 100, 101, 102, 103, 104, 105] (by decide +kernel) (by decide +kernel)
set_option maxRecDepth 20000 in
theorem ggX11_bound_X11_solved : GoodIn wsX11_bound wsX11_solved := (goodIn_ca (goodIn_ca (goodIn_ca (goodIn_ca (goodIn_ca (goodIn_cc zbX11_bound_X11_solved_0 (goodIn_app zbX11_bound_X11_solved_1 (goodIn_app zbX11_bound_X11_solved_2 (goodIn_app zbX11_bound_X11_solved_3 zbX11_bound_X11_solved_4)))) (goodIn_sub in_X11_bound_X11 zgw_X11)) (goodIn_sub in_X11_bound_X5 zgw_X5)) (goodIn_sub in_X11_bound_X4 zgw_X4)) (goodIn_sub in_X11_bound_X2 zgw_X2)) (goodIn_sub in_X11_bound_X1 zgw_X1))
set_option maxRecDepth 20000 in
theorem gX11_bound_X11_solved : GoodIn wsX11_bound (wsV RX11 199 RX11 yX11_solved wsX11_solved) := goodIn_app (goodIn_of _ (by decide +kernel)) ggX11_bound_X11_solved
set_option maxRecDepth 20000 in
theorem zbX11_bound_X2_valueBound : GoodIn wsX11_bound (Cond.code yX2_valueBound cX2_valueBound 2 (some .int) :: [.fieldLink RX2 18 "ClayAccounts$Line" "holeCount" "I", .fieldLink RX2 21 "ClayAccounts$Line" "value" "I", .fieldLink RX2 27 "ClayAccounts$Line" "greatest" "I", .fieldLink RX2 24 "ClayAccounts$Line" "least" "I"]) := goodIn_r _ [109, 110, 111, 102, 100] (by decide +kernel) (by decide +kernel)
set_option maxRecDepth 20000 in
theorem ggX11_bound_X2_valueBound : GoodIn wsX11_bound wsX2_valueBound := (goodIn_ca zbX11_bound_X2_valueBound (goodIn_sub in_X11_bound_X2 zgw_X2))
set_option maxRecDepth 20000 in
theorem gX11_bound_X2_valueBound : GoodIn wsX11_bound (wsV RX11 208 RX2 yX2_valueBound wsX2_valueBound) := goodIn_app (goodIn_of _ (by decide +kernel)) ggX11_bound_X2_valueBound
theorem in_X11_digit_X11 : ∀ w ∈ wsX110, w ∈ wsX11_digit := fun _ h => List.mem_cons_of_mem _ (List.mem_append_left _ (List.mem_append_left _ (List.mem_append_left _ (List.mem_append_left _ (List.mem_append_left _ (List.mem_append_right _ h))))))
set_option maxRecDepth 20000 in
theorem zbX11_digit_X11_isTablet : GoodIn wsX11_digit (Cond.code yX11_isTablet cX11_isTablet 2 (some .boolean) :: [.fieldLink RX11 90 "ClayAccounts" "tabletCount" "I"]) := goodIn_r _ [12, 13] (by decide +kernel) (by decide +kernel)
set_option maxRecDepth 20000 in
theorem ggX11_digit_X11_isTablet : GoodIn wsX11_digit wsX11_isTablet := (goodIn_ca zbX11_digit_X11_isTablet (goodIn_sub in_X11_digit_X11 zgw_X11))
set_option maxRecDepth 20000 in
theorem gX11_digit_X11_isTablet : GoodIn wsX11_digit (wsV RX11 193 RX11 yX11_isTablet wsX11_isTablet) := goodIn_app (goodIn_of _ (by decide +kernel)) ggX11_digit_X11_isTablet
theorem in_X11_digit_X1 : ∀ w ∈ wsX10, w ∈ wsX11_digit := fun _ h => List.mem_cons_of_mem _ (List.mem_append_left _ (List.mem_append_left _ (List.mem_append_left _ (List.mem_append_right _ h))))
theorem in_X11_digit_X2 : ∀ w ∈ wsX20, w ∈ wsX11_digit := fun _ h => List.mem_cons_of_mem _ (List.mem_append_left _ (List.mem_append_right _ h))
theorem in_X11_digit_X4 : ∀ w ∈ wsX40, w ∈ wsX11_digit := fun _ h => List.mem_cons_of_mem _ (List.mem_append_left _ (List.mem_append_left _ (List.mem_append_right _ h)))
theorem in_X11_digit_X5 : ∀ w ∈ wsX50, w ∈ wsX11_digit := fun _ h => List.mem_cons_of_mem _ (List.mem_append_left _ (List.mem_append_left _ (List.mem_append_left _ (List.mem_append_left _ (List.mem_append_right _ h)))))
set_option maxRecDepth 20000 in
theorem zbX11_digit_X11_solved_0 : GoodIn wsX11_digit [Cond.code yX11_solved cX11_solved 3 (some (.object "ClayAccounts$Tablet"))] := goodIn_r _ [17] (by decide +kernel) (by decide +kernel)
set_option maxRecDepth 20000 in
theorem zbX11_digit_X11_solved_1 : GoodIn wsX11_digit wsX11_solved_r1 := goodIn_r _ [3, 18, 19, 20, 21, 22, 23, 24, 25, 26, 27, 28, 29, 30, 31, 32, 33, 34, 35, 36, 37, 38, 39, 40] (by decide +kernel) (by decide +kernel)
set_option maxRecDepth 20000 in
theorem zbX11_digit_X11_solved_2 : GoodIn wsX11_digit wsX11_solved_r2 := goodIn_r _ [41, 42, 43, 44, 45, 46, 47, 48, 49, 50, 51, 52, 53, 54, 55, 56, 57, 58, 59, 60, 61, 62, 63, 64] (by decide +kernel) (by decide +kernel)
set_option maxRecDepth 20000 in
theorem zbX11_digit_X11_solved_3 : GoodIn wsX11_digit wsX11_solved_r3 := goodIn_r _ [65, 66, 67, 68, 69, 70, 71, 72, 73, 74, 75, 76, 77, 78, 79, 80, 81, 82, 83, 84, 85, 86, 87, 88] (by decide +kernel) (by decide +kernel)
set_option maxRecDepth 20000 in
theorem zbX11_digit_X11_solved_4 : GoodIn wsX11_digit wsX11_solved_r4 := goodIn_r _ [89, 90, 91, 92, 93, 94, 95, 96, 97, 98, 99, 100, 101, 102] (by decide +kernel) (by decide +kernel)
set_option maxRecDepth 20000 in
theorem ggX11_digit_X11_solved : GoodIn wsX11_digit wsX11_solved := (goodIn_ca (goodIn_ca (goodIn_ca (goodIn_ca (goodIn_ca (goodIn_cc zbX11_digit_X11_solved_0 (goodIn_app zbX11_digit_X11_solved_1 (goodIn_app zbX11_digit_X11_solved_2 (goodIn_app zbX11_digit_X11_solved_3 zbX11_digit_X11_solved_4)))) (goodIn_sub in_X11_digit_X11 zgw_X11)) (goodIn_sub in_X11_digit_X5 zgw_X5)) (goodIn_sub in_X11_digit_X4 zgw_X4)) (goodIn_sub in_X11_digit_X2 zgw_X2)) (goodIn_sub in_X11_digit_X1 zgw_X1))
set_option maxRecDepth 20000 in
theorem gX11_digit_X11_solved : GoodIn wsX11_digit (wsV RX11 199 RX11 yX11_solved wsX11_solved) := goodIn_app (goodIn_of _ (by decide +kernel)) ggX11_digit_X11_solved
theorem in_X11_wrong_X11 : ∀ w ∈ wsX110, w ∈ wsX11_wrong := fun _ h => List.mem_cons_of_mem _ (List.mem_append_left _ (List.mem_append_left _ (List.mem_append_left _ (List.mem_append_right _ h))))
set_option maxRecDepth 20000 in
theorem zbX11_wrong_X11_isTablet : GoodIn wsX11_wrong (Cond.code yX11_isTablet cX11_isTablet 2 (some .boolean) :: [.fieldLink RX11 90 "ClayAccounts" "tabletCount" "I"]) := goodIn_r _ [6, 7] (by decide +kernel) (by decide +kernel)
set_option maxRecDepth 20000 in
theorem ggX11_wrong_X11_isTablet : GoodIn wsX11_wrong wsX11_isTablet := (goodIn_ca zbX11_wrong_X11_isTablet (goodIn_sub in_X11_wrong_X11 zgw_X11))
set_option maxRecDepth 20000 in
theorem gX11_wrong_X11_isTablet : GoodIn wsX11_wrong (wsV RX11 193 RX11 yX11_isTablet wsX11_isTablet) := goodIn_app (goodIn_of _ (by decide +kernel)) ggX11_wrong_X11_isTablet
theorem in_X11_wrong_X1 : ∀ w ∈ wsX10, w ∈ wsX11_wrong := fun _ h => List.mem_cons_of_mem _ (List.mem_append_right _ h)
theorem in_X11_wrong_X2 : ∀ w ∈ wsX20, w ∈ wsX11_wrong := fun _ h => List.mem_cons_of_mem _ (List.mem_append_left _ (List.mem_append_right _ h))
theorem in_X11_wrong_X4 : ∀ w ∈ wsX40, w ∈ wsX11_wrong := fun _ h => List.mem_cons_of_mem _ (List.mem_append_left _ (List.mem_append_left _ (List.mem_append_right _ h)))
theorem in_X11_wrong_X5 : ∀ w ∈ wsX50, w ∈ wsX11_wrong := fun _ h => List.mem_cons_of_mem _ (List.mem_append_left _ (List.mem_append_left _ (List.mem_append_left _ (List.mem_append_left _ (List.mem_append_right _ h)))))
set_option maxRecDepth 20000 in
theorem zbX11_wrong_X11_solved_0 : GoodIn wsX11_wrong [Cond.code yX11_solved cX11_solved 3 (some (.object "ClayAccounts$Tablet"))] := goodIn_r _ [11] (by decide +kernel) (by decide +kernel)
set_option maxRecDepth 20000 in
theorem zbX11_wrong_X11_solved_1 : GoodIn wsX11_wrong wsX11_solved_r1 := goodIn_r _ [12, 13, 14, 15, 16, 17, 18, 19, 20, 21, 22, 23, 24, 25, 26, 27, 28, 29, 30, 31, 32, 33, 34, 35] (by decide +kernel) (by decide +kernel)
set_option maxRecDepth 20000 in
theorem zbX11_wrong_X11_solved_2 : GoodIn wsX11_wrong wsX11_solved_r2 := goodIn_r _ [36, 37, 38, 39, 40, 41, 42, 43, 44, 45, 46, 47, 48, 49, 50, 51, 52, 53, 54, 55, 56, 57, 58, 59] (by decide +kernel) (by decide +kernel)
set_option maxRecDepth 20000 in
theorem zbX11_wrong_X11_solved_3 : GoodIn wsX11_wrong wsX11_solved_r3 := goodIn_r _ [60, 61, 62, 63, 64, 65, 66, 67, 68, 69, 70, 71, 72, 73, 74, 75, 76, 77, 78, 79, 80, 81, 82, 83] (by decide +kernel) (by decide +kernel)
set_option maxRecDepth 20000 in
theorem zbX11_wrong_X11_solved_4 : GoodIn wsX11_wrong wsX11_solved_r4 := goodIn_r _ [84, 85, 86, 87, 88, 89, 90, 91, 92, 93, 94, 95, 96, 97] (by decide +kernel) (by decide +kernel)
set_option maxRecDepth 20000 in
theorem ggX11_wrong_X11_solved : GoodIn wsX11_wrong wsX11_solved := (goodIn_ca (goodIn_ca (goodIn_ca (goodIn_ca (goodIn_ca (goodIn_cc zbX11_wrong_X11_solved_0 (goodIn_app zbX11_wrong_X11_solved_1 (goodIn_app zbX11_wrong_X11_solved_2 (goodIn_app zbX11_wrong_X11_solved_3 zbX11_wrong_X11_solved_4)))) (goodIn_sub in_X11_wrong_X11 zgw_X11)) (goodIn_sub in_X11_wrong_X5 zgw_X5)) (goodIn_sub in_X11_wrong_X4 zgw_X4)) (goodIn_sub in_X11_wrong_X2 zgw_X2)) (goodIn_sub in_X11_wrong_X1 zgw_X1))
set_option maxRecDepth 20000 in
theorem gX11_wrong_X11_solved : GoodIn wsX11_wrong (wsV RX11 199 RX11 yX11_solved wsX11_solved) := goodIn_app (goodIn_of _ (by decide +kernel)) ggX11_wrong_X11_solved
set_option maxRecDepth 20000 in
theorem zbX11_fragment_X11_isEdge : GoodIn wsX11_fragment (Cond.code yX11_isEdge cX11_isEdge 1 (some .boolean) :: [.constant RX11 263 (99999999)]) := goodIn_r _ [8, 9] (by decide +kernel) (by decide +kernel)
set_option maxRecDepth 20000 in
theorem ggX11_fragment_X11_isEdge : GoodIn wsX11_fragment wsX11_isEdge := zbX11_fragment_X11_isEdge
set_option maxRecDepth 20000 in
theorem gX11_fragment_X11_isEdge : GoodIn wsX11_fragment (va_wsS RX11 227 yX11_isEdge wsX11_isEdge) := goodIn_app (goodIn_of _ (by decide +kernel)) ggX11_fragment_X11_isEdge
theorem in_X11_fragment_X0 : ∀ w ∈ wsX00, w ∈ wsX11_fragment := fun _ h => List.mem_cons_of_mem _ (List.mem_append_right _ h)
theorem in_X11_fragment_X7 : ∀ w ∈ wsX70, w ∈ wsX11_fragment := fun _ h => List.mem_cons_of_mem _ (List.mem_append_left _ (List.mem_append_right _ h))
set_option maxRecDepth 20000 in
theorem zbX11_fragment_X0_take : GoodIn wsX11_fragment (Cond.code yX0_take cX0_take 6 none :: [.fieldLink RX0 14 "ClayAccounts$Fragment" "text" "LClayAccounts$Text;", .fieldLink RX0 23 "ClayAccounts$Fragment" "rowCount" "I", .fieldLink RX0 27 "ClayAccounts$Text" "size" "I", .fieldLink RX0 37 "ClayAccounts$Fragment" "left" "I", .fieldLink RX0 40 "ClayAccounts$Fragment" "right" "I", .methodLink RX0 20 yX7_clear, .instanceMethod yX7_clear, .selects RX7 yX7_clear yX7_clear, .initialized RX7, .code yX7_clear cX7_clear 1 none, .fieldLink RX7 21 "ClayAccounts$Text" "size" "I", .methodLink RX0 30 yX7_byteAt, .instanceMethod yX7_byteAt, .selects RX7 yX7_byteAt yX7_byteAt, .code yX7_byteAt cX7_byteAt 2 (some .int), .fieldLink RX7 15 "ClayAccounts$Text" "bytes" "[B", .methodLink RX0 34 yX7_put, .instanceMethod yX7_put, .selects RX7 yX7_put yX7_put, .code yX7_put cX7_put 2 none]) := goodIn_r _ [14, 15, 16, 17, 18, 19, 20, 21, 22, 23, 24, 25, 26, 27, 28, 29, 30, 31, 32, 33, 34] (by decide +kernel) (by decide +kernel)
set_option maxRecDepth 20000 in
theorem ggX11_fragment_X0_take : GoodIn wsX11_fragment wsX0_take := (goodIn_ca (goodIn_ca zbX11_fragment_X0_take (goodIn_sub in_X11_fragment_X0 zgw_X0)) (goodIn_sub in_X11_fragment_X7 zgw_X7))
set_option maxRecDepth 20000 in
theorem gX11_fragment_X0_take : GoodIn wsX11_fragment (wsV RX11 230 RX0 yX0_take wsX0_take) := goodIn_app (goodIn_of _ (by decide +kernel)) ggX11_fragment_X0_take
set_option maxRecDepth 20000 in
theorem zbX11_fragment_X7_clear : GoodIn wsX11_fragment (Cond.code yX7_clear cX7_clear 1 none :: [.fieldLink RX7 21 "ClayAccounts$Text" "size" "I"]) := goodIn_r _ [24, 25] (by decide +kernel) (by decide +kernel)
set_option maxRecDepth 20000 in
theorem ggX11_fragment_X7_clear : GoodIn wsX11_fragment wsX7_clear := (goodIn_ca zbX11_fragment_X7_clear (goodIn_sub in_X11_fragment_X7 zgw_X7))
set_option maxRecDepth 20000 in
theorem gX11_fragment_X7_clear : GoodIn wsX11_fragment (wsV RX11 110 RX7 yX7_clear wsX7_clear) := goodIn_app (goodIn_of _ (by decide +kernel)) ggX11_fragment_X7_clear
theorem in_X11_rows_X11 : ∀ w ∈ wsX110, w ∈ wsX11_rows := fun _ h => List.mem_cons_of_mem _ (List.mem_append_left _ (List.mem_append_right _ h))
set_option maxRecDepth 20000 in
theorem zbX11_rows_X11_isFragment : GoodIn wsX11_rows (Cond.code yX11_isFragment cX11_isFragment 2 (some .boolean) :: [.fieldLink RX11 94 "ClayAccounts" "fragmentCount" "I"]) := goodIn_r _ [7, 8] (by decide +kernel) (by decide +kernel)
set_option maxRecDepth 20000 in
theorem ggX11_rows_X11_isFragment : GoodIn wsX11_rows wsX11_isFragment := (goodIn_ca zbX11_rows_X11_isFragment (goodIn_sub in_X11_rows_X11 zgw_X11))
set_option maxRecDepth 20000 in
theorem gX11_rows_X11_isFragment : GoodIn wsX11_rows (wsV RX11 233 RX11 yX11_isFragment wsX11_isFragment) := goodIn_app (goodIn_of _ (by decide +kernel)) ggX11_rows_X11_isFragment
theorem in_X11_join_X11 : ∀ w ∈ wsX110, w ∈ wsX11_join := fun _ h => List.mem_cons_of_mem _ (List.mem_append_left _ (List.mem_append_left _ (List.mem_append_left _ (List.mem_append_left _ (List.mem_append_left _ (List.mem_append_left _ (List.mem_append_left _ (List.mem_append_left _ (List.mem_append_left _ (List.mem_append_right _ h))))))))))
set_option maxRecDepth 20000 in
theorem zbX11_join_X11_isFragment : GoodIn wsX11_join (Cond.code yX11_isFragment cX11_isFragment 2 (some .boolean) :: [.fieldLink RX11 94 "ClayAccounts" "fragmentCount" "I"]) := goodIn_r _ [5, 6] (by decide +kernel) (by decide +kernel)
set_option maxRecDepth 20000 in
theorem ggX11_join_X11_isFragment : GoodIn wsX11_join wsX11_isFragment := (goodIn_ca zbX11_join_X11_isFragment (goodIn_sub in_X11_join_X11 zgw_X11))
set_option maxRecDepth 20000 in
theorem gX11_join_X11_isFragment : GoodIn wsX11_join (wsV RX11 233 RX11 yX11_isFragment wsX11_isFragment) := goodIn_app (goodIn_of _ (by decide +kernel)) ggX11_join_X11_isFragment
theorem in_X11_join_X0 : ∀ w ∈ wsX00, w ∈ wsX11_join := fun _ h => List.mem_cons_of_mem _ (List.mem_append_left _ (List.mem_append_left _ (List.mem_append_left _ (List.mem_append_left _ (List.mem_append_left _ (List.mem_append_left _ (List.mem_append_left _ (List.mem_append_right _ h))))))))
theorem in_X11_join_X1 : ∀ w ∈ wsX10, w ∈ wsX11_join := fun _ h => List.mem_cons_of_mem _ (List.mem_append_left _ (List.mem_append_right _ h))
theorem in_X11_join_X2 : ∀ w ∈ wsX20, w ∈ wsX11_join := fun _ h => List.mem_cons_of_mem _ (List.mem_append_left _ (List.mem_append_left _ (List.mem_append_left _ (List.mem_append_right _ h))))
theorem in_X11_join_X4 : ∀ w ∈ wsX40, w ∈ wsX11_join := fun _ h => List.mem_cons_of_mem _ (List.mem_append_right _ h)
theorem in_X11_join_X5 : ∀ w ∈ wsX50, w ∈ wsX11_join := fun _ h => List.mem_cons_of_mem _ (List.mem_append_left _ (List.mem_append_left _ (List.mem_append_left _ (List.mem_append_left _ (List.mem_append_left _ (List.mem_append_left _ (List.mem_append_left _ (List.mem_append_left _ (List.mem_append_right _ h)))))))))
theorem in_X11_join_X6 : ∀ w ∈ wsX60, w ∈ wsX11_join := fun _ h => List.mem_cons_of_mem _ (List.mem_append_left _ (List.mem_append_left _ (List.mem_append_left _ (List.mem_append_left _ (List.mem_append_left _ (List.mem_append_right _ h))))))
theorem in_X11_join_X7 : ∀ w ∈ wsX70, w ∈ wsX11_join := fun _ h => List.mem_cons_of_mem _ (List.mem_append_left _ (List.mem_append_left _ (List.mem_append_left _ (List.mem_append_left _ (List.mem_append_left _ (List.mem_append_left _ (List.mem_append_right _ h)))))))
theorem in_X11_join_X8 : ∀ w ∈ wsX80, w ∈ wsX11_join := fun _ h => List.mem_cons_of_mem _ (List.mem_append_left _ (List.mem_append_left _ (List.mem_append_left _ (List.mem_append_left _ (List.mem_append_right _ h)))))
theorem in_X11_join_X9 : ∀ w ∈ wsX90, w ∈ wsX11_join := fun _ h => List.mem_cons_of_mem _ (List.mem_append_left _ (List.mem_append_left _ (List.mem_append_right _ h)))
set_option maxRecDepth 20000 in
theorem zbX11_join_X11_joined_0 : GoodIn wsX11_join [Cond.code yX11_joined cX11_joined 5 (some .int)] := goodIn_r _ [10] (by decide +kernel) (by decide +kernel)
set_option maxRecDepth 20000 in
theorem zbX11_join_X11_joined_1 : GoodIn wsX11_join wsX11_joined_r1 := goodIn_r _ [11, 12, 13, 14, 15, 16, 17, 18, 19, 20, 21, 22, 23, 24, 25, 26, 27, 28, 29, 30, 31, 32, 33, 34] (by decide +kernel) (by decide +kernel)
set_option maxRecDepth 20000 in
theorem zbX11_join_X11_joined_2 : GoodIn wsX11_join wsX11_joined_r2 := goodIn_r _ [35, 36, 37, 38, 39, 40, 41, 42, 43, 44, 45, 46, 47, 48, 49, 50, 51, 52, 53, 54, 55, 56, 57, 58] (by decide +kernel) (by decide +kernel)
set_option maxRecDepth 20000 in
theorem zbX11_join_X11_joined_3 : GoodIn wsX11_join wsX11_joined_r3 := goodIn_r _ [59, 60, 61, 62, 63, 64, 65, 66, 67, 68, 69, 70, 71, 72, 73, 74, 75, 76, 77, 78, 79, 80, 81, 82] (by decide +kernel) (by decide +kernel)
set_option maxRecDepth 20000 in
theorem zbX11_join_X11_joined_4 : GoodIn wsX11_join wsX11_joined_r4 := goodIn_r _ [83, 84, 85, 86, 87, 88, 89, 90, 91, 92, 93, 94, 95, 96, 97, 98, 99, 100, 101, 102, 103, 104, 105, 106] (by decide +kernel) (by decide +kernel)
set_option maxRecDepth 20000 in
theorem zbX11_join_X11_joined_5 : GoodIn wsX11_join wsX11_joined_r5 := goodIn_r _ [107, 108, 109, 110, 111, 112, 113, 114, 115, 116, 117, 118, 119, 120, 121, 122, 123, 124, 125, 126, 127, 128, 129, 130] (by decide +kernel) (by decide +kernel)
set_option maxRecDepth 20000 in
theorem zbX11_join_X11_joined_6 : GoodIn wsX11_join wsX11_joined_r6 := goodIn_r _ [131, 132, 133, 134, 135, 136, 137, 138, 139, 140, 141, 142, 143, 144, 145, 146, 147, 148, 149, 150, 151, 152, 153, 154] (by decide +kernel) (by decide +kernel)
set_option maxRecDepth 20000 in
theorem zbX11_join_X11_joined_7 : GoodIn wsX11_join wsX11_joined_r7 := goodIn_r _ [155, 156, 157, 158, 159, 160, 161, 162, 163, 164, 165, 166, 167, 168, 169, 170, 171, 172, 173, 174, 175, 176, 177, 178] (by decide +kernel) (by decide +kernel)
set_option maxRecDepth 20000 in
theorem zbX11_join_X11_joined_8 : GoodIn wsX11_join wsX11_joined_r8 := goodIn_r _ [179, 180, 181, 182, 183, 184, 185, 186, 187, 188, 189, 190, 191, 192, 193, 194, 195, 196, 197, 198, 199, 200, 201, 202] (by decide +kernel) (by decide +kernel)
set_option maxRecDepth 20000 in
theorem zbX11_join_X11_joined_9 : GoodIn wsX11_join wsX11_joined_r9 := goodIn_r _ [203, 204, 205, 206, 207, 208, 209, 210, 211, 212, 213, 214, 215, 216, 217, 218, 219, 220, 221, 222, 223, 224, 225, 226] (by decide +kernel) (by decide +kernel)
set_option maxRecDepth 20000 in
theorem zbX11_join_X11_joined_10 : GoodIn wsX11_join wsX11_joined_r10 := goodIn_r _ [227, 228, 229, 230, 231, 232, 233, 234, 235, 236, 237, 238, 239, 240, 241, 242, 243, 244, 245, 246, 247, 248, 249, 250] (by decide +kernel) (by decide +kernel)
set_option maxRecDepth 20000 in
theorem zbX11_join_X11_joined_11 : GoodIn wsX11_join wsX11_joined_r11 := goodIn_r _ [251, 252, 253, 254, 255, 256, 257, 258, 259, 260, 261, 262, 263, 264, 265, 266, 267, 268, 269, 270, 271, 272, 273, 274] (by decide +kernel) (by decide +kernel)
set_option maxRecDepth 20000 in
theorem zbX11_join_X11_joined_12 : GoodIn wsX11_join wsX11_joined_r12 := goodIn_r _ [275, 276, 277, 278, 279, 280, 281, 282, 283, 284, 285, 286, 287, 288, 289, 290, 291, 292, 293, 294, 295, 296, 297, 298] (by decide +kernel) (by decide +kernel)
set_option maxRecDepth 20000 in
theorem zbX11_join_X11_joined_13 : GoodIn wsX11_join wsX11_joined_r13 := goodIn_r _ [299, 300, 301, 302, 303, 304, 305, 306, 307, 308, 309, 310, 311, 312, 313, 314, 315, 316, 317, 318, 319, 320, 321] (by decide +kernel) (by decide +kernel)
set_option maxRecDepth 20000 in
theorem ggX11_join_X11_joined : GoodIn wsX11_join wsX11_joined := (goodIn_ca (goodIn_ca (goodIn_ca (goodIn_ca (goodIn_ca (goodIn_ca (goodIn_ca (goodIn_ca (goodIn_ca (goodIn_ca (goodIn_cc zbX11_join_X11_joined_0 (goodIn_app zbX11_join_X11_joined_1 (goodIn_app zbX11_join_X11_joined_2 (goodIn_app zbX11_join_X11_joined_3 (goodIn_app zbX11_join_X11_joined_4 (goodIn_app zbX11_join_X11_joined_5 (goodIn_app zbX11_join_X11_joined_6 (goodIn_app zbX11_join_X11_joined_7 (goodIn_app zbX11_join_X11_joined_8 (goodIn_app zbX11_join_X11_joined_9 (goodIn_app zbX11_join_X11_joined_10 (goodIn_app zbX11_join_X11_joined_11 (goodIn_app zbX11_join_X11_joined_12 zbX11_join_X11_joined_13))))))))))))) (goodIn_sub in_X11_join_X11 zgw_X11)) (goodIn_sub in_X11_join_X5 zgw_X5)) (goodIn_sub in_X11_join_X0 zgw_X0)) (goodIn_sub in_X11_join_X7 zgw_X7)) (goodIn_sub in_X11_join_X6 zgw_X6)) (goodIn_sub in_X11_join_X8 zgw_X8)) (goodIn_sub in_X11_join_X2 zgw_X2)) (goodIn_sub in_X11_join_X9 zgw_X9)) (goodIn_sub in_X11_join_X1 zgw_X1)) (goodIn_sub in_X11_join_X4 zgw_X4))
set_option maxRecDepth 20000 in
theorem gX11_join_X11_joined : GoodIn wsX11_join (wsV RX11 239 RX11 yX11_joined wsX11_joined) := goodIn_app (goodIn_of _ (by decide +kernel)) ggX11_join_X11_joined
theorem in_X11_match_X0 : ∀ w ∈ wsX00, w ∈ wsX11_match := fun _ h => List.mem_cons_of_mem _ (List.mem_append_left _ (List.mem_append_left _ (List.mem_append_left _ (List.mem_append_left _ (List.mem_append_left _ (List.mem_append_left _ (List.mem_append_left _ (List.mem_append_right _ h))))))))
theorem in_X11_match_X1 : ∀ w ∈ wsX10, w ∈ wsX11_match := fun _ h => List.mem_cons_of_mem _ (List.mem_append_left _ (List.mem_append_right _ h))
theorem in_X11_match_X11 : ∀ w ∈ wsX110, w ∈ wsX11_match := fun _ h => List.mem_cons_of_mem _ (List.mem_append_left _ (List.mem_append_left _ (List.mem_append_left _ (List.mem_append_left _ (List.mem_append_left _ (List.mem_append_left _ (List.mem_append_left _ (List.mem_append_left _ (List.mem_append_left _ (List.mem_append_left _ (List.mem_append_right _ h)))))))))))
theorem in_X11_match_X2 : ∀ w ∈ wsX20, w ∈ wsX11_match := fun _ h => List.mem_cons_of_mem _ (List.mem_append_left _ (List.mem_append_left _ (List.mem_append_left _ (List.mem_append_right _ h))))
theorem in_X11_match_X4 : ∀ w ∈ wsX40, w ∈ wsX11_match := fun _ h => List.mem_cons_of_mem _ (List.mem_append_right _ h)
theorem in_X11_match_X5 : ∀ w ∈ wsX50, w ∈ wsX11_match := fun _ h => List.mem_cons_of_mem _ (List.mem_append_left _ (List.mem_append_left _ (List.mem_append_left _ (List.mem_append_left _ (List.mem_append_left _ (List.mem_append_left _ (List.mem_append_left _ (List.mem_append_left _ (List.mem_append_right _ h)))))))))
theorem in_X11_match_X6 : ∀ w ∈ wsX60, w ∈ wsX11_match := fun _ h => List.mem_cons_of_mem _ (List.mem_append_left _ (List.mem_append_left _ (List.mem_append_left _ (List.mem_append_left _ (List.mem_append_left _ (List.mem_append_right _ h))))))
theorem in_X11_match_X7 : ∀ w ∈ wsX70, w ∈ wsX11_match := fun _ h => List.mem_cons_of_mem _ (List.mem_append_left _ (List.mem_append_left _ (List.mem_append_left _ (List.mem_append_left _ (List.mem_append_left _ (List.mem_append_left _ (List.mem_append_right _ h)))))))
theorem in_X11_match_X8 : ∀ w ∈ wsX80, w ∈ wsX11_match := fun _ h => List.mem_cons_of_mem _ (List.mem_append_left _ (List.mem_append_left _ (List.mem_append_left _ (List.mem_append_left _ (List.mem_append_right _ h)))))
theorem in_X11_match_X9 : ∀ w ∈ wsX90, w ∈ wsX11_match := fun _ h => List.mem_cons_of_mem _ (List.mem_append_left _ (List.mem_append_left _ (List.mem_append_right _ h)))
set_option maxRecDepth 20000 in
theorem zbX11_match_X11_joined_0 : GoodIn wsX11_match [Cond.code yX11_joined cX11_joined 5 (some .int)] := goodIn_r _ [12] (by decide +kernel) (by decide +kernel)
set_option maxRecDepth 20000 in
theorem zbX11_match_X11_joined_1 : GoodIn wsX11_match wsX11_joined_r1 := goodIn_r _ [13, 14, 15, 16, 17, 18, 19, 20, 21, 22, 23, 24, 25, 26, 27, 28, 29, 30, 31, 32, 33, 34, 35, 36] (by decide +kernel) (by decide +kernel)
set_option maxRecDepth 20000 in
theorem zbX11_match_X11_joined_2 : GoodIn wsX11_match wsX11_joined_r2 := goodIn_r _ [37, 38, 39, 40, 41, 42, 43, 44, 45, 46, 47, 48, 49, 50, 51, 52, 53, 54, 55, 56, 57, 58, 59, 60] (by decide +kernel) (by decide +kernel)
set_option maxRecDepth 20000 in
theorem zbX11_match_X11_joined_3 : GoodIn wsX11_match wsX11_joined_r3 := goodIn_r _ [61, 62, 63, 64, 65, 66, 67, 68, 69, 70, 71, 72, 73, 74, 75, 76, 77, 78, 79, 80, 81, 82, 83, 84] (by decide +kernel) (by decide +kernel)
set_option maxRecDepth 20000 in
theorem zbX11_match_X11_joined_4 : GoodIn wsX11_match wsX11_joined_r4 := goodIn_r _ [85, 86, 87, 88, 89, 90, 91, 5, 92, 93, 94, 95, 96, 97, 98, 99, 100, 101, 102, 103, 104, 105, 106, 107] (by decide +kernel) (by decide +kernel)
set_option maxRecDepth 20000 in
theorem zbX11_match_X11_joined_5 : GoodIn wsX11_match wsX11_joined_r5 := goodIn_r _ [108, 109, 110, 111, 112, 113, 114, 115, 116, 117, 118, 119, 120, 121, 122, 123, 124, 125, 126, 127, 128, 129, 130, 131] (by decide +kernel) (by decide +kernel)
set_option maxRecDepth 20000 in
theorem zbX11_match_X11_joined_6 : GoodIn wsX11_match wsX11_joined_r6 := goodIn_r _ [132, 133, 134, 135, 136, 137, 138, 139, 140, 141, 142, 143, 144, 145, 146, 147, 148, 149, 150, 151, 152, 153, 154, 155] (by decide +kernel) (by decide +kernel)
set_option maxRecDepth 20000 in
theorem zbX11_match_X11_joined_7 : GoodIn wsX11_match wsX11_joined_r7 := goodIn_r _ [156, 157, 158, 159, 160, 161, 162, 163, 164, 165, 166, 167, 168, 169, 170, 171, 172, 173, 174, 175, 176, 177, 178, 179] (by decide +kernel) (by decide +kernel)
set_option maxRecDepth 20000 in
theorem zbX11_match_X11_joined_8 : GoodIn wsX11_match wsX11_joined_r8 := goodIn_r _ [180, 181, 182, 183, 184, 185, 186, 187, 188, 189, 190, 191, 192, 193, 194, 195, 196, 197, 198, 199, 200, 201, 202, 203] (by decide +kernel) (by decide +kernel)
set_option maxRecDepth 20000 in
theorem zbX11_match_X11_joined_9 : GoodIn wsX11_match wsX11_joined_r9 := goodIn_r _ [204, 205, 206, 207, 208, 209, 210, 211, 212, 213, 214, 215, 216, 217, 218, 219, 220, 221, 222, 223, 224, 225, 226, 227] (by decide +kernel) (by decide +kernel)
set_option maxRecDepth 20000 in
theorem zbX11_match_X11_joined_10 : GoodIn wsX11_match wsX11_joined_r10 := goodIn_r _ [228, 229, 230, 231, 232, 233, 234, 235, 236, 237, 238, 239, 240, 241, 242, 243, 244, 245, 246, 247, 248, 249, 250, 251] (by decide +kernel) (by decide +kernel)
set_option maxRecDepth 20000 in
theorem zbX11_match_X11_joined_11 : GoodIn wsX11_match wsX11_joined_r11 := goodIn_r _ [252, 253, 254, 255, 256, 257, 258, 259, 260, 261, 262, 263, 264, 265, 266, 267, 268, 269, 270, 271, 272, 273, 274, 275] (by decide +kernel) (by decide +kernel)
set_option maxRecDepth 20000 in
theorem zbX11_match_X11_joined_12 : GoodIn wsX11_match wsX11_joined_r12 := goodIn_r _ [276, 277, 278, 279, 280, 281, 282, 283, 284, 285, 286, 287, 288, 289, 290, 291, 292, 293, 294, 295, 296, 297, 298, 299] (by decide +kernel) (by decide +kernel)
set_option maxRecDepth 20000 in
theorem zbX11_match_X11_joined_13 : GoodIn wsX11_match wsX11_joined_r13 := goodIn_r _ [300, 301, 302, 303, 304, 305, 306, 307, 308, 309, 310, 311, 312, 313, 314, 315, 316, 317, 318, 319, 320, 4, 6] (by decide +kernel) (by decide +kernel)
set_option maxRecDepth 20000 in
theorem ggX11_match_X11_joined : GoodIn wsX11_match wsX11_joined := (goodIn_ca (goodIn_ca (goodIn_ca (goodIn_ca (goodIn_ca (goodIn_ca (goodIn_ca (goodIn_ca (goodIn_ca (goodIn_ca (goodIn_cc zbX11_match_X11_joined_0 (goodIn_app zbX11_match_X11_joined_1 (goodIn_app zbX11_match_X11_joined_2 (goodIn_app zbX11_match_X11_joined_3 (goodIn_app zbX11_match_X11_joined_4 (goodIn_app zbX11_match_X11_joined_5 (goodIn_app zbX11_match_X11_joined_6 (goodIn_app zbX11_match_X11_joined_7 (goodIn_app zbX11_match_X11_joined_8 (goodIn_app zbX11_match_X11_joined_9 (goodIn_app zbX11_match_X11_joined_10 (goodIn_app zbX11_match_X11_joined_11 (goodIn_app zbX11_match_X11_joined_12 zbX11_match_X11_joined_13))))))))))))) (goodIn_sub in_X11_match_X11 zgw_X11)) (goodIn_sub in_X11_match_X5 zgw_X5)) (goodIn_sub in_X11_match_X0 zgw_X0)) (goodIn_sub in_X11_match_X7 zgw_X7)) (goodIn_sub in_X11_match_X6 zgw_X6)) (goodIn_sub in_X11_match_X8 zgw_X8)) (goodIn_sub in_X11_match_X2 zgw_X2)) (goodIn_sub in_X11_match_X9 zgw_X9)) (goodIn_sub in_X11_match_X1 zgw_X1)) (goodIn_sub in_X11_match_X4 zgw_X4))
set_option maxRecDepth 20000 in
theorem gX11_match_X11_joined : GoodIn wsX11_match (wsV RX11 239 RX11 yX11_joined wsX11_joined) := goodIn_app (goodIn_of _ (by decide +kernel)) ggX11_match_X11_joined
theorem in_X11_match_X3 : ∀ w ∈ wsX30, w ∈ wsX11_match := fun _ h => List.mem_cons_of_mem _ (List.mem_append_left _ (List.mem_append_left _ (List.mem_append_left _ (List.mem_append_left _ (List.mem_append_left _ (List.mem_append_left _ (List.mem_append_left _ (List.mem_append_left _ (List.mem_append_left _ (List.mem_append_right _ h))))))))))
set_option maxRecDepth 20000 in
theorem zbX11_match_X3_tell : GoodIn wsX11_match (Cond.code yX3_tell cX3_tell 5 none :: [.fieldLink RX3 15 "ClayAccounts$Matcher" "weights" "[I"]) := goodIn_r _ [325, 326] (by decide +kernel) (by decide +kernel)
set_option maxRecDepth 20000 in
theorem ggX11_match_X3_tell : GoodIn wsX11_match wsX3_tell := (goodIn_ca zbX11_match_X3_tell (goodIn_sub in_X11_match_X3 zgw_X3))
set_option maxRecDepth 20000 in
theorem gX11_match_X3_tell : GoodIn wsX11_match (wsV RX11 247 RX3 yX3_tell wsX3_tell) := goodIn_app (goodIn_of _ (by decide +kernel)) ggX11_match_X3_tell
set_option maxRecDepth 20000 in
theorem zbX11_match_X3_pairUp_0 : GoodIn wsX11_match [Cond.code yX3_pairUp cX3_pairUp 6 none] := goodIn_r _ [330] (by decide +kernel) (by decide +kernel)
set_option maxRecDepth 20000 in
theorem zbX11_match_X3_pairUp_1 : GoodIn wsX11_match wsX3_pairUp_r1 := goodIn_r _ [331, 91, 5, 92, 332, 333, 334, 335, 324, 336, 337, 338, 339, 340, 341, 342, 343, 344, 345, 346, 347, 326, 348, 4] (by decide +kernel) (by decide +kernel)
set_option maxRecDepth 20000 in
theorem zbX11_match_X3_pairUp_2 : GoodIn wsX11_match wsX3_pairUp_r2 := goodIn_r _ [6, 349, 350, 351, 352] (by decide +kernel) (by decide +kernel)
set_option maxRecDepth 20000 in
theorem ggX11_match_X3_pairUp : GoodIn wsX11_match wsX3_pairUp := (goodIn_ca (goodIn_cc zbX11_match_X3_pairUp_0 (goodIn_app zbX11_match_X3_pairUp_1 zbX11_match_X3_pairUp_2)) (goodIn_sub in_X11_match_X3 zgw_X3))
set_option maxRecDepth 20000 in
theorem gX11_match_X3_pairUp : GoodIn wsX11_match (wsV RX11 251 RX3 yX3_pairUp wsX3_pairUp) := goodIn_app (goodIn_of _ (by decide +kernel)) ggX11_match_X3_pairUp
theorem in_X11_matched_X11 : ∀ w ∈ wsX110, w ∈ wsX11_matched := fun _ h => List.mem_cons_of_mem _ (List.mem_append_left _ (List.mem_append_right _ h))
set_option maxRecDepth 20000 in
theorem zbX11_matched_X11_isFragment : GoodIn wsX11_matched (Cond.code yX11_isFragment cX11_isFragment 2 (some .boolean) :: [.fieldLink RX11 94 "ClayAccounts" "fragmentCount" "I"]) := goodIn_r _ [7, 8] (by decide +kernel) (by decide +kernel)
set_option maxRecDepth 20000 in
theorem ggX11_matched_X11_isFragment : GoodIn wsX11_matched wsX11_isFragment := (goodIn_ca zbX11_matched_X11_isFragment (goodIn_sub in_X11_matched_X11 zgw_X11))
set_option maxRecDepth 20000 in
theorem gX11_matched_X11_isFragment : GoodIn wsX11_matched (wsV RX11 233 RX11 yX11_isFragment wsX11_isFragment) := goodIn_app (goodIn_of _ (by decide +kernel)) ggX11_matched_X11_isFragment
theorem in_X11_isLine_X11 : ∀ w ∈ wsX110, w ∈ wsX11_isLine := fun _ h => List.mem_cons_of_mem _ (List.mem_append_left _ (List.mem_append_right _ h))
set_option maxRecDepth 20000 in
theorem zbX11_isLine_X11_isTablet : GoodIn wsX11_isLine (Cond.code yX11_isTablet cX11_isTablet 2 (some .boolean) :: [.fieldLink RX11 90 "ClayAccounts" "tabletCount" "I"]) := goodIn_r _ [7, 8] (by decide +kernel) (by decide +kernel)
set_option maxRecDepth 20000 in
theorem ggX11_isLine_X11_isTablet : GoodIn wsX11_isLine wsX11_isTablet := (goodIn_ca zbX11_isLine_X11_isTablet (goodIn_sub in_X11_isLine_X11 zgw_X11))
set_option maxRecDepth 20000 in
theorem gX11_isLine_X11_isTablet : GoodIn wsX11_isLine (wsV RX11 193 RX11 yX11_isTablet wsX11_isTablet) := goodIn_app (goodIn_of _ (by decide +kernel)) ggX11_isLine_X11_isTablet
theorem in_X11_solved_X1 : ∀ w ∈ wsX10, w ∈ wsX11_solved := fun _ h => List.mem_cons_of_mem _ (List.mem_append_right _ h)
theorem in_X11_solved_X2 : ∀ w ∈ wsX20, w ∈ wsX11_solved := fun _ h => List.mem_cons_of_mem _ (List.mem_append_left _ (List.mem_append_right _ h))
theorem in_X11_solved_X4 : ∀ w ∈ wsX40, w ∈ wsX11_solved := fun _ h => List.mem_cons_of_mem _ (List.mem_append_left _ (List.mem_append_left _ (List.mem_append_right _ h)))
theorem in_X11_solved_X5 : ∀ w ∈ wsX50, w ∈ wsX11_solved := fun _ h => List.mem_cons_of_mem _ (List.mem_append_left _ (List.mem_append_left _ (List.mem_append_left _ (List.mem_append_right _ h))))
set_option maxRecDepth 20000 in
theorem zbX11_solved_X4_solve_0 : GoodIn wsX11_solved [Cond.code yX4_solve cX4_solve 4 none] := goodIn_r _ [8] (by decide +kernel) (by decide +kernel)
set_option maxRecDepth 20000 in
theorem zbX11_solved_X4_solve_1 : GoodIn wsX11_solved wsX4_solve_r1 := goodIn_r _ [9, 10, 11, 12, 13, 14, 15, 16, 7, 17, 18, 19, 20, 21, 22, 23, 24, 25, 26, 27, 28, 29, 30, 31] (by decide +kernel) (by decide +kernel)
set_option maxRecDepth 20000 in
theorem zbX11_solved_X4_solve_2 : GoodIn wsX11_solved wsX4_solve_r2 := goodIn_r _ [32, 33, 34, 35, 36, 37, 38, 39, 40, 41, 42, 43, 44, 45, 46, 47, 48, 49, 50, 51, 52, 53, 54, 55] (by decide +kernel) (by decide +kernel)
set_option maxRecDepth 20000 in
theorem zbX11_solved_X4_solve_3 : GoodIn wsX11_solved wsX4_solve_r3 := goodIn_r _ [56, 57, 58, 59, 60, 61, 62, 63, 64, 65, 66, 67, 68, 69, 70, 71, 72, 73, 74, 75, 76, 77, 78, 79] (by decide +kernel) (by decide +kernel)
set_option maxRecDepth 20000 in
theorem zbX11_solved_X4_solve_4 : GoodIn wsX11_solved wsX4_solve_r4 := goodIn_r _ [80, 81, 82, 83, 84, 85, 86] (by decide +kernel) (by decide +kernel)
set_option maxRecDepth 20000 in
theorem ggX11_solved_X4_solve : GoodIn wsX11_solved wsX4_solve := (goodIn_ca (goodIn_ca (goodIn_ca (goodIn_ca (goodIn_cc zbX11_solved_X4_solve_0 (goodIn_app zbX11_solved_X4_solve_1 (goodIn_app zbX11_solved_X4_solve_2 (goodIn_app zbX11_solved_X4_solve_3 zbX11_solved_X4_solve_4)))) (goodIn_sub in_X11_solved_X4 zgw_X4)) (goodIn_sub in_X11_solved_X5 zgw_X5)) (goodIn_sub in_X11_solved_X2 zgw_X2)) (goodIn_sub in_X11_solved_X1 zgw_X1))
set_option maxRecDepth 20000 in
theorem gX11_solved_X4_solve : GoodIn wsX11_solved (wsV RX11 268 RX4 yX4_solve wsX4_solve) := goodIn_app (goodIn_of _ (by decide +kernel)) ggX11_solved_X4_solve
theorem in_X11_joined_X0 : ∀ w ∈ wsX00, w ∈ wsX11_joined := fun _ h => List.mem_cons_of_mem _ (List.mem_append_left _ (List.mem_append_left _ (List.mem_append_left _ (List.mem_append_left _ (List.mem_append_left _ (List.mem_append_left _ (List.mem_append_left _ (List.mem_append_right _ h))))))))
set_option maxRecDepth 20000 in
theorem zbX11_joined_X0_goesLeftOf : GoodIn wsX11_joined (Cond.code yX0_goesLeftOf cX0_goesLeftOf 2 (some .boolean) :: [.fieldLink RX0 40 "ClayAccounts$Fragment" "right" "I", .fieldLink RX0 37 "ClayAccounts$Fragment" "left" "I", .constant RX0 43 (99999999), .fieldLink RX0 23 "ClayAccounts$Fragment" "rowCount" "I"]) := goodIn_r _ [13, 14, 15, 16, 17] (by decide +kernel) (by decide +kernel)
set_option maxRecDepth 20000 in
theorem ggX11_joined_X0_goesLeftOf : GoodIn wsX11_joined wsX0_goesLeftOf := (goodIn_ca zbX11_joined_X0_goesLeftOf (goodIn_sub in_X11_joined_X0 zgw_X0))
set_option maxRecDepth 20000 in
theorem gX11_joined_X0_goesLeftOf : GoodIn wsX11_joined (wsV RX11 272 RX0 yX0_goesLeftOf wsX0_goesLeftOf) := goodIn_app (goodIn_of _ (by decide +kernel)) ggX11_joined_X0_goesLeftOf
theorem in_X11_joined_X7 : ∀ w ∈ wsX70, w ∈ wsX11_joined := fun _ h => List.mem_cons_of_mem _ (List.mem_append_left _ (List.mem_append_left _ (List.mem_append_left _ (List.mem_append_left _ (List.mem_append_left _ (List.mem_append_left _ (List.mem_append_right _ h)))))))
set_option maxRecDepth 20000 in
theorem zbX11_joined_X0_sayWith : GoodIn wsX11_joined (Cond.code yX0_sayWith cX0_sayWith 6 none :: [.fieldLink RX0 23 "ClayAccounts$Fragment" "rowCount" "I", .methodLink RX0 20 yX7_clear, .instanceMethod yX7_clear, .selects RX7 yX7_clear yX7_clear, .initialized RX7, .code yX7_clear cX7_clear 1 none, .fieldLink RX7 21 "ClayAccounts$Text" "size" "I", .methodLink RX0 44 yX0_sayRow, .instanceMethod yX0_sayRow, .selects RX0 yX0_sayRow yX0_sayRow, .initialized RX0, .code yX0_sayRow cX0_sayRow 4 (some .int), .fieldLink RX0 14 "ClayAccounts$Fragment" "text" "LClayAccounts$Text;", .fieldLink RX0 27 "ClayAccounts$Text" "size" "I", .methodLink RX0 30 yX7_byteAt, .instanceMethod yX7_byteAt, .selects RX7 yX7_byteAt yX7_byteAt, .code yX7_byteAt cX7_byteAt 2 (some .int), .fieldLink RX7 15 "ClayAccounts$Text" "bytes" "[B", .methodLink RX0 34 yX7_put, .instanceMethod yX7_put, .selects RX7 yX7_put yX7_put, .code yX7_put cX7_put 2 none]) := goodIn_r _ [21, 17, 22, 23, 24, 25, 26, 27, 28, 29, 30, 12, 31, 32, 33, 34, 35, 36, 37, 38, 39, 40, 41, 42] (by decide +kernel) (by decide +kernel)
set_option maxRecDepth 20000 in
theorem ggX11_joined_X0_sayWith : GoodIn wsX11_joined wsX0_sayWith := (goodIn_ca (goodIn_ca zbX11_joined_X0_sayWith (goodIn_sub in_X11_joined_X0 zgw_X0)) (goodIn_sub in_X11_joined_X7 zgw_X7))
set_option maxRecDepth 20000 in
theorem gX11_joined_X0_sayWith : GoodIn wsX11_joined (wsV RX11 276 RX0 yX0_sayWith wsX0_sayWith) := goodIn_app (goodIn_of _ (by decide +kernel)) ggX11_joined_X0_sayWith
theorem in_X11_joined_X1 : ∀ w ∈ wsX10, w ∈ wsX11_joined := fun _ h => List.mem_cons_of_mem _ (List.mem_append_left _ (List.mem_append_right _ h))
theorem in_X11_joined_X2 : ∀ w ∈ wsX20, w ∈ wsX11_joined := fun _ h => List.mem_cons_of_mem _ (List.mem_append_left _ (List.mem_append_left _ (List.mem_append_left _ (List.mem_append_right _ h))))
theorem in_X11_joined_X5 : ∀ w ∈ wsX50, w ∈ wsX11_joined := fun _ h => List.mem_cons_of_mem _ (List.mem_append_left _ (List.mem_append_left _ (List.mem_append_left _ (List.mem_append_left _ (List.mem_append_left _ (List.mem_append_left _ (List.mem_append_left _ (List.mem_append_left _ (List.mem_append_right _ h)))))))))
theorem in_X11_joined_X6 : ∀ w ∈ wsX60, w ∈ wsX11_joined := fun _ h => List.mem_cons_of_mem _ (List.mem_append_left _ (List.mem_append_left _ (List.mem_append_left _ (List.mem_append_left _ (List.mem_append_left _ (List.mem_append_right _ h))))))
theorem in_X11_joined_X8 : ∀ w ∈ wsX80, w ∈ wsX11_joined := fun _ h => List.mem_cons_of_mem _ (List.mem_append_left _ (List.mem_append_left _ (List.mem_append_left _ (List.mem_append_left _ (List.mem_append_right _ h)))))
theorem in_X11_joined_X9 : ∀ w ∈ wsX90, w ∈ wsX11_joined := fun _ h => List.mem_cons_of_mem _ (List.mem_append_left _ (List.mem_append_left _ (List.mem_append_right _ h)))
set_option maxRecDepth 20000 in
theorem zbX11_joined_X6_read_0 : GoodIn wsX11_joined [Cond.code yX6_read cX6_read 5 (some .boolean)] := goodIn_r _ [47] (by decide +kernel) (by decide +kernel)
set_option maxRecDepth 20000 in
theorem zbX11_joined_X6_read_1 : GoodIn wsX11_joined wsX6_read_r1 := goodIn_r _ [48, 49, 50, 51, 52, 53, 54, 55, 56, 57, 58, 59, 60, 61, 62, 63, 64, 65, 66, 67, 68, 69, 70, 71] (by decide +kernel) (by decide +kernel)
set_option maxRecDepth 20000 in
theorem zbX11_joined_X6_read_2 : GoodIn wsX11_joined wsX6_read_r2 := goodIn_r _ [72, 73, 74, 75, 76, 77, 78, 79, 80, 81, 82, 83, 84, 35, 36, 25, 37, 27, 38, 85, 86, 87, 88, 89] (by decide +kernel) (by decide +kernel)
set_option maxRecDepth 20000 in
theorem zbX11_joined_X6_read_3 : GoodIn wsX11_joined wsX6_read_r3 := goodIn_r _ [90, 91, 92, 93, 94, 95, 96, 97, 98, 99, 100, 101, 102, 103, 104, 105, 106, 107, 108, 109, 110, 111, 112, 113] (by decide +kernel) (by decide +kernel)
set_option maxRecDepth 20000 in
theorem zbX11_joined_X6_read_4 : GoodIn wsX11_joined wsX6_read_r4 := goodIn_r _ [114, 115, 116, 117, 118, 119, 120, 121, 122, 123, 124, 125, 126, 127, 46, 128, 129, 130, 131, 132, 133, 134, 135, 136] (by decide +kernel) (by decide +kernel)
set_option maxRecDepth 20000 in
theorem zbX11_joined_X6_read_5 : GoodIn wsX11_joined wsX6_read_r5 := goodIn_r _ [137, 138, 139, 140, 141, 142, 143, 144, 145, 146, 147, 148, 149, 150, 151, 152, 153, 154, 155, 156, 157, 158, 159, 160] (by decide +kernel) (by decide +kernel)
set_option maxRecDepth 20000 in
theorem zbX11_joined_X6_read_6 : GoodIn wsX11_joined wsX6_read_r6 := goodIn_r _ [161, 162, 163, 164, 165, 166, 167, 168, 169, 170, 171, 172, 173, 174, 175, 176, 177, 178, 179, 180, 181, 182, 183, 184] (by decide +kernel) (by decide +kernel)
set_option maxRecDepth 20000 in
theorem zbX11_joined_X6_read_7 : GoodIn wsX11_joined wsX6_read_r7 := goodIn_r _ [185, 186, 187, 188, 189, 190, 191, 192, 193, 194, 195, 196, 197, 198, 199, 200, 201, 202, 203, 204, 205, 206, 207, 208] (by decide +kernel) (by decide +kernel)
set_option maxRecDepth 20000 in
theorem zbX11_joined_X6_read_8 : GoodIn wsX11_joined wsX6_read_r8 := goodIn_r _ [209, 210, 211, 212, 213, 214, 215, 216, 217, 218, 219, 220, 221, 222, 223, 224, 225, 226, 227, 228, 229, 230, 231, 232] (by decide +kernel) (by decide +kernel)
set_option maxRecDepth 20000 in
theorem zbX11_joined_X6_read_9 : GoodIn wsX11_joined wsX6_read_r9 := goodIn_r _ [233, 234, 235] (by decide +kernel) (by decide +kernel)
set_option maxRecDepth 20000 in
theorem ggX11_joined_X6_read : GoodIn wsX11_joined wsX6_read := (goodIn_ca (goodIn_ca (goodIn_ca (goodIn_ca (goodIn_ca (goodIn_ca (goodIn_ca (goodIn_cc zbX11_joined_X6_read_0 (goodIn_app zbX11_joined_X6_read_1 (goodIn_app zbX11_joined_X6_read_2 (goodIn_app zbX11_joined_X6_read_3 (goodIn_app zbX11_joined_X6_read_4 (goodIn_app zbX11_joined_X6_read_5 (goodIn_app zbX11_joined_X6_read_6 (goodIn_app zbX11_joined_X6_read_7 (goodIn_app zbX11_joined_X6_read_8 zbX11_joined_X6_read_9))))))))) (goodIn_sub in_X11_joined_X6 zgw_X6)) (goodIn_sub in_X11_joined_X8 zgw_X8)) (goodIn_sub in_X11_joined_X5 zgw_X5)) (goodIn_sub in_X11_joined_X7 zgw_X7)) (goodIn_sub in_X11_joined_X2 zgw_X2)) (goodIn_sub in_X11_joined_X9 zgw_X9)) (goodIn_sub in_X11_joined_X1 zgw_X1))
set_option maxRecDepth 20000 in
theorem gX11_joined_X6_read : GoodIn wsX11_joined (wsV RX11 166 RX6 yX6_read wsX6_read) := goodIn_app (goodIn_of _ (by decide +kernel)) ggX11_joined_X6_read
theorem in_X11_joined_X4 : ∀ w ∈ wsX40, w ∈ wsX11_joined := fun _ h => List.mem_cons_of_mem _ (List.mem_append_right _ h)
set_option maxRecDepth 20000 in
theorem zbX11_joined_X4_solve_0 : GoodIn wsX11_joined [Cond.code yX4_solve cX4_solve 4 none] := goodIn_r _ [240] (by decide +kernel) (by decide +kernel)
set_option maxRecDepth 20000 in
theorem zbX11_joined_X4_solve_1 : GoodIn wsX11_joined wsX4_solve_r1 := goodIn_r _ [241, 242, 243, 244, 245, 246, 247, 248, 239, 249, 250, 251, 252, 253, 254, 255, 256, 257, 258, 259, 260, 261, 262, 263] (by decide +kernel) (by decide +kernel)
set_option maxRecDepth 20000 in
theorem zbX11_joined_X4_solve_2 : GoodIn wsX11_joined wsX4_solve_r2 := goodIn_r _ [264, 265, 266, 267, 268, 269, 270, 80, 271, 272, 273, 274, 275, 276, 277, 278, 279, 280, 281, 282, 283, 284, 285, 286] (by decide +kernel) (by decide +kernel)
set_option maxRecDepth 20000 in
theorem zbX11_joined_X4_solve_3 : GoodIn wsX11_joined wsX4_solve_r3 := goodIn_r _ [287, 288, 289, 79, 81, 290, 291, 292, 293, 294, 295, 296, 297, 298, 299, 300, 301, 223, 302, 303, 304, 305, 306, 150] (by decide +kernel) (by decide +kernel)
set_option maxRecDepth 20000 in
theorem zbX11_joined_X4_solve_4 : GoodIn wsX11_joined wsX4_solve_r4 := goodIn_r _ [307, 156, 308, 157, 309, 310, 311] (by decide +kernel) (by decide +kernel)
set_option maxRecDepth 20000 in
theorem ggX11_joined_X4_solve : GoodIn wsX11_joined wsX4_solve := (goodIn_ca (goodIn_ca (goodIn_ca (goodIn_ca (goodIn_cc zbX11_joined_X4_solve_0 (goodIn_app zbX11_joined_X4_solve_1 (goodIn_app zbX11_joined_X4_solve_2 (goodIn_app zbX11_joined_X4_solve_3 zbX11_joined_X4_solve_4)))) (goodIn_sub in_X11_joined_X4 zgw_X4)) (goodIn_sub in_X11_joined_X5 zgw_X5)) (goodIn_sub in_X11_joined_X2 zgw_X2)) (goodIn_sub in_X11_joined_X1 zgw_X1))
set_option maxRecDepth 20000 in
theorem gX11_joined_X4_solve : GoodIn wsX11_joined (wsV RX11 268 RX4 yX4_solve wsX4_solve) := goodIn_app (goodIn_of _ (by decide +kernel)) ggX11_joined_X4_solve
