theorem in_X11_init_X7 : ∀ w ∈ wsX70, w ∈ wsX11_init := fun _ h => List.mem_cons_of_mem _ (List.mem_append_left _ (List.mem_append_left _ (List.mem_append_left _ (List.mem_append_left _ (List.mem_append_left _ (List.mem_append_left _ (List.mem_append_left _ (List.mem_append_left _ (List.mem_append_left _ (List.mem_append_left _ (List.mem_append_left _ (List.mem_append_right _ h))))))))))))
def cks_X11_init : List (List Cond) := [wsX11_init_r1, wsX11_init_r2, wsX11_init_r3, wsX11_init_r4, wsX11_init_r5, wsX11_init_r6]
theorem ck_X11_init : ∀ c ∈ cks_X11_init, ∀ w ∈ c, w ∈ wsX11_init := fun c hc w hw => List.mem_cons_of_mem _ (List.mem_append_left _ (List.mem_append_left _ (List.mem_append_left _ (List.mem_append_left _ (List.mem_append_left _ (List.mem_append_left _ (List.mem_append_left _ (List.mem_append_left _ (List.mem_append_left _ (List.mem_append_left _ (List.mem_append_left _ (List.mem_append_left _ (goodIn_cat [wsX11_init_r1, wsX11_init_r2, wsX11_init_r3, wsX11_init_r4, wsX11_init_r5] wsX11_init_r6 c hc w hw)))))))))))))
set_option maxRecDepth 20000 in
theorem zbX11_init_X7_init : GoodIn wsX11_init (Cond.code yX7_init cX7_init 2 none :: [.methodLink RX7 3 objectInit, .instanceMethod objectInit, .code objectInit ⟨#[0xb1]⟩ 1 none, .methodLink RX7 9 Lib.Math.max.name, .static Lib.Math.max.name, .initialized "java/lang/Math", .code Lib.Math.max.name Lib.Math.max.code 2 (some .int), .arrayClass .byte, .fieldLink RX7 15 "ClayAccounts$Text" "bytes" "[B", .fieldLink RX7 21 "ClayAccounts$Text" "size" "I"]) := goodIn_k _ cks_X11_init ck_X11_init [(1, 22), (1, 23), (0, 1), (0, 2), (2, 0), (2, 1), (2, 2), (2, 3), (2, 4), (2, 5), (2, 6)] rfl (by decide +kernel)
set_option maxRecDepth 20000 in
theorem ggX11_init_X7_init : GoodIn wsX11_init wsX7_init := (goodIn_ca zbX11_init_X7_init (goodIn_sub in_X11_init_X7 zgw_X7))
set_option maxRecDepth 20000 in
theorem gX11_init_X7_init : GoodIn wsX11_init (wsX7_init) := ggX11_init_X7_init
theorem in_X11_init_X10 : ∀ w ∈ wsX100, w ∈ wsX11_init := fun _ h => List.mem_cons_of_mem _ (List.mem_append_left _ (List.mem_append_left _ (List.mem_append_left _ (List.mem_append_left _ (List.mem_append_left _ (List.mem_append_left _ (List.mem_append_left _ (List.mem_append_left _ (List.mem_append_left _ (List.mem_append_right _ h))))))))))
theorem in_X11_init_X8 : ∀ w ∈ wsX80, w ∈ wsX11_init := fun _ h => List.mem_cons_of_mem _ (List.mem_append_left _ (List.mem_append_left _ (List.mem_append_right _ h)))
set_option maxRecDepth 20000 in
theorem zbX11_init_X10_init_0 : GoodIn wsX11_init [Cond.code yX10_init cX10_init 1 none] := goodIn_k _ cks_X11_init ck_X11_init [(2, 8)] rfl (by decide +kernel)
set_option maxRecDepth 20000 in
theorem zbX11_init_X10_init_1 : GoodIn wsX11_init wsX10_init_r1 := goodIn_k _ cks_X11_init ck_X11_init [(2, 9), (0, 1), (0, 2), (2, 10), (2, 11), (2, 12), (2, 13), (2, 14), (2, 15), (2, 16), (2, 17), (0, 4), (0, 5), (2, 18), (2, 19), (1, 21), (1, 22), (1, 23), (2, 0), (2, 1), (2, 2), (2, 3), (2, 4), (2, 5)] rfl (by decide +kernel)
set_option maxRecDepth 20000 in
theorem zbX11_init_X10_init_2 : GoodIn wsX11_init wsX10_init_r2 := goodIn_k _ cks_X11_init ck_X11_init [(2, 6)] rfl (by decide +kernel)
set_option maxRecDepth 20000 in
theorem ggX11_init_X10_init : GoodIn wsX11_init wsX10_init := (goodIn_ca (goodIn_ca (goodIn_ca (goodIn_cc zbX11_init_X10_init_0 (goodIn_app zbX11_init_X10_init_1 zbX11_init_X10_init_2)) (goodIn_sub in_X11_init_X8 zgw_X8)) (goodIn_sub in_X11_init_X10 zgw_X10)) (goodIn_sub in_X11_init_X7 zgw_X7))
set_option maxRecDepth 20000 in
theorem gX11_init_X10_init_n26 : GoodIn wsX11_init (wsX10_init) := ggX11_init_X10_init
theorem in_X11_init_X6 : ∀ w ∈ wsX60, w ∈ wsX11_init := fun _ h => List.mem_cons_of_mem _ (List.mem_append_left _ (List.mem_append_left _ (List.mem_append_left _ (List.mem_append_left _ (List.mem_append_left _ (List.mem_append_left _ (List.mem_append_left _ (List.mem_append_left _ (List.mem_append_right _ h)))))))))
set_option maxRecDepth 20000 in
theorem zbX11_init_X6_init_0 : GoodIn wsX11_init [Cond.code yX6_init cX6_init 1 none] := goodIn_k _ cks_X11_init ck_X11_init [(2, 21)] rfl (by decide +kernel)
set_option maxRecDepth 20000 in
theorem zbX11_init_X6_init_1 : GoodIn wsX11_init wsX6_init_r1 := goodIn_k _ cks_X11_init ck_X11_init [(2, 22), (0, 1), (0, 2), (2, 23), (2, 11), (2, 12), (3, 0), (2, 14), (2, 15), (2, 16), (2, 17), (0, 4), (0, 5), (2, 18), (2, 19), (1, 21), (1, 22), (1, 23), (2, 0), (2, 1), (2, 2), (2, 3), (2, 4), (2, 5)] rfl (by decide +kernel)
set_option maxRecDepth 20000 in
theorem zbX11_init_X6_init_2 : GoodIn wsX11_init wsX6_init_r2 := goodIn_k _ cks_X11_init ck_X11_init [(2, 6)] rfl (by decide +kernel)
set_option maxRecDepth 20000 in
theorem ggX11_init_X6_init : GoodIn wsX11_init wsX6_init := (goodIn_ca (goodIn_ca (goodIn_ca (goodIn_cc zbX11_init_X6_init_0 (goodIn_app zbX11_init_X6_init_1 zbX11_init_X6_init_2)) (goodIn_sub in_X11_init_X8 zgw_X8)) (goodIn_sub in_X11_init_X6 zgw_X6)) (goodIn_sub in_X11_init_X7 zgw_X7))
set_option maxRecDepth 20000 in
theorem gX11_init_X6_init_n33 : GoodIn wsX11_init (wsX6_init) := ggX11_init_X6_init
theorem in_X11_init_X4 : ∀ w ∈ wsX40, w ∈ wsX11_init := fun _ h => List.mem_cons_of_mem _ (List.mem_append_left _ (List.mem_append_left _ (List.mem_append_left _ (List.mem_append_left _ (List.mem_append_left _ (List.mem_append_left _ (List.mem_append_left _ (List.mem_append_right _ h))))))))
set_option maxRecDepth 20000 in
theorem zbX11_init_X4_init : GoodIn wsX11_init (Cond.code yX4_init cX4_init 1 none :: [.methodLink RX4 3 objectInit, .instanceMethod objectInit, .code objectInit ⟨#[0xb1]⟩ 1 none, .classLink RX4 9 "[[J", .arrayClass .long, .fieldLink RX4 11 "ClayAccounts$Solver" "off" "[[J", .fieldLink RX4 16 "ClayAccounts$Solver" "slopes" "[[J", .fieldLink RX4 19 "ClayAccounts$Solver" "downs" "[[J", .fieldLink RX4 22 "ClayAccounts$Solver" "ups" "[[J", .arrayClass .int, .fieldLink RX4 25 "ClayAccounts$Solver" "digits" "[I"]) := goodIn_k _ cks_X11_init ck_X11_init [(3, 2), (3, 3), (0, 1), (0, 2), (3, 4), (3, 5), (3, 6), (3, 7), (3, 8), (3, 9), (1, 8), (3, 10)] rfl (by decide +kernel)
set_option maxRecDepth 20000 in
theorem ggX11_init_X4_init : GoodIn wsX11_init wsX4_init := (goodIn_ca zbX11_init_X4_init (goodIn_sub in_X11_init_X4 zgw_X4))
set_option maxRecDepth 20000 in
theorem gX11_init_X4_init_n40 : GoodIn wsX11_init (wsX4_init) := ggX11_init_X4_init
theorem in_X11_init_X3 : ∀ w ∈ wsX30, w ∈ wsX11_init := fun _ h => List.mem_cons_of_mem _ (List.mem_append_left _ (List.mem_append_left _ (List.mem_append_left _ (List.mem_append_left _ (List.mem_append_left _ (List.mem_append_left _ (List.mem_append_right _ h)))))))
set_option maxRecDepth 20000 in
theorem zbX11_init_X3_init : GoodIn wsX11_init (Cond.code yX3_init cX3_init 1 none :: [.methodLink RX3 3 objectInit, .instanceMethod objectInit, .code objectInit ⟨#[0xb1]⟩ 1 none, .arrayClass .int, .fieldLink RX3 9 "ClayAccounts$Matcher" "partners" "[I", .fieldLink RX3 15 "ClayAccounts$Matcher" "weights" "[I", .fieldLink RX3 18 "ClayAccounts$Matcher" "best" "[I", .methodLink RX3 21 yJ7_fill_53178, .static yJ7_fill_53178, .initialized RJ7, .code yJ7_fill_53178 cJ7_fill_53178 4 none]) := goodIn_k _ cks_X11_init ck_X11_init [(3, 13), (3, 14), (0, 1), (0, 2), (1, 8), (3, 15), (3, 16), (3, 17), (3, 18), (3, 19), (3, 20), (3, 21)] rfl (by decide +kernel)
set_option maxRecDepth 20000 in
theorem ggX11_init_X3_init : GoodIn wsX11_init wsX3_init := (goodIn_ca zbX11_init_X3_init (goodIn_sub in_X11_init_X3 zgw_X3))
set_option maxRecDepth 20000 in
theorem gX11_init_X3_init : GoodIn wsX11_init (wsX3_init) := ggX11_init_X3_init
theorem in_X11_init_X1 : ∀ w ∈ wsX10, w ∈ wsX11_init := fun _ h => List.mem_cons_of_mem _ (List.mem_append_right _ h)
theorem in_X11_init_X2 : ∀ w ∈ wsX20, w ∈ wsX11_init := fun _ h => List.mem_cons_of_mem _ (List.mem_append_left _ (List.mem_append_right _ h))
theorem in_X11_init_X5 : ∀ w ∈ wsX50, w ∈ wsX11_init := fun _ h => List.mem_cons_of_mem _ (List.mem_append_left _ (List.mem_append_left _ (List.mem_append_left _ (List.mem_append_left _ (List.mem_append_left _ (List.mem_append_right _ h))))))
set_option maxRecDepth 20000 in
theorem zbX11_init_X5_init : GoodIn wsX11_init (Cond.code yX5_init cX5_init 2 none :: [.methodLink RX5 3 objectInit, .instanceMethod objectInit, .code objectInit ⟨#[0xb1]⟩ 1 none, .classLink RX5 9 RX2, .fieldLink RX5 11 "ClayAccounts$Tablet" "lines" "[LClayAccounts$Line;", .classLink RX5 17 RX1, .fieldLink RX5 19 "ClayAccounts$Tablet" "holes" "[LClayAccounts$Hole;", .instantiable RX2 6, .initialized RX2, .instantiable RX1 7, .initialized RX1, .instanceMethod yX2_init, .code yX2_init cX2_init 1 none, .methodLink RX2 3 objectInit, .instanceMethod yX1_init, .code yX1_init cX1_init 1 none, .methodLink RX1 3 objectInit]) := goodIn_k _ cks_X11_init ck_X11_init [(4, 0), (4, 1), (0, 1), (0, 2), (4, 2), (4, 3), (4, 4), (4, 5), (4, 6), (4, 7), (4, 8), (4, 9), (4, 10), (4, 11), (4, 12), (4, 13), (4, 14), (4, 15)] rfl (by decide +kernel)
set_option maxRecDepth 20000 in
theorem ggX11_init_X5_init : GoodIn wsX11_init wsX5_init := (goodIn_ca (goodIn_ca (goodIn_ca zbX11_init_X5_init (goodIn_sub in_X11_init_X5 zgw_X5)) (goodIn_sub in_X11_init_X2 zgw_X2)) (goodIn_sub in_X11_init_X1 zgw_X1))
set_option maxRecDepth 20000 in
theorem gX11_init_X5_init : GoodIn wsX11_init (wsX5_init) := ggX11_init_X5_init
theorem in_X11_init_X9 : ∀ w ∈ wsX90, w ∈ wsX11_init := fun _ h => List.mem_cons_of_mem _ (List.mem_append_left _ (List.mem_append_left _ (List.mem_append_left _ (List.mem_append_left _ (List.mem_append_right _ h)))))
set_option maxRecDepth 20000 in
theorem zbX11_init_X9_init : GoodIn wsX11_init (Cond.code yX9_init cX9_init 1 none :: [.methodLink RX9 3 objectInit, .instanceMethod objectInit, .code objectInit ⟨#[0xb1]⟩ 1 none, .arrayClass .long, .fieldLink RX9 9 "ClayAccounts$Units" "systemNames" "[J", .arrayClass .int, .fieldLink RX9 15 "ClayAccounts$Units" "unitCounts" "[I", .fieldLink RX9 19 "ClayAccounts$Units" "names" "[J", .fieldLink RX9 22 "ClayAccounts$Units" "factors" "[I", .fieldLink RX9 25 "ClayAccounts$Units" "worths" "[I", .fieldLink RX9 28 "ClayAccounts$Units" "mosts" "[I"]) := goodIn_k _ cks_X11_init ck_X11_init [(4, 17), (4, 18), (0, 1), (0, 2), (3, 5), (4, 19), (1, 8), (4, 20), (4, 21), (4, 22), (4, 23), (5, 0)] rfl (by decide +kernel)
set_option maxRecDepth 20000 in
theorem ggX11_init_X9_init : GoodIn wsX11_init wsX9_init := (goodIn_ca zbX11_init_X9_init (goodIn_sub in_X11_init_X9 zgw_X9))
set_option maxRecDepth 20000 in
theorem gX11_init_X9_init_n75 : GoodIn wsX11_init (wsX9_init) := ggX11_init_X9_init
theorem in_X11_init_X0 : ∀ w ∈ wsX00, w ∈ wsX11_init := fun _ h => List.mem_cons_of_mem _ (List.mem_append_left _ (List.mem_append_left _ (List.mem_append_left _ (List.mem_append_right _ h))))
set_option maxRecDepth 20000 in
theorem zbX11_init_X0_init : GoodIn wsX11_init (Cond.code yX0_init cX0_init 1 none :: [.methodLink RX0 3 objectInit, .instanceMethod objectInit, .code objectInit ⟨#[0xb1]⟩ 1 none, .classLink RX0 9 RX7, .instantiable RX7 2, .initialized RX7, .fieldLink RX0 14 "ClayAccounts$Fragment" "text" "LClayAccounts$Text;", .methodLink RX0 11 yX7_init, .instanceMethod yX7_init, .code yX7_init cX7_init 2 none, .methodLink RX7 3 objectInit, .methodLink RX7 9 Lib.Math.max.name, .static Lib.Math.max.name, .initialized "java/lang/Math", .code Lib.Math.max.name Lib.Math.max.code 2 (some .int), .arrayClass .byte, .fieldLink RX7 15 "ClayAccounts$Text" "bytes" "[B", .fieldLink RX7 21 "ClayAccounts$Text" "size" "I"]) := goodIn_k _ cks_X11_init ck_X11_init [(5, 2), (5, 3), (0, 1), (0, 2), (5, 4), (0, 4), (0, 5), (5, 5), (5, 6), (1, 21), (1, 22), (1, 23), (2, 0), (2, 1), (2, 2), (2, 3), (2, 4), (2, 5), (2, 6)] rfl (by decide +kernel)
set_option maxRecDepth 20000 in
theorem ggX11_init_X0_init : GoodIn wsX11_init wsX0_init := (goodIn_ca (goodIn_ca zbX11_init_X0_init (goodIn_sub in_X11_init_X7 zgw_X7)) (goodIn_sub in_X11_init_X0 zgw_X0))
set_option maxRecDepth 20000 in
theorem gX11_init_X0_init_n83 : GoodIn wsX11_init (wsX0_init) := ggX11_init_X0_init
set_option maxRecDepth 20000 in
theorem zbX11_init_J7_fill_53178 : GoodIn wsX11_init (Cond.code yJ7_fill_53178 cJ7_fill_53178 4 none :: []) := goodIn_k _ cks_X11_init ck_X11_init [(3, 21)] rfl (by decide +kernel)
set_option maxRecDepth 20000 in
theorem ggX11_init_J7_fill_53178 : GoodIn wsX11_init wsJ7_fill_53178 := zbX11_init_J7_fill_53178
set_option maxRecDepth 20000 in
theorem gX11_init_J7_fill_53178 : GoodIn wsX11_init (va_wsS RX11 84 yJ7_fill_53178 wsJ7_fill_53178) := goodIn_app (goodIn_of _ (by decide +kernel)) ggX11_init_J7_fill_53178
theorem in_X11_feed_X7 : ∀ w ∈ wsX70, w ∈ wsX11_feed := fun _ h => List.mem_cons_of_mem _ (List.mem_append_right _ h)
set_option maxRecDepth 20000 in
theorem zbX11_feed_X7_putFour : GoodIn wsX11_feed (Cond.code yX7_putFour cX7_putFour 2 none :: [.methodLink RX7 25 yX7_put, .instanceMethod yX7_put, .selects RX7 yX7_put yX7_put, .initialized RX7, .code yX7_put cX7_put 2 none, .fieldLink RX7 21 "ClayAccounts$Text" "size" "I", .fieldLink RX7 15 "ClayAccounts$Text" "bytes" "[B"]) := goodIn_r _ [7, 8, 9, 10, 6, 11, 12, 13] rfl (by decide +kernel)
set_option maxRecDepth 20000 in
theorem ggX11_feed_X7_putFour : GoodIn wsX11_feed wsX7_putFour := (goodIn_ca zbX11_feed_X7_putFour (goodIn_sub in_X11_feed_X7 zgw_X7))
set_option maxRecDepth 20000 in
theorem gX11_feed_X7_putFour : GoodIn wsX11_feed (wsV RX11 103 RX7 yX7_putFour wsX7_putFour) := goodIn_app (goodIn_of _ (by decide +kernel)) ggX11_feed_X7_putFour
theorem in_X11_systems_X10 : ∀ w ∈ wsX100, w ∈ wsX11_systems := fun _ h => List.mem_cons_of_mem _ (List.mem_append_left _ (List.mem_append_left _ (List.mem_append_left _ (List.mem_append_left _ (List.mem_append_right _ h)))))
theorem in_X11_systems_X7 : ∀ w ∈ wsX70, w ∈ wsX11_systems := fun _ h => List.mem_cons_of_mem _ (List.mem_append_left _ (List.mem_append_right _ h))
theorem in_X11_systems_X8 : ∀ w ∈ wsX80, w ∈ wsX11_systems := fun _ h => List.mem_cons_of_mem _ (List.mem_append_left _ (List.mem_append_left _ (List.mem_append_left _ (List.mem_append_right _ h))))
theorem in_X11_systems_X9 : ∀ w ∈ wsX90, w ∈ wsX11_systems := fun _ h => List.mem_cons_of_mem _ (List.mem_append_left _ (List.mem_append_left _ (List.mem_append_right _ h)))
def cks_X11_systems : List (List Cond) := [wsX11_systems_r1, wsX11_systems_r2, wsX11_systems_r3, wsX11_systems_r4, wsX11_systems_r5, wsX11_systems_r6, wsX11_systems_r7, wsX11_systems_r8]
theorem ck_X11_systems : ∀ c ∈ cks_X11_systems, ∀ w ∈ c, w ∈ wsX11_systems := fun c hc w hw => List.mem_cons_of_mem _ (List.mem_append_left _ (List.mem_append_left _ (List.mem_append_left _ (List.mem_append_left _ (List.mem_append_left _ (List.mem_append_left _ (goodIn_cat [wsX11_systems_r1, wsX11_systems_r2, wsX11_systems_r3, wsX11_systems_r4, wsX11_systems_r5, wsX11_systems_r6, wsX11_systems_r7] wsX11_systems_r8 c hc w hw)))))))
set_option maxRecDepth 20000 in
theorem zbX11_systems_X10_read_0 : GoodIn wsX11_systems [Cond.code yX10_read cX10_read 4 (some .boolean)] := goodIn_k _ cks_X11_systems ck_X11_systems [(0, 16)] rfl (by decide +kernel)
set_option maxRecDepth 20000 in
theorem zbX11_systems_X10_read_1 : GoodIn wsX11_systems wsX10_read_r1 := goodIn_k _ cks_X11_systems ck_X11_systems [(0, 17), (0, 18), (0, 19), (0, 20), (0, 21), (0, 22), (0, 23), (1, 0), (1, 1), (1, 2), (1, 3), (1, 4), (1, 5), (1, 6), (1, 7), (1, 8), (1, 9), (1, 10), (1, 11), (1, 12), (1, 13), (1, 14), (1, 15), (1, 16)] rfl (by decide +kernel)
set_option maxRecDepth 20000 in
theorem zbX11_systems_X10_read_2 : GoodIn wsX11_systems wsX10_read_r2 := goodIn_k _ cks_X11_systems ck_X11_systems [(1, 17), (1, 18), (1, 19), (1, 20), (1, 21), (1, 22), (1, 23), (2, 0), (2, 1), (2, 2), (2, 3), (2, 4), (2, 5), (2, 6), (2, 7), (2, 8), (2, 9), (2, 10), (2, 11), (2, 12), (2, 13), (2, 14), (2, 15), (2, 16)] rfl (by decide +kernel)
set_option maxRecDepth 20000 in
theorem zbX11_systems_X10_read_3 : GoodIn wsX11_systems wsX10_read_r3 := goodIn_k _ cks_X11_systems ck_X11_systems [(2, 17), (2, 18), (2, 19), (2, 20), (2, 21), (2, 22), (2, 23), (3, 0), (3, 1), (3, 2), (3, 3), (3, 4), (3, 5), (3, 6), (3, 7), (3, 8), (3, 9), (3, 10), (3, 11), (3, 12), (3, 13), (3, 14), (3, 15), (3, 16)] rfl (by decide +kernel)
set_option maxRecDepth 20000 in
theorem zbX11_systems_X10_read_4 : GoodIn wsX11_systems wsX10_read_r4 := goodIn_k _ cks_X11_systems ck_X11_systems [(3, 17), (3, 18), (3, 19), (3, 20), (3, 21), (3, 22), (3, 23), (4, 0), (4, 1), (4, 2), (4, 3), (4, 4), (4, 5), (4, 6), (4, 7), (4, 8), (4, 9), (4, 10), (4, 11), (4, 12), (0, 15), (4, 13), (4, 14), (4, 15)] rfl (by decide +kernel)
set_option maxRecDepth 20000 in
theorem zbX11_systems_X10_read_5 : GoodIn wsX11_systems wsX10_read_r5 := goodIn_k _ cks_X11_systems ck_X11_systems [(4, 16), (4, 17), (4, 18), (4, 19), (4, 20), (4, 21), (4, 22), (4, 23), (5, 0), (5, 1), (5, 2), (5, 3), (5, 4), (5, 5), (5, 6), (5, 7), (5, 8), (5, 9), (5, 10), (5, 11), (5, 12), (5, 13), (5, 14), (5, 15)] rfl (by decide +kernel)
set_option maxRecDepth 20000 in
theorem zbX11_systems_X10_read_6 : GoodIn wsX11_systems wsX10_read_r6 := goodIn_k _ cks_X11_systems ck_X11_systems [(5, 16), (5, 17), (5, 18), (5, 19), (5, 20), (5, 21), (5, 22), (5, 23), (6, 0), (6, 1), (6, 2), (6, 3), (6, 4), (6, 5), (6, 6), (6, 7), (6, 8), (6, 9), (6, 10), (6, 11), (6, 12), (6, 13), (6, 14), (6, 15)] rfl (by decide +kernel)
set_option maxRecDepth 20000 in
theorem zbX11_systems_X10_read_7 : GoodIn wsX11_systems wsX10_read_r7 := goodIn_k _ cks_X11_systems ck_X11_systems [(6, 16), (6, 17), (6, 18), (6, 19), (6, 20), (6, 21), (6, 22), (6, 23), (7, 0), (7, 1), (7, 2), (7, 3), (7, 4)] rfl (by decide +kernel)
set_option maxRecDepth 20000 in
theorem ggX11_systems_X10_read : GoodIn wsX11_systems wsX10_read := (goodIn_ca (goodIn_ca (goodIn_ca (goodIn_ca (goodIn_cc zbX11_systems_X10_read_0 (goodIn_app zbX11_systems_X10_read_1 (goodIn_app zbX11_systems_X10_read_2 (goodIn_app zbX11_systems_X10_read_3 (goodIn_app zbX11_systems_X10_read_4 (goodIn_app zbX11_systems_X10_read_5 (goodIn_app zbX11_systems_X10_read_6 zbX11_systems_X10_read_7))))))) (goodIn_sub in_X11_systems_X10 zgw_X10)) (goodIn_sub in_X11_systems_X8 zgw_X8)) (goodIn_sub in_X11_systems_X9 zgw_X9)) (goodIn_sub in_X11_systems_X7 zgw_X7))
set_option maxRecDepth 20000 in
theorem gX11_systems_X10_read : GoodIn wsX11_systems (wsV RX11 106 RX10 yX10_read wsX10_read) := goodIn_app (goodIn_of _ (by decide +kernel)) ggX11_systems_X10_read
set_option maxRecDepth 20000 in
theorem zbX11_systems_X7_clear : GoodIn wsX11_systems (Cond.code yX7_clear cX7_clear 1 none :: [.fieldLink RX7 21 "ClayAccounts$Text" "size" "I"]) := goodIn_k _ cks_X11_systems ck_X11_systems [(7, 8), (2, 16)] rfl (by decide +kernel)
set_option maxRecDepth 20000 in
theorem ggX11_systems_X7_clear : GoodIn wsX11_systems wsX7_clear := (goodIn_ca zbX11_systems_X7_clear (goodIn_sub in_X11_systems_X7 zgw_X7))
set_option maxRecDepth 20000 in
theorem gX11_systems_X7_clear : GoodIn wsX11_systems (wsV RX11 110 RX7 yX7_clear wsX7_clear) := goodIn_app (goodIn_of _ (by decide +kernel)) ggX11_systems_X7_clear
theorem in_X11_systems_X3 : ∀ w ∈ wsX30, w ∈ wsX11_systems := fun _ h => List.mem_cons_of_mem _ (List.mem_append_right _ h)
set_option maxRecDepth 20000 in
theorem zbX11_systems_X3_forget : GoodIn wsX11_systems (Cond.code yX3_forget cX3_forget 1 none :: [.fieldLink RX3 9 "ClayAccounts$Matcher" "partners" "[I", .fieldLink RX3 27 "ClayAccounts$Matcher" "pairCount" "I", .fieldLink RX3 31 "ClayAccounts$Matcher" "sureCount" "I", .methodLink RX3 21 yJ7_fill_53178, .static yJ7_fill_53178, .initialized RJ7, .code yJ7_fill_53178 cJ7_fill_53178 4 none]) := goodIn_k _ cks_X11_systems ck_X11_systems [(7, 13), (7, 14), (7, 15), (7, 16), (7, 17), (1, 11), (1, 8), (1, 12)] rfl (by decide +kernel)
set_option maxRecDepth 20000 in
theorem ggX11_systems_X3_forget : GoodIn wsX11_systems wsX3_forget := (goodIn_ca zbX11_systems_X3_forget (goodIn_sub in_X11_systems_X3 zgw_X3))
set_option maxRecDepth 20000 in
theorem gX11_systems_X3_forget : GoodIn wsX11_systems (wsV RX11 125 RX3 yX3_forget wsX3_forget) := goodIn_app (goodIn_of _ (by decide +kernel)) ggX11_systems_X3_forget
set_option maxRecDepth 20000 in
theorem zbX11_systems_J7_fill_53178 : GoodIn wsX11_systems (Cond.code yJ7_fill_53178 cJ7_fill_53178 4 none :: []) := goodIn_k _ cks_X11_systems ck_X11_systems [(1, 12)] rfl (by decide +kernel)
set_option maxRecDepth 20000 in
theorem ggX11_systems_J7_fill_53178 : GoodIn wsX11_systems wsJ7_fill_53178 := zbX11_systems_J7_fill_53178
set_option maxRecDepth 20000 in
theorem gX11_systems_J7_fill_53178 : GoodIn wsX11_systems (va_wsS RX11 84 yJ7_fill_53178 wsJ7_fill_53178) := goodIn_app (goodIn_of _ (by decide +kernel)) ggX11_systems_J7_fill_53178
theorem in_X11_system_X11 : ∀ w ∈ wsX110, w ∈ wsX11_system := fun _ h => List.mem_cons_of_mem _ (List.mem_append_left _ (List.mem_append_left _ (List.mem_append_right _ h)))
theorem in_X11_system_X9 : ∀ w ∈ wsX90, w ∈ wsX11_system := fun _ h => List.mem_cons_of_mem _ (List.mem_append_left _ (List.mem_append_right _ h))
set_option maxRecDepth 20000 in
theorem zbX11_system_X11_isSystem : GoodIn wsX11_system (Cond.code yX11_isSystem cX11_isSystem 2 (some .boolean) :: [.fieldLink RX11 76 "ClayAccounts" "units" "LClayAccounts$Units;", .fieldLink RX11 128 "ClayAccounts$Units" "systemCount" "I"]) := goodIn_r _ [10, 3, 11] rfl (by decide +kernel)
set_option maxRecDepth 20000 in
theorem ggX11_system_X11_isSystem : GoodIn wsX11_system wsX11_isSystem := (goodIn_ca (goodIn_ca zbX11_system_X11_isSystem (goodIn_sub in_X11_system_X11 zgw_X11)) (goodIn_sub in_X11_system_X9 zgw_X9))
set_option maxRecDepth 20000 in
theorem gX11_system_X11_isSystem : GoodIn wsX11_system (wsV RX11 131 RX11 yX11_isSystem wsX11_isSystem) := goodIn_app (goodIn_of _ (by decide +kernel)) ggX11_system_X11_isSystem
set_option maxRecDepth 20000 in
theorem zbX11_system_X9_slot : GoodIn wsX11_system (Cond.code yX9_slot cX9_slot 2 (some .int) :: []) := goodIn_r _ [15] rfl (by decide +kernel)
set_option maxRecDepth 20000 in
theorem ggX11_system_X9_slot : GoodIn wsX11_system wsX9_slot := zbX11_system_X9_slot
set_option maxRecDepth 20000 in
theorem gX11_system_X9_slot : GoodIn wsX11_system (va_wsS RX11 148 yX9_slot wsX9_slot) := goodIn_app (goodIn_of _ (by decide +kernel)) ggX11_system_X9_slot
theorem in_X11_write_X11 : ∀ w ∈ wsX110, w ∈ wsX11_write := fun _ h => List.mem_cons_of_mem _ (List.mem_append_left _ (List.mem_append_left _ (List.mem_append_right _ h)))
theorem in_X11_write_X9 : ∀ w ∈ wsX90, w ∈ wsX11_write := fun _ h => List.mem_cons_of_mem _ (List.mem_append_right _ h)
def cks_X11_write : List (List Cond) := [wsX11_write_r1, wsX11_write_r2]
theorem ck_X11_write : ∀ c ∈ cks_X11_write, ∀ w ∈ c, w ∈ wsX11_write := fun c hc w hw => List.mem_cons_of_mem _ (List.mem_append_left _ (List.mem_append_left _ (List.mem_append_left _ (goodIn_cat [wsX11_write_r1] wsX11_write_r2 c hc w hw))))
set_option maxRecDepth 20000 in
theorem zbX11_write_X11_isSystem : GoodIn wsX11_write (Cond.code yX11_isSystem cX11_isSystem 2 (some .boolean) :: [.fieldLink RX11 76 "ClayAccounts" "units" "LClayAccounts$Units;", .fieldLink RX11 128 "ClayAccounts$Units" "systemCount" "I"]) := goodIn_k _ cks_X11_write ck_X11_write [(0, 7), (0, 0), (0, 8)] rfl (by decide +kernel)
set_option maxRecDepth 20000 in
theorem ggX11_write_X11_isSystem : GoodIn wsX11_write wsX11_isSystem := (goodIn_ca (goodIn_ca zbX11_write_X11_isSystem (goodIn_sub in_X11_write_X11 zgw_X11)) (goodIn_sub in_X11_write_X9 zgw_X9))
set_option maxRecDepth 20000 in
theorem gX11_write_X11_isSystem : GoodIn wsX11_write (wsV RX11 131 RX11 yX11_isSystem wsX11_isSystem) := goodIn_app (goodIn_of _ (by decide +kernel)) ggX11_write_X11_isSystem
set_option maxRecDepth 20000 in
theorem zbX11_write_X9_canWrite : GoodIn wsX11_write (Cond.code yX9_canWrite cX9_canWrite 5 (some .boolean) :: [.fieldLink RX9 15 "ClayAccounts$Units" "unitCounts" "[I", .fieldLink RX9 25 "ClayAccounts$Units" "worths" "[I", .methodLink RX9 48 yX9_slot, .static yX9_slot, .initialized RX9, .code yX9_slot cX9_slot 2 (some .int)]) := goodIn_k _ cks_X11_write ck_X11_write [(0, 13), (0, 14), (0, 15), (0, 16), (0, 17), (0, 12), (0, 18)] rfl (by decide +kernel)
set_option maxRecDepth 20000 in
theorem ggX11_write_X9_canWrite : GoodIn wsX11_write wsX9_canWrite := (goodIn_ca zbX11_write_X9_canWrite (goodIn_sub in_X11_write_X9 zgw_X9))
set_option maxRecDepth 20000 in
theorem gX11_write_X9_canWrite : GoodIn wsX11_write (wsV RX11 152 RX9 yX9_canWrite wsX9_canWrite) := goodIn_app (goodIn_of _ (by decide +kernel)) ggX11_write_X9_canWrite
theorem in_X11_write_X7 : ∀ w ∈ wsX70, w ∈ wsX11_write := fun _ h => List.mem_cons_of_mem _ (List.mem_append_left _ (List.mem_append_right _ h))
set_option maxRecDepth 20000 in
theorem zbX11_write_X7_clear : GoodIn wsX11_write (Cond.code yX7_clear cX7_clear 1 none :: [.fieldLink RX7 21 "ClayAccounts$Text" "size" "I"]) := goodIn_k _ cks_X11_write ck_X11_write [(0, 23), (1, 0)] rfl (by decide +kernel)
set_option maxRecDepth 20000 in
theorem ggX11_write_X7_clear : GoodIn wsX11_write wsX7_clear := (goodIn_ca zbX11_write_X7_clear (goodIn_sub in_X11_write_X7 zgw_X7))
set_option maxRecDepth 20000 in
theorem gX11_write_X7_clear : GoodIn wsX11_write (wsV RX11 110 RX7 yX7_clear wsX7_clear) := goodIn_app (goodIn_of _ (by decide +kernel)) ggX11_write_X7_clear
set_option maxRecDepth 20000 in
theorem zbX11_write_X9_writeTo : GoodIn wsX11_write (Cond.code yX9_writeTo cX9_writeTo 9 none :: [.fieldLink RX9 15 "ClayAccounts$Units" "unitCounts" "[I", .fieldLink RX9 25 "ClayAccounts$Units" "worths" "[I", .fieldLink RX9 19 "ClayAccounts$Units" "names" "[J", .methodLink RX9 48 yX9_slot, .static yX9_slot, .initialized RX9, .code yX9_slot cX9_slot 2 (some .int), .methodLink RX9 56 yX9_writeAmount, .static yX9_writeAmount, .code yX9_writeAmount cX9_writeAmount 6 none, .fieldLink RX9 60 "ClayAccounts$Text" "size" "I", .methodLink RX9 65 yX7_put, .instanceMethod yX7_put, .selects RX7 yX7_put yX7_put, .initialized RX7, .code yX7_put cX7_put 2 none, .fieldLink RX7 21 "ClayAccounts$Text" "size" "I", .fieldLink RX7 15 "ClayAccounts$Text" "bytes" "[B"]) := goodIn_k _ cks_X11_write ck_X11_write [(1, 4), (0, 14), (0, 15), (1, 5), (0, 16), (0, 17), (0, 12), (0, 18), (1, 6), (1, 7), (1, 8), (1, 9), (1, 10), (1, 11), (1, 12), (0, 22), (1, 13), (1, 0), (1, 14)] rfl (by decide +kernel)
set_option maxRecDepth 20000 in
theorem ggX11_write_X9_writeTo : GoodIn wsX11_write wsX9_writeTo := (goodIn_ca (goodIn_ca zbX11_write_X9_writeTo (goodIn_sub in_X11_write_X9 zgw_X9)) (goodIn_sub in_X11_write_X7 zgw_X7))
set_option maxRecDepth 20000 in
theorem gX11_write_X9_writeTo : GoodIn wsX11_write (wsV RX11 156 RX9 yX9_writeTo wsX9_writeTo) := goodIn_app (goodIn_of _ (by decide +kernel)) ggX11_write_X9_writeTo
theorem in_X11_octet_X7 : ∀ w ∈ wsX70, w ∈ wsX11_octet := fun _ h => List.mem_cons_of_mem _ (List.mem_append_left _ (List.mem_append_right _ h))
set_option maxRecDepth 20000 in
theorem zbX11_octet_X7_byteAt : GoodIn wsX11_octet (Cond.code yX7_byteAt cX7_byteAt 2 (some .int) :: [.fieldLink RX7 21 "ClayAccounts$Text" "size" "I", .fieldLink RX7 15 "ClayAccounts$Text" "bytes" "[B"]) := goodIn_r _ [9, 10, 11] rfl (by decide +kernel)
set_option maxRecDepth 20000 in
theorem ggX11_octet_X7_byteAt : GoodIn wsX11_octet wsX7_byteAt := (goodIn_ca zbX11_octet_X7_byteAt (goodIn_sub in_X11_octet_X7 zgw_X7))
set_option maxRecDepth 20000 in
theorem gX11_octet_X7_byteAt : GoodIn wsX11_octet (wsV RX11 162 RX7 yX7_byteAt wsX7_byteAt) := goodIn_app (goodIn_of _ (by decide +kernel)) ggX11_octet_X7_byteAt
theorem in_X11_tablet_X1 : ∀ w ∈ wsX10, w ∈ wsX11_tablet := fun _ h => List.mem_cons_of_mem _ (List.mem_append_right _ h)
theorem in_X11_tablet_X2 : ∀ w ∈ wsX20, w ∈ wsX11_tablet := fun _ h => List.mem_cons_of_mem _ (List.mem_append_left _ (List.mem_append_right _ h))
theorem in_X11_tablet_X5 : ∀ w ∈ wsX50, w ∈ wsX11_tablet := fun _ h => List.mem_cons_of_mem _ (List.mem_append_left _ (List.mem_append_left _ (List.mem_append_left _ (List.mem_append_right _ h))))
theorem in_X11_tablet_X6 : ∀ w ∈ wsX60, w ∈ wsX11_tablet := fun _ h => List.mem_cons_of_mem _ (List.mem_append_left _ (List.mem_append_left _ (List.mem_append_left _ (List.mem_append_left _ (List.mem_append_left _ (List.mem_append_right _ h))))))
theorem in_X11_tablet_X7 : ∀ w ∈ wsX70, w ∈ wsX11_tablet := fun _ h => List.mem_cons_of_mem _ (List.mem_append_left _ (List.mem_append_left _ (List.mem_append_right _ h)))
theorem in_X11_tablet_X8 : ∀ w ∈ wsX80, w ∈ wsX11_tablet := fun _ h => List.mem_cons_of_mem _ (List.mem_append_left _ (List.mem_append_left _ (List.mem_append_left _ (List.mem_append_left _ (List.mem_append_right _ h)))))
theorem in_X11_tablet_X9 : ∀ w ∈ wsX90, w ∈ wsX11_tablet := fun _ h => List.mem_cons_of_mem _ (List.mem_append_left _ (List.mem_append_left _ (List.mem_append_left _ (List.mem_append_left _ (List.mem_append_left _ (List.mem_append_left _ (List.mem_append_right _ h)))))))
def cks_X11_tablet : List (List Cond) := [wsX11_tablet_r1, wsX11_tablet_r2, wsX11_tablet_r3, wsX11_tablet_r4, wsX11_tablet_r5, wsX11_tablet_r6, wsX11_tablet_r7, wsX11_tablet_r8, wsX11_tablet_r9]
theorem ck_X11_tablet : ∀ c ∈ cks_X11_tablet, ∀ w ∈ c, w ∈ wsX11_tablet := fun c hc w hw => List.mem_cons_of_mem _ (List.mem_append_left _ (List.mem_append_left _ (List.mem_append_left _ (List.mem_append_left _ (List.mem_append_left _ (List.mem_append_left _ (List.mem_append_left _ (List.mem_append_left _ (goodIn_cat [wsX11_tablet_r1, wsX11_tablet_r2, wsX11_tablet_r3, wsX11_tablet_r4, wsX11_tablet_r5, wsX11_tablet_r6, wsX11_tablet_r7, wsX11_tablet_r8] wsX11_tablet_r9 c hc w hw)))))))))
set_option maxRecDepth 20000 in
theorem zbX11_tablet_X6_read_0 : GoodIn wsX11_tablet [Cond.code yX6_read cX6_read 5 (some .boolean)] := goodIn_k _ cks_X11_tablet ck_X11_tablet [(0, 14)] rfl (by decide +kernel)
set_option maxRecDepth 20000 in
theorem zbX11_tablet_X6_read_1 : GoodIn wsX11_tablet wsX6_read_r1 := goodIn_k _ cks_X11_tablet ck_X11_tablet [(0, 15), (0, 16), (0, 17), (0, 18), (0, 19), (0, 20), (0, 21), (0, 22), (0, 23), (1, 0), (1, 1), (1, 2), (1, 3), (1, 4), (1, 5), (1, 6), (1, 7), (1, 8), (1, 9), (1, 10), (1, 11), (1, 12), (1, 13), (1, 14)] rfl (by decide +kernel)
set_option maxRecDepth 20000 in
theorem zbX11_tablet_X6_read_2 : GoodIn wsX11_tablet wsX6_read_r2 := goodIn_k _ cks_X11_tablet ck_X11_tablet [(1, 15), (1, 16), (1, 17), (1, 18), (1, 19), (1, 20), (1, 21), (1, 22), (1, 23), (2, 0), (2, 1), (2, 2), (2, 3), (2, 4), (2, 5), (2, 6), (2, 7), (2, 8), (2, 9), (2, 10), (2, 11), (2, 12), (2, 13), (2, 14)] rfl (by decide +kernel)
set_option maxRecDepth 20000 in
theorem zbX11_tablet_X6_read_3 : GoodIn wsX11_tablet wsX6_read_r3 := goodIn_k _ cks_X11_tablet ck_X11_tablet [(2, 15), (2, 16), (2, 17), (2, 18), (2, 19), (2, 20), (2, 21), (2, 22), (2, 23), (3, 0), (3, 1), (3, 2), (3, 3), (3, 4), (3, 5), (3, 6), (3, 7), (3, 8), (3, 9), (3, 10), (3, 11), (3, 12), (3, 13), (3, 14)] rfl (by decide +kernel)
set_option maxRecDepth 20000 in
theorem zbX11_tablet_X6_read_4 : GoodIn wsX11_tablet wsX6_read_r4 := goodIn_k _ cks_X11_tablet ck_X11_tablet [(3, 15), (3, 16), (3, 17), (3, 18), (3, 19), (3, 20), (3, 21), (3, 22), (3, 23), (4, 0), (4, 1), (4, 2), (4, 3), (4, 4), (0, 13), (4, 5), (4, 6), (4, 7), (4, 8), (4, 9), (4, 10), (4, 11), (4, 12), (4, 13)] rfl (by decide +kernel)
set_option maxRecDepth 20000 in
theorem zbX11_tablet_X6_read_5 : GoodIn wsX11_tablet wsX6_read_r5 := goodIn_k _ cks_X11_tablet ck_X11_tablet [(4, 14), (4, 15), (4, 16), (4, 17), (4, 18), (4, 19), (4, 20), (4, 21), (4, 22), (4, 23), (5, 0), (5, 1), (5, 2), (5, 3), (5, 4), (5, 5), (5, 6), (5, 7), (5, 8), (5, 9), (5, 10), (5, 11), (5, 12), (5, 13)] rfl (by decide +kernel)
set_option maxRecDepth 20000 in
theorem zbX11_tablet_X6_read_6 : GoodIn wsX11_tablet wsX6_read_r6 := goodIn_k _ cks_X11_tablet ck_X11_tablet [(5, 14), (5, 15), (5, 16), (5, 17), (5, 18), (5, 19), (5, 20), (5, 21), (5, 22), (5, 23), (6, 0), (6, 1), (6, 2), (6, 3), (6, 4), (6, 5), (6, 6), (6, 7), (6, 8), (6, 9), (6, 10), (6, 11), (6, 12), (6, 13)] rfl (by decide +kernel)
set_option maxRecDepth 20000 in
theorem zbX11_tablet_X6_read_7 : GoodIn wsX11_tablet wsX6_read_r7 := goodIn_k _ cks_X11_tablet ck_X11_tablet [(6, 14), (6, 15), (6, 16), (6, 17), (6, 18), (6, 19), (6, 20), (6, 21), (6, 22), (6, 23), (7, 0), (7, 1), (7, 2), (7, 3), (7, 4), (7, 5), (7, 6), (7, 7), (7, 8), (7, 9), (7, 10), (7, 11), (7, 12), (7, 13)] rfl (by decide +kernel)
set_option maxRecDepth 20000 in
theorem zbX11_tablet_X6_read_8 : GoodIn wsX11_tablet wsX6_read_r8 := goodIn_k _ cks_X11_tablet ck_X11_tablet [(7, 14), (7, 15), (7, 16), (7, 17), (7, 18), (7, 19), (7, 20), (7, 21), (7, 22), (7, 23), (8, 0), (8, 1), (8, 2), (8, 3), (8, 4), (8, 5), (8, 6), (8, 7), (8, 8), (8, 9), (8, 10), (8, 11), (8, 12), (8, 13)] rfl (by decide +kernel)
set_option maxRecDepth 20000 in
theorem zbX11_tablet_X6_read_9 : GoodIn wsX11_tablet wsX6_read_r9 := goodIn_k _ cks_X11_tablet ck_X11_tablet [(8, 14), (8, 15), (8, 16)] rfl (by decide +kernel)
set_option maxRecDepth 20000 in
theorem ggX11_tablet_X6_read : GoodIn wsX11_tablet wsX6_read := (goodIn_ca (goodIn_ca (goodIn_ca (goodIn_ca (goodIn_ca (goodIn_ca (goodIn_ca (goodIn_cc zbX11_tablet_X6_read_0 (goodIn_app zbX11_tablet_X6_read_1 (goodIn_app zbX11_tablet_X6_read_2 (goodIn_app zbX11_tablet_X6_read_3 (goodIn_app zbX11_tablet_X6_read_4 (goodIn_app zbX11_tablet_X6_read_5 (goodIn_app zbX11_tablet_X6_read_6 (goodIn_app zbX11_tablet_X6_read_7 (goodIn_app zbX11_tablet_X6_read_8 zbX11_tablet_X6_read_9))))))))) (goodIn_sub in_X11_tablet_X6 zgw_X6)) (goodIn_sub in_X11_tablet_X8 zgw_X8)) (goodIn_sub in_X11_tablet_X5 zgw_X5)) (goodIn_sub in_X11_tablet_X7 zgw_X7)) (goodIn_sub in_X11_tablet_X2 zgw_X2)) (goodIn_sub in_X11_tablet_X9 zgw_X9)) (goodIn_sub in_X11_tablet_X1 zgw_X1))
set_option maxRecDepth 20000 in
theorem gX11_tablet_X6_read : GoodIn wsX11_tablet (wsV RX11 166 RX6 yX6_read wsX6_read) := goodIn_app (goodIn_of _ (by decide +kernel)) ggX11_tablet_X6_read
set_option maxRecDepth 20000 in
theorem zbX11_tablet_X7_clear : GoodIn wsX11_tablet (Cond.code yX7_clear cX7_clear 1 none :: [.fieldLink RX7 21 "ClayAccounts$Text" "size" "I"]) := goodIn_k _ cks_X11_tablet ck_X11_tablet [(8, 20), (2, 8)] rfl (by decide +kernel)
set_option maxRecDepth 20000 in
theorem ggX11_tablet_X7_clear : GoodIn wsX11_tablet wsX7_clear := (goodIn_ca zbX11_tablet_X7_clear (goodIn_sub in_X11_tablet_X7 zgw_X7))
set_option maxRecDepth 20000 in
theorem gX11_tablet_X7_clear : GoodIn wsX11_tablet (wsV RX11 110 RX7 yX7_clear wsX7_clear) := goodIn_app (goodIn_of _ (by decide +kernel)) ggX11_tablet_X7_clear
theorem in_X11_line_X11 : ∀ w ∈ wsX110, w ∈ wsX11_line := fun _ h => List.mem_cons_of_mem _ (List.mem_append_left _ (List.mem_append_left _ (List.mem_append_left _ (List.mem_append_right _ h))))
theorem in_X11_line_X5 : ∀ w ∈ wsX50, w ∈ wsX11_line := fun _ h => List.mem_cons_of_mem _ (List.mem_append_left _ (List.mem_append_left _ (List.mem_append_right _ h)))
set_option maxRecDepth 20000 in
theorem zbX11_line_X11_isLine : GoodIn wsX11_line (Cond.code yX11_isLine cX11_isLine 3 (some .boolean) :: [.fieldLink RX11 54 "ClayAccounts" "tablets" "[LClayAccounts$Tablet;", .fieldLink RX11 196 "ClayAccounts$Tablet" "lineCount" "I", .methodLink RX11 193 yX11_isTablet, .instanceMethod yX11_isTablet, .selects RX11 yX11_isTablet yX11_isTablet, .initialized RX11, .code yX11_isTablet cX11_isTablet 2 (some .boolean), .fieldLink RX11 90 "ClayAccounts" "tabletCount" "I"]) := goodIn_r _ [13, 3, 14, 15, 16, 17, 12, 18, 19] rfl (by decide +kernel)
set_option maxRecDepth 20000 in
theorem ggX11_line_X11_isLine : GoodIn wsX11_line wsX11_isLine := (goodIn_ca (goodIn_ca zbX11_line_X11_isLine (goodIn_sub in_X11_line_X11 zgw_X11)) (goodIn_sub in_X11_line_X5 zgw_X5))
set_option maxRecDepth 20000 in
theorem gX11_line_X11_isLine : GoodIn wsX11_line (wsV RX11 170 RX11 yX11_isLine wsX11_isLine) := goodIn_app (goodIn_of _ (by decide +kernel)) ggX11_line_X11_isLine
theorem in_X11_lines_X11 : ∀ w ∈ wsX110, w ∈ wsX11_lines := fun _ h => List.mem_cons_of_mem _ (List.mem_append_left _ (List.mem_append_right _ h))
set_option maxRecDepth 20000 in
theorem zbX11_lines_X11_isTablet : GoodIn wsX11_lines (Cond.code yX11_isTablet cX11_isTablet 2 (some .boolean) :: [.fieldLink RX11 90 "ClayAccounts" "tabletCount" "I"]) := goodIn_r _ [7, 8] rfl (by decide +kernel)
set_option maxRecDepth 20000 in
theorem ggX11_lines_X11_isTablet : GoodIn wsX11_lines wsX11_isTablet := (goodIn_ca zbX11_lines_X11_isTablet (goodIn_sub in_X11_lines_X11 zgw_X11))
set_option maxRecDepth 20000 in
theorem gX11_lines_X11_isTablet : GoodIn wsX11_lines (wsV RX11 193 RX11 yX11_isTablet wsX11_isTablet) := goodIn_app (goodIn_of _ (by decide +kernel)) ggX11_lines_X11_isTablet
theorem in_X11_readings_X11 : ∀ w ∈ wsX110, w ∈ wsX11_readings := fun _ h => List.mem_cons_of_mem _ (List.mem_append_left _ (List.mem_append_left _ (List.mem_append_left _ (List.mem_append_right _ h))))
def cks_X11_readings : List (List Cond) := [wsX11_readings_r1, wsX11_readings_r2, wsX11_readings_r3, wsX11_readings_r4, wsX11_readings_r5]
theorem ck_X11_readings : ∀ c ∈ cks_X11_readings, ∀ w ∈ c, w ∈ wsX11_readings := fun c hc w hw => List.mem_cons_of_mem _ (List.mem_append_left _ (List.mem_append_left _ (List.mem_append_left _ (List.mem_append_left _ (List.mem_append_left _ (goodIn_cat [wsX11_readings_r1, wsX11_readings_r2, wsX11_readings_r3, wsX11_readings_r4] wsX11_readings_r5 c hc w hw))))))
set_option maxRecDepth 20000 in
theorem zbX11_readings_X11_isTablet : GoodIn wsX11_readings (Cond.code yX11_isTablet cX11_isTablet 2 (some .boolean) :: [.fieldLink RX11 90 "ClayAccounts" "tabletCount" "I"]) := goodIn_k _ cks_X11_readings ck_X11_readings [(0, 5), (0, 6)] rfl (by decide +kernel)
set_option maxRecDepth 20000 in
theorem ggX11_readings_X11_isTablet : GoodIn wsX11_readings wsX11_isTablet := (goodIn_ca zbX11_readings_X11_isTablet (goodIn_sub in_X11_readings_X11 zgw_X11))
set_option maxRecDepth 20000 in
theorem gX11_readings_X11_isTablet : GoodIn wsX11_readings (wsV RX11 193 RX11 yX11_isTablet wsX11_isTablet) := goodIn_app (goodIn_of _ (by decide +kernel)) ggX11_readings_X11_isTablet
theorem in_X11_readings_X1 : ∀ w ∈ wsX10, w ∈ wsX11_readings := fun _ h => List.mem_cons_of_mem _ (List.mem_append_right _ h)
theorem in_X11_readings_X2 : ∀ w ∈ wsX20, w ∈ wsX11_readings := fun _ h => List.mem_cons_of_mem _ (List.mem_append_left _ (List.mem_append_right _ h))
theorem in_X11_readings_X4 : ∀ w ∈ wsX40, w ∈ wsX11_readings := fun _ h => List.mem_cons_of_mem _ (List.mem_append_left _ (List.mem_append_left _ (List.mem_append_right _ h)))
theorem in_X11_readings_X5 : ∀ w ∈ wsX50, w ∈ wsX11_readings := fun _ h => List.mem_cons_of_mem _ (List.mem_append_left _ (List.mem_append_left _ (List.mem_append_left _ (List.mem_append_left _ (List.mem_append_right _ h)))))
set_option maxRecDepth 20000 in
theorem zbX11_readings_X11_solved_0 : GoodIn wsX11_readings [Cond.code yX11_solved cX11_solved 3 (some (.object "ClayAccounts$Tablet"))] := goodIn_k _ cks_X11_readings ck_X11_readings [(0, 10)] rfl (by decide +kernel)
set_option maxRecDepth 20000 in
theorem zbX11_readings_X11_solved_1 : GoodIn wsX11_readings wsX11_solved_r1 := goodIn_k _ cks_X11_readings ck_X11_readings [(0, 11), (0, 12), (0, 13), (0, 14), (0, 15), (0, 16), (0, 17), (0, 18), (0, 19), (0, 20), (0, 21), (0, 22), (0, 23), (1, 0), (1, 1), (1, 2), (1, 3), (1, 4), (1, 5), (1, 6), (1, 7), (1, 8), (1, 9), (1, 10)] rfl (by decide +kernel)
set_option maxRecDepth 20000 in
theorem zbX11_readings_X11_solved_2 : GoodIn wsX11_readings wsX11_solved_r2 := goodIn_k _ cks_X11_readings ck_X11_readings [(1, 11), (1, 12), (1, 13), (1, 14), (1, 15), (1, 16), (1, 17), (1, 18), (1, 19), (1, 20), (1, 21), (1, 22), (1, 23), (2, 0), (2, 1), (2, 2), (2, 3), (2, 4), (2, 5), (2, 6), (2, 7), (2, 8), (2, 9), (2, 10)] rfl (by decide +kernel)
set_option maxRecDepth 20000 in
theorem zbX11_readings_X11_solved_3 : GoodIn wsX11_readings wsX11_solved_r3 := goodIn_k _ cks_X11_readings ck_X11_readings [(2, 11), (2, 12), (2, 13), (2, 14), (2, 15), (2, 16), (2, 17), (2, 18), (2, 19), (2, 20), (2, 21), (2, 22), (2, 23), (3, 0), (3, 1), (3, 2), (3, 3), (3, 4), (3, 5), (3, 6), (3, 7), (3, 8), (3, 9), (3, 10)] rfl (by decide +kernel)
set_option maxRecDepth 20000 in
theorem zbX11_readings_X11_solved_4 : GoodIn wsX11_readings wsX11_solved_r4 := goodIn_k _ cks_X11_readings ck_X11_readings [(3, 11), (3, 12), (3, 13), (3, 14), (3, 15), (3, 16), (3, 17), (3, 18), (3, 19), (3, 20), (3, 21), (3, 22), (3, 23), (4, 0)] rfl (by decide +kernel)
set_option maxRecDepth 20000 in
theorem ggX11_readings_X11_solved : GoodIn wsX11_readings wsX11_solved := (goodIn_ca (goodIn_ca (goodIn_ca (goodIn_ca (goodIn_ca (goodIn_cc zbX11_readings_X11_solved_0 (goodIn_app zbX11_readings_X11_solved_1 (goodIn_app zbX11_readings_X11_solved_2 (goodIn_app zbX11_readings_X11_solved_3 zbX11_readings_X11_solved_4)))) (goodIn_sub in_X11_readings_X11 zgw_X11)) (goodIn_sub in_X11_readings_X5 zgw_X5)) (goodIn_sub in_X11_readings_X4 zgw_X4)) (goodIn_sub in_X11_readings_X2 zgw_X2)) (goodIn_sub in_X11_readings_X1 zgw_X1))
set_option maxRecDepth 20000 in
theorem gX11_readings_X11_solved : GoodIn wsX11_readings (wsV RX11 199 RX11 yX11_solved wsX11_solved) := goodIn_app (goodIn_of _ (by decide +kernel)) ggX11_readings_X11_solved
theorem in_X11_bound_X11 : ∀ w ∈ wsX110, w ∈ wsX11_bound := fun _ h => List.mem_cons_of_mem _ (List.mem_append_left _ (List.mem_append_left _ (List.mem_append_left _ (List.mem_append_left _ (List.mem_append_right _ h)))))
theorem in_X11_bound_X5 : ∀ w ∈ wsX50, w ∈ wsX11_bound := fun _ h => List.mem_cons_of_mem _ (List.mem_append_left _ (List.mem_append_left _ (List.mem_append_left _ (List.mem_append_left _ (List.mem_append_left _ (List.mem_append_right _ h))))))
def cks_X11_bound : List (List Cond) := [wsX11_bound_r1, wsX11_bound_r2, wsX11_bound_r3, wsX11_bound_r4, wsX11_bound_r5]
theorem ck_X11_bound : ∀ c ∈ cks_X11_bound, ∀ w ∈ c, w ∈ wsX11_bound := fun c hc w hw => List.mem_cons_of_mem _ (List.mem_append_left _ (List.mem_append_left _ (List.mem_append_left _ (List.mem_append_left _ (List.mem_append_left _ (List.mem_append_left _ (goodIn_cat [wsX11_bound_r1, wsX11_bound_r2, wsX11_bound_r3, wsX11_bound_r4] wsX11_bound_r5 c hc w hw)))))))
set_option maxRecDepth 20000 in
theorem zbX11_bound_X11_isLine : GoodIn wsX11_bound (Cond.code yX11_isLine cX11_isLine 3 (some .boolean) :: [.fieldLink RX11 54 "ClayAccounts" "tablets" "[LClayAccounts$Tablet;", .fieldLink RX11 196 "ClayAccounts$Tablet" "lineCount" "I", .methodLink RX11 193 yX11_isTablet, .instanceMethod yX11_isTablet, .selects RX11 yX11_isTablet yX11_isTablet, .initialized RX11, .code yX11_isTablet cX11_isTablet 2 (some .boolean), .fieldLink RX11 90 "ClayAccounts" "tabletCount" "I"]) := goodIn_k _ cks_X11_bound ck_X11_bound [(0, 8), (0, 9), (0, 10), (0, 11), (0, 12), (0, 13), (0, 7), (0, 14), (0, 15)] rfl (by decide +kernel)
set_option maxRecDepth 20000 in
theorem ggX11_bound_X11_isLine : GoodIn wsX11_bound wsX11_isLine := (goodIn_ca (goodIn_ca zbX11_bound_X11_isLine (goodIn_sub in_X11_bound_X11 zgw_X11)) (goodIn_sub in_X11_bound_X5 zgw_X5))
set_option maxRecDepth 20000 in
theorem gX11_bound_X11_isLine : GoodIn wsX11_bound (wsV RX11 170 RX11 yX11_isLine wsX11_isLine) := goodIn_app (goodIn_of _ (by decide +kernel)) ggX11_bound_X11_isLine
theorem in_X11_bound_X1 : ∀ w ∈ wsX10, w ∈ wsX11_bound := fun _ h => List.mem_cons_of_mem _ (List.mem_append_left _ (List.mem_append_right _ h))
theorem in_X11_bound_X2 : ∀ w ∈ wsX20, w ∈ wsX11_bound := fun _ h => List.mem_cons_of_mem _ (List.mem_append_left _ (List.mem_append_left _ (List.mem_append_right _ h)))
theorem in_X11_bound_X4 : ∀ w ∈ wsX40, w ∈ wsX11_bound := fun _ h => List.mem_cons_of_mem _ (List.mem_append_left _ (List.mem_append_left _ (List.mem_append_left _ (List.mem_append_right _ h))))
set_option maxRecDepth 20000 in
theorem zbX11_bound_X11_solved_0 : GoodIn wsX11_bound [Cond.code yX11_solved cX11_solved 3 (some (.object "ClayAccounts$Tablet"))] := goodIn_k _ cks_X11_bound ck_X11_bound [(0, 19)] rfl (by decide +kernel)
set_option maxRecDepth 20000 in
theorem zbX11_bound_X11_solved_1 : GoodIn wsX11_bound wsX11_solved_r1 := goodIn_k _ cks_X11_bound ck_X11_bound [(0, 9), (0, 20), (0, 21), (0, 22), (0, 23), (1, 0), (1, 1), (1, 2), (1, 3), (1, 4), (1, 5), (1, 6), (1, 7), (1, 8), (1, 9), (1, 10), (1, 11), (1, 12), (1, 13), (1, 14), (1, 15), (1, 16), (1, 17), (1, 18)] rfl (by decide +kernel)
set_option maxRecDepth 20000 in
theorem zbX11_bound_X11_solved_2 : GoodIn wsX11_bound wsX11_solved_r2 := goodIn_k _ cks_X11_bound ck_X11_bound [(1, 19), (1, 20), (1, 21), (1, 22), (1, 23), (2, 0), (2, 1), (2, 2), (2, 3), (2, 4), (2, 5), (2, 6), (2, 7), (2, 8), (2, 9), (2, 10), (2, 11), (2, 12), (2, 13), (2, 14), (2, 15), (2, 16), (2, 17), (2, 18)] rfl (by decide +kernel)
set_option maxRecDepth 20000 in
theorem zbX11_bound_X11_solved_3 : GoodIn wsX11_bound wsX11_solved_r3 := goodIn_k _ cks_X11_bound ck_X11_bound [(2, 19), (2, 20), (2, 21), (2, 22), (2, 23), (3, 0), (3, 1), (3, 2), (3, 3), (3, 4), (3, 5), (3, 6), (3, 7), (3, 8), (3, 9), (3, 10), (3, 11), (3, 12), (3, 13), (3, 14), (3, 15), (3, 16), (3, 17), (3, 18)] rfl (by decide +kernel)
set_option maxRecDepth 20000 in
theorem zbX11_bound_X11_solved_4 : GoodIn wsX11_bound wsX11_solved_r4 := goodIn_k _ cks_X11_bound ck_X11_bound [(3, 19), (3, 20), (3, 21), (3, 22), (3, 23), (4, 0), (4, 1), (4, 2), (4, 3), (4, 4), (4, 5), (4, 6), (4, 7), (4, 8)] rfl (by decide +kernel)
set_option maxRecDepth 20000 in
theorem ggX11_bound_X11_solved : GoodIn wsX11_bound wsX11_solved := (goodIn_ca (goodIn_ca (goodIn_ca (goodIn_ca (goodIn_ca (goodIn_cc zbX11_bound_X11_solved_0 (goodIn_app zbX11_bound_X11_solved_1 (goodIn_app zbX11_bound_X11_solved_2 (goodIn_app zbX11_bound_X11_solved_3 zbX11_bound_X11_solved_4)))) (goodIn_sub in_X11_bound_X11 zgw_X11)) (goodIn_sub in_X11_bound_X5 zgw_X5)) (goodIn_sub in_X11_bound_X4 zgw_X4)) (goodIn_sub in_X11_bound_X2 zgw_X2)) (goodIn_sub in_X11_bound_X1 zgw_X1))
set_option maxRecDepth 20000 in
theorem gX11_bound_X11_solved : GoodIn wsX11_bound (wsV RX11 199 RX11 yX11_solved wsX11_solved) := goodIn_app (goodIn_of _ (by decide +kernel)) ggX11_bound_X11_solved
set_option maxRecDepth 20000 in
theorem zbX11_bound_X2_valueBound : GoodIn wsX11_bound (Cond.code yX2_valueBound cX2_valueBound 2 (some .int) :: [.fieldLink RX2 18 "ClayAccounts$Line" "holeCount" "I", .fieldLink RX2 21 "ClayAccounts$Line" "value" "I", .fieldLink RX2 27 "ClayAccounts$Line" "greatest" "I", .fieldLink RX2 24 "ClayAccounts$Line" "least" "I"]) := goodIn_k _ cks_X11_bound ck_X11_bound [(4, 12), (4, 13), (4, 14), (4, 5), (4, 3)] rfl (by decide +kernel)
set_option maxRecDepth 20000 in
theorem ggX11_bound_X2_valueBound : GoodIn wsX11_bound wsX2_valueBound := (goodIn_ca zbX11_bound_X2_valueBound (goodIn_sub in_X11_bound_X2 zgw_X2))
set_option maxRecDepth 20000 in
theorem gX11_bound_X2_valueBound : GoodIn wsX11_bound (wsV RX11 208 RX2 yX2_valueBound wsX2_valueBound) := goodIn_app (goodIn_of _ (by decide +kernel)) ggX11_bound_X2_valueBound
theorem in_X11_digit_X11 : ∀ w ∈ wsX110, w ∈ wsX11_digit := fun _ h => List.mem_cons_of_mem _ (List.mem_append_left _ (List.mem_append_left _ (List.mem_append_left _ (List.mem_append_left _ (List.mem_append_left _ (List.mem_append_right _ h))))))
def cks_X11_digit : List (List Cond) := [wsX11_digit_r1, wsX11_digit_r2, wsX11_digit_r3, wsX11_digit_r4, wsX11_digit_r5]
theorem ck_X11_digit : ∀ c ∈ cks_X11_digit, ∀ w ∈ c, w ∈ wsX11_digit := fun c hc w hw => List.mem_cons_of_mem _ (List.mem_append_left _ (List.mem_append_left _ (List.mem_append_left _ (List.mem_append_left _ (List.mem_append_left _ (List.mem_append_left _ (goodIn_cat [wsX11_digit_r1, wsX11_digit_r2, wsX11_digit_r3, wsX11_digit_r4] wsX11_digit_r5 c hc w hw)))))))
set_option maxRecDepth 20000 in
theorem zbX11_digit_X11_isTablet : GoodIn wsX11_digit (Cond.code yX11_isTablet cX11_isTablet 2 (some .boolean) :: [.fieldLink RX11 90 "ClayAccounts" "tabletCount" "I"]) := goodIn_k _ cks_X11_digit ck_X11_digit [(0, 11), (0, 12)] rfl (by decide +kernel)
set_option maxRecDepth 20000 in
theorem ggX11_digit_X11_isTablet : GoodIn wsX11_digit wsX11_isTablet := (goodIn_ca zbX11_digit_X11_isTablet (goodIn_sub in_X11_digit_X11 zgw_X11))
set_option maxRecDepth 20000 in
theorem gX11_digit_X11_isTablet : GoodIn wsX11_digit (wsV RX11 193 RX11 yX11_isTablet wsX11_isTablet) := goodIn_app (goodIn_of _ (by decide +kernel)) ggX11_digit_X11_isTablet
theorem in_X11_digit_X1 : ∀ w ∈ wsX10, w ∈ wsX11_digit := fun _ h => List.mem_cons_of_mem _ (List.mem_append_left _ (List.mem_append_left _ (List.mem_append_left _ (List.mem_append_right _ h))))
theorem in_X11_digit_X2 : ∀ w ∈ wsX20, w ∈ wsX11_digit := fun _ h => List.mem_cons_of_mem _ (List.mem_append_left _ (List.mem_append_right _ h))
theorem in_X11_digit_X4 : ∀ w ∈ wsX40, w ∈ wsX11_digit := fun _ h => List.mem_cons_of_mem _ (List.mem_append_left _ (List.mem_append_left _ (List.mem_append_right _ h)))
theorem in_X11_digit_X5 : ∀ w ∈ wsX50, w ∈ wsX11_digit := fun _ h => List.mem_cons_of_mem _ (List.mem_append_left _ (List.mem_append_left _ (List.mem_append_left _ (List.mem_append_left _ (List.mem_append_right _ h)))))
set_option maxRecDepth 20000 in
theorem zbX11_digit_X11_solved_0 : GoodIn wsX11_digit [Cond.code yX11_solved cX11_solved 3 (some (.object "ClayAccounts$Tablet"))] := goodIn_k _ cks_X11_digit ck_X11_digit [(0, 16)] rfl (by decide +kernel)
set_option maxRecDepth 20000 in
theorem zbX11_digit_X11_solved_1 : GoodIn wsX11_digit wsX11_solved_r1 := goodIn_k _ cks_X11_digit ck_X11_digit [(0, 2), (0, 17), (0, 18), (0, 19), (0, 20), (0, 21), (0, 22), (0, 23), (1, 0), (1, 1), (1, 2), (1, 3), (1, 4), (1, 5), (1, 6), (1, 7), (1, 8), (1, 9), (1, 10), (1, 11), (1, 12), (1, 13), (1, 14), (1, 15)] rfl (by decide +kernel)
set_option maxRecDepth 20000 in
theorem zbX11_digit_X11_solved_2 : GoodIn wsX11_digit wsX11_solved_r2 := goodIn_k _ cks_X11_digit ck_X11_digit [(1, 16), (1, 17), (1, 18), (1, 19), (1, 20), (1, 21), (1, 22), (1, 23), (2, 0), (2, 1), (2, 2), (2, 3), (2, 4), (2, 5), (2, 6), (2, 7), (2, 8), (2, 9), (2, 10), (2, 11), (2, 12), (2, 13), (2, 14), (2, 15)] rfl (by decide +kernel)
set_option maxRecDepth 20000 in
theorem zbX11_digit_X11_solved_3 : GoodIn wsX11_digit wsX11_solved_r3 := goodIn_k _ cks_X11_digit ck_X11_digit [(2, 16), (2, 17), (2, 18), (2, 19), (2, 20), (2, 21), (2, 22), (2, 23), (3, 0), (3, 1), (3, 2), (3, 3), (3, 4), (3, 5), (3, 6), (3, 7), (3, 8), (3, 9), (3, 10), (3, 11), (3, 12), (3, 13), (3, 14), (3, 15)] rfl (by decide +kernel)
set_option maxRecDepth 20000 in
theorem zbX11_digit_X11_solved_4 : GoodIn wsX11_digit wsX11_solved_r4 := goodIn_k _ cks_X11_digit ck_X11_digit [(3, 16), (3, 17), (3, 18), (3, 19), (3, 20), (3, 21), (3, 22), (3, 23), (4, 0), (4, 1), (4, 2), (4, 3), (4, 4), (4, 5)] rfl (by decide +kernel)
set_option maxRecDepth 20000 in
theorem ggX11_digit_X11_solved : GoodIn wsX11_digit wsX11_solved := (goodIn_ca (goodIn_ca (goodIn_ca (goodIn_ca (goodIn_ca (goodIn_cc zbX11_digit_X11_solved_0 (goodIn_app zbX11_digit_X11_solved_1 (goodIn_app zbX11_digit_X11_solved_2 (goodIn_app zbX11_digit_X11_solved_3 zbX11_digit_X11_solved_4)))) (goodIn_sub in_X11_digit_X11 zgw_X11)) (goodIn_sub in_X11_digit_X5 zgw_X5)) (goodIn_sub in_X11_digit_X4 zgw_X4)) (goodIn_sub in_X11_digit_X2 zgw_X2)) (goodIn_sub in_X11_digit_X1 zgw_X1))
set_option maxRecDepth 20000 in
theorem gX11_digit_X11_solved : GoodIn wsX11_digit (wsV RX11 199 RX11 yX11_solved wsX11_solved) := goodIn_app (goodIn_of _ (by decide +kernel)) ggX11_digit_X11_solved
theorem in_X11_wrong_X11 : ∀ w ∈ wsX110, w ∈ wsX11_wrong := fun _ h => List.mem_cons_of_mem _ (List.mem_append_left _ (List.mem_append_left _ (List.mem_append_left _ (List.mem_append_right _ h))))
def cks_X11_wrong : List (List Cond) := [wsX11_wrong_r1, wsX11_wrong_r2, wsX11_wrong_r3, wsX11_wrong_r4, wsX11_wrong_r5]
theorem ck_X11_wrong : ∀ c ∈ cks_X11_wrong, ∀ w ∈ c, w ∈ wsX11_wrong := fun c hc w hw => List.mem_cons_of_mem _ (List.mem_append_left _ (List.mem_append_left _ (List.mem_append_left _ (List.mem_append_left _ (List.mem_append_left _ (goodIn_cat [wsX11_wrong_r1, wsX11_wrong_r2, wsX11_wrong_r3, wsX11_wrong_r4] wsX11_wrong_r5 c hc w hw))))))
set_option maxRecDepth 20000 in
theorem zbX11_wrong_X11_isTablet : GoodIn wsX11_wrong (Cond.code yX11_isTablet cX11_isTablet 2 (some .boolean) :: [.fieldLink RX11 90 "ClayAccounts" "tabletCount" "I"]) := goodIn_k _ cks_X11_wrong ck_X11_wrong [(0, 5), (0, 6)] rfl (by decide +kernel)
set_option maxRecDepth 20000 in
theorem ggX11_wrong_X11_isTablet : GoodIn wsX11_wrong wsX11_isTablet := (goodIn_ca zbX11_wrong_X11_isTablet (goodIn_sub in_X11_wrong_X11 zgw_X11))
set_option maxRecDepth 20000 in
theorem gX11_wrong_X11_isTablet : GoodIn wsX11_wrong (wsV RX11 193 RX11 yX11_isTablet wsX11_isTablet) := goodIn_app (goodIn_of _ (by decide +kernel)) ggX11_wrong_X11_isTablet
theorem in_X11_wrong_X1 : ∀ w ∈ wsX10, w ∈ wsX11_wrong := fun _ h => List.mem_cons_of_mem _ (List.mem_append_right _ h)
theorem in_X11_wrong_X2 : ∀ w ∈ wsX20, w ∈ wsX11_wrong := fun _ h => List.mem_cons_of_mem _ (List.mem_append_left _ (List.mem_append_right _ h))
theorem in_X11_wrong_X4 : ∀ w ∈ wsX40, w ∈ wsX11_wrong := fun _ h => List.mem_cons_of_mem _ (List.mem_append_left _ (List.mem_append_left _ (List.mem_append_right _ h)))
theorem in_X11_wrong_X5 : ∀ w ∈ wsX50, w ∈ wsX11_wrong := fun _ h => List.mem_cons_of_mem _ (List.mem_append_left _ (List.mem_append_left _ (List.mem_append_left _ (List.mem_append_left _ (List.mem_append_right _ h)))))
set_option maxRecDepth 20000 in
theorem zbX11_wrong_X11_solved_0 : GoodIn wsX11_wrong [Cond.code yX11_solved cX11_solved 3 (some (.object "ClayAccounts$Tablet"))] := goodIn_k _ cks_X11_wrong ck_X11_wrong [(0, 10)] rfl (by decide +kernel)
set_option maxRecDepth 20000 in
theorem zbX11_wrong_X11_solved_1 : GoodIn wsX11_wrong wsX11_solved_r1 := goodIn_k _ cks_X11_wrong ck_X11_wrong [(0, 11), (0, 12), (0, 13), (0, 14), (0, 15), (0, 16), (0, 17), (0, 18), (0, 19), (0, 20), (0, 21), (0, 22), (0, 23), (1, 0), (1, 1), (1, 2), (1, 3), (1, 4), (1, 5), (1, 6), (1, 7), (1, 8), (1, 9), (1, 10)] rfl (by decide +kernel)
set_option maxRecDepth 20000 in
theorem zbX11_wrong_X11_solved_2 : GoodIn wsX11_wrong wsX11_solved_r2 := goodIn_k _ cks_X11_wrong ck_X11_wrong [(1, 11), (1, 12), (1, 13), (1, 14), (1, 15), (1, 16), (1, 17), (1, 18), (1, 19), (1, 20), (1, 21), (1, 22), (1, 23), (2, 0), (2, 1), (2, 2), (2, 3), (2, 4), (2, 5), (2, 6), (2, 7), (2, 8), (2, 9), (2, 10)] rfl (by decide +kernel)
set_option maxRecDepth 20000 in
theorem zbX11_wrong_X11_solved_3 : GoodIn wsX11_wrong wsX11_solved_r3 := goodIn_k _ cks_X11_wrong ck_X11_wrong [(2, 11), (2, 12), (2, 13), (2, 14), (2, 15), (2, 16), (2, 17), (2, 18), (2, 19), (2, 20), (2, 21), (2, 22), (2, 23), (3, 0), (3, 1), (3, 2), (3, 3), (3, 4), (3, 5), (3, 6), (3, 7), (3, 8), (3, 9), (3, 10)] rfl (by decide +kernel)
set_option maxRecDepth 20000 in
theorem zbX11_wrong_X11_solved_4 : GoodIn wsX11_wrong wsX11_solved_r4 := goodIn_k _ cks_X11_wrong ck_X11_wrong [(3, 11), (3, 12), (3, 13), (3, 14), (3, 15), (3, 16), (3, 17), (3, 18), (3, 19), (3, 20), (3, 21), (3, 22), (3, 23), (4, 0)] rfl (by decide +kernel)
set_option maxRecDepth 20000 in
theorem ggX11_wrong_X11_solved : GoodIn wsX11_wrong wsX11_solved := (goodIn_ca (goodIn_ca (goodIn_ca (goodIn_ca (goodIn_ca (goodIn_cc zbX11_wrong_X11_solved_0 (goodIn_app zbX11_wrong_X11_solved_1 (goodIn_app zbX11_wrong_X11_solved_2 (goodIn_app zbX11_wrong_X11_solved_3 zbX11_wrong_X11_solved_4)))) (goodIn_sub in_X11_wrong_X11 zgw_X11)) (goodIn_sub in_X11_wrong_X5 zgw_X5)) (goodIn_sub in_X11_wrong_X4 zgw_X4)) (goodIn_sub in_X11_wrong_X2 zgw_X2)) (goodIn_sub in_X11_wrong_X1 zgw_X1))
set_option maxRecDepth 20000 in
theorem gX11_wrong_X11_solved : GoodIn wsX11_wrong (wsV RX11 199 RX11 yX11_solved wsX11_solved) := goodIn_app (goodIn_of _ (by decide +kernel)) ggX11_wrong_X11_solved
def cks_X11_fragment : List (List Cond) := [wsX11_fragment_r1, wsX11_fragment_r2]
theorem ck_X11_fragment : ∀ c ∈ cks_X11_fragment, ∀ w ∈ c, w ∈ wsX11_fragment := fun c hc w hw => List.mem_cons_of_mem _ (List.mem_append_left _ (List.mem_append_left _ (List.mem_append_left _ (goodIn_cat [wsX11_fragment_r1] wsX11_fragment_r2 c hc w hw))))
set_option maxRecDepth 20000 in
theorem zbX11_fragment_X11_isEdge : GoodIn wsX11_fragment (Cond.code yX11_isEdge cX11_isEdge 1 (some .boolean) :: [.constant RX11 263 (99999999)]) := goodIn_k _ cks_X11_fragment ck_X11_fragment [(0, 7), (0, 8)] rfl (by decide +kernel)
set_option maxRecDepth 20000 in
theorem ggX11_fragment_X11_isEdge : GoodIn wsX11_fragment wsX11_isEdge := zbX11_fragment_X11_isEdge
set_option maxRecDepth 20000 in
theorem gX11_fragment_X11_isEdge : GoodIn wsX11_fragment (va_wsS RX11 227 yX11_isEdge wsX11_isEdge) := goodIn_app (goodIn_of _ (by decide +kernel)) ggX11_fragment_X11_isEdge
theorem in_X11_fragment_X0 : ∀ w ∈ wsX00, w ∈ wsX11_fragment := fun _ h => List.mem_cons_of_mem _ (List.mem_append_right _ h)
theorem in_X11_fragment_X7 : ∀ w ∈ wsX70, w ∈ wsX11_fragment := fun _ h => List.mem_cons_of_mem _ (List.mem_append_left _ (List.mem_append_right _ h))
set_option maxRecDepth 20000 in
theorem zbX11_fragment_X0_take : GoodIn wsX11_fragment (Cond.code yX0_take cX0_take 6 none :: [.fieldLink RX0 14 "ClayAccounts$Fragment" "text" "LClayAccounts$Text;", .fieldLink RX0 23 "ClayAccounts$Fragment" "rowCount" "I", .fieldLink RX0 27 "ClayAccounts$Text" "size" "I", .fieldLink RX0 37 "ClayAccounts$Fragment" "left" "I", .fieldLink RX0 40 "ClayAccounts$Fragment" "right" "I", .methodLink RX0 20 yX7_clear, .instanceMethod yX7_clear, .selects RX7 yX7_clear yX7_clear, .initialized RX7, .code yX7_clear cX7_clear 1 none, .fieldLink RX7 21 "ClayAccounts$Text" "size" "I", .methodLink RX0 30 yX7_byteAt, .instanceMethod yX7_byteAt, .selects RX7 yX7_byteAt yX7_byteAt, .code yX7_byteAt cX7_byteAt 2 (some .int), .fieldLink RX7 15 "ClayAccounts$Text" "bytes" "[B", .methodLink RX0 34 yX7_put, .instanceMethod yX7_put, .selects RX7 yX7_put yX7_put, .code yX7_put cX7_put 2 none]) := goodIn_k _ cks_X11_fragment ck_X11_fragment [(0, 13), (0, 14), (0, 15), (0, 16), (0, 17), (0, 18), (0, 19), (0, 20), (0, 21), (0, 22), (0, 23), (1, 0), (1, 1), (1, 2), (1, 3), (1, 4), (1, 5), (1, 6), (1, 7), (1, 8), (1, 9)] rfl (by decide +kernel)
set_option maxRecDepth 20000 in
theorem ggX11_fragment_X0_take : GoodIn wsX11_fragment wsX0_take := (goodIn_ca (goodIn_ca zbX11_fragment_X0_take (goodIn_sub in_X11_fragment_X0 zgw_X0)) (goodIn_sub in_X11_fragment_X7 zgw_X7))
set_option maxRecDepth 20000 in
theorem gX11_fragment_X0_take : GoodIn wsX11_fragment (wsV RX11 230 RX0 yX0_take wsX0_take) := goodIn_app (goodIn_of _ (by decide +kernel)) ggX11_fragment_X0_take
set_option maxRecDepth 20000 in
theorem zbX11_fragment_X7_clear : GoodIn wsX11_fragment (Cond.code yX7_clear cX7_clear 1 none :: [.fieldLink RX7 21 "ClayAccounts$Text" "size" "I"]) := goodIn_k _ cks_X11_fragment ck_X11_fragment [(0, 23), (1, 0)] rfl (by decide +kernel)
set_option maxRecDepth 20000 in
theorem ggX11_fragment_X7_clear : GoodIn wsX11_fragment wsX7_clear := (goodIn_ca zbX11_fragment_X7_clear (goodIn_sub in_X11_fragment_X7 zgw_X7))
set_option maxRecDepth 20000 in
theorem gX11_fragment_X7_clear : GoodIn wsX11_fragment (wsV RX11 110 RX7 yX7_clear wsX7_clear) := goodIn_app (goodIn_of _ (by decide +kernel)) ggX11_fragment_X7_clear
theorem in_X11_rows_X11 : ∀ w ∈ wsX110, w ∈ wsX11_rows := fun _ h => List.mem_cons_of_mem _ (List.mem_append_left _ (List.mem_append_right _ h))
set_option maxRecDepth 20000 in
theorem zbX11_rows_X11_isFragment : GoodIn wsX11_rows (Cond.code yX11_isFragment cX11_isFragment 2 (some .boolean) :: [.fieldLink RX11 94 "ClayAccounts" "fragmentCount" "I"]) := goodIn_r _ [7, 8] rfl (by decide +kernel)
set_option maxRecDepth 20000 in
theorem ggX11_rows_X11_isFragment : GoodIn wsX11_rows wsX11_isFragment := (goodIn_ca zbX11_rows_X11_isFragment (goodIn_sub in_X11_rows_X11 zgw_X11))
set_option maxRecDepth 20000 in
theorem gX11_rows_X11_isFragment : GoodIn wsX11_rows (wsV RX11 233 RX11 yX11_isFragment wsX11_isFragment) := goodIn_app (goodIn_of _ (by decide +kernel)) ggX11_rows_X11_isFragment
theorem in_X11_join_X11 : ∀ w ∈ wsX110, w ∈ wsX11_join := fun _ h => List.mem_cons_of_mem _ (List.mem_append_left _ (List.mem_append_left _ (List.mem_append_left _ (List.mem_append_left _ (List.mem_append_left _ (List.mem_append_left _ (List.mem_append_left _ (List.mem_append_left _ (List.mem_append_left _ (List.mem_append_right _ h))))))))))
def cks_X11_join : List (List Cond) := [wsX11_join_r1, wsX11_join_r2, wsX11_join_r3, wsX11_join_r4, wsX11_join_r5, wsX11_join_r6, wsX11_join_r7, wsX11_join_r8, wsX11_join_r9, wsX11_join_r10, wsX11_join_r11, wsX11_join_r12, wsX11_join_r13, wsX11_join_r14]
theorem ck_X11_join : ∀ c ∈ cks_X11_join, ∀ w ∈ c, w ∈ wsX11_join := fun c hc w hw => List.mem_cons_of_mem _ (List.mem_append_left _ (List.mem_append_left _ (List.mem_append_left _ (List.mem_append_left _ (List.mem_append_left _ (List.mem_append_left _ (List.mem_append_left _ (List.mem_append_left _ (List.mem_append_left _ (List.mem_append_left _ (goodIn_cat [wsX11_join_r1, wsX11_join_r2, wsX11_join_r3, wsX11_join_r4, wsX11_join_r5, wsX11_join_r6, wsX11_join_r7, wsX11_join_r8, wsX11_join_r9, wsX11_join_r10, wsX11_join_r11, wsX11_join_r12, wsX11_join_r13] wsX11_join_r14 c hc w hw)))))))))))
set_option maxRecDepth 20000 in
theorem zbX11_join_X11_isFragment : GoodIn wsX11_join (Cond.code yX11_isFragment cX11_isFragment 2 (some .boolean) :: [.fieldLink RX11 94 "ClayAccounts" "fragmentCount" "I"]) := goodIn_k _ cks_X11_join ck_X11_join [(0, 4), (0, 5)] rfl (by decide +kernel)
set_option maxRecDepth 20000 in
theorem ggX11_join_X11_isFragment : GoodIn wsX11_join wsX11_isFragment := (goodIn_ca zbX11_join_X11_isFragment (goodIn_sub in_X11_join_X11 zgw_X11))
set_option maxRecDepth 20000 in
theorem gX11_join_X11_isFragment : GoodIn wsX11_join (wsV RX11 233 RX11 yX11_isFragment wsX11_isFragment) := goodIn_app (goodIn_of _ (by decide +kernel)) ggX11_join_X11_isFragment
theorem in_X11_join_X0 : ∀ w ∈ wsX00, w ∈ wsX11_join := fun _ h => List.mem_cons_of_mem _ (List.mem_append_left _ (List.mem_append_left _ (List.mem_append_left _ (List.mem_append_left _ (List.mem_append_left _ (List.mem_append_left _ (List.mem_append_left _ (List.mem_append_right _ h))))))))
theorem in_X11_join_X1 : ∀ w ∈ wsX10, w ∈ wsX11_join := fun _ h => List.mem_cons_of_mem _ (List.mem_append_left _ (List.mem_append_right _ h))
theorem in_X11_join_X2 : ∀ w ∈ wsX20, w ∈ wsX11_join := fun _ h => List.mem_cons_of_mem _ (List.mem_append_left _ (List.mem_append_left _ (List.mem_append_left _ (List.mem_append_right _ h))))
theorem in_X11_join_X4 : ∀ w ∈ wsX40, w ∈ wsX11_join := fun _ h => List.mem_cons_of_mem _ (List.mem_append_right _ h)
theorem in_X11_join_X5 : ∀ w ∈ wsX50, w ∈ wsX11_join := fun _ h => List.mem_cons_of_mem _ (List.mem_append_left _ (List.mem_append_left _ (List.mem_append_left _ (List.mem_append_left _ (List.mem_append_left _ (List.mem_append_left _ (List.mem_append_left _ (List.mem_append_left _ (List.mem_append_right _ h)))))))))
theorem in_X11_join_X6 : ∀ w ∈ wsX60, w ∈ wsX11_join := fun _ h => List.mem_cons_of_mem _ (List.mem_append_left _ (List.mem_append_left _ (List.mem_append_left _ (List.mem_append_left _ (List.mem_append_left _ (List.mem_append_right _ h))))))
theorem in_X11_join_X7 : ∀ w ∈ wsX70, w ∈ wsX11_join := fun _ h => List.mem_cons_of_mem _ (List.mem_append_left _ (List.mem_append_left _ (List.mem_append_left _ (List.mem_append_left _ (List.mem_append_left _ (List.mem_append_left _ (List.mem_append_right _ h)))))))
theorem in_X11_join_X8 : ∀ w ∈ wsX80, w ∈ wsX11_join := fun _ h => List.mem_cons_of_mem _ (List.mem_append_left _ (List.mem_append_left _ (List.mem_append_left _ (List.mem_append_left _ (List.mem_append_right _ h)))))
theorem in_X11_join_X9 : ∀ w ∈ wsX90, w ∈ wsX11_join := fun _ h => List.mem_cons_of_mem _ (List.mem_append_left _ (List.mem_append_left _ (List.mem_append_right _ h)))
set_option maxRecDepth 20000 in
theorem zbX11_join_X11_joined_0 : GoodIn wsX11_join [Cond.code yX11_joined cX11_joined 5 (some .int)] := goodIn_k _ cks_X11_join ck_X11_join [(0, 9)] rfl (by decide +kernel)
set_option maxRecDepth 20000 in
theorem zbX11_join_X11_joined_1 : GoodIn wsX11_join wsX11_joined_r1 := goodIn_k _ cks_X11_join ck_X11_join [(0, 10), (0, 11), (0, 12), (0, 13), (0, 14), (0, 15), (0, 16), (0, 17), (0, 18), (0, 19), (0, 20), (0, 21), (0, 22), (0, 23), (1, 0), (1, 1), (1, 2), (1, 3), (1, 4), (1, 5), (1, 6), (1, 7), (1, 8), (1, 9)] rfl (by decide +kernel)
set_option maxRecDepth 20000 in
theorem zbX11_join_X11_joined_2 : GoodIn wsX11_join wsX11_joined_r2 := goodIn_k _ cks_X11_join ck_X11_join [(1, 10), (1, 11), (1, 12), (1, 13), (1, 14), (1, 15), (1, 16), (1, 17), (1, 18), (1, 19), (1, 20), (1, 21), (1, 22), (1, 23), (2, 0), (2, 1), (2, 2), (2, 3), (2, 4), (2, 5), (2, 6), (2, 7), (2, 8), (2, 9)] rfl (by decide +kernel)
set_option maxRecDepth 20000 in
theorem zbX11_join_X11_joined_3 : GoodIn wsX11_join wsX11_joined_r3 := goodIn_k _ cks_X11_join ck_X11_join [(2, 10), (2, 11), (2, 12), (2, 13), (2, 14), (2, 15), (2, 16), (2, 17), (2, 18), (2, 19), (2, 20), (2, 21), (2, 22), (2, 23), (3, 0), (3, 1), (3, 2), (3, 3), (3, 4), (3, 5), (3, 6), (3, 7), (3, 8), (3, 9)] rfl (by decide +kernel)
set_option maxRecDepth 20000 in
theorem zbX11_join_X11_joined_4 : GoodIn wsX11_join wsX11_joined_r4 := goodIn_k _ cks_X11_join ck_X11_join [(3, 10), (3, 11), (3, 12), (3, 13), (3, 14), (3, 15), (3, 16), (3, 17), (3, 18), (3, 19), (3, 20), (3, 21), (3, 22), (3, 23), (4, 0), (4, 1), (4, 2), (4, 3), (4, 4), (4, 5), (4, 6), (4, 7), (4, 8), (4, 9)] rfl (by decide +kernel)
set_option maxRecDepth 20000 in
theorem zbX11_join_X11_joined_5 : GoodIn wsX11_join wsX11_joined_r5 := goodIn_k _ cks_X11_join ck_X11_join [(4, 10), (4, 11), (4, 12), (4, 13), (4, 14), (4, 15), (4, 16), (4, 17), (4, 18), (4, 19), (4, 20), (4, 21), (4, 22), (4, 23), (5, 0), (5, 1), (5, 2), (5, 3), (5, 4), (5, 5), (5, 6), (5, 7), (5, 8), (5, 9)] rfl (by decide +kernel)
set_option maxRecDepth 20000 in
theorem zbX11_join_X11_joined_6 : GoodIn wsX11_join wsX11_joined_r6 := goodIn_k _ cks_X11_join ck_X11_join [(5, 10), (5, 11), (5, 12), (5, 13), (5, 14), (5, 15), (5, 16), (5, 17), (5, 18), (5, 19), (5, 20), (5, 21), (5, 22), (5, 23), (6, 0), (6, 1), (6, 2), (6, 3), (6, 4), (6, 5), (6, 6), (6, 7), (6, 8), (6, 9)] rfl (by decide +kernel)
set_option maxRecDepth 20000 in
theorem zbX11_join_X11_joined_7 : GoodIn wsX11_join wsX11_joined_r7 := goodIn_k _ cks_X11_join ck_X11_join [(6, 10), (6, 11), (6, 12), (6, 13), (6, 14), (6, 15), (6, 16), (6, 17), (6, 18), (6, 19), (6, 20), (6, 21), (6, 22), (6, 23), (7, 0), (7, 1), (7, 2), (7, 3), (7, 4), (7, 5), (7, 6), (7, 7), (7, 8), (7, 9)] rfl (by decide +kernel)
set_option maxRecDepth 20000 in
theorem zbX11_join_X11_joined_8 : GoodIn wsX11_join wsX11_joined_r8 := goodIn_k _ cks_X11_join ck_X11_join [(7, 10), (7, 11), (7, 12), (7, 13), (7, 14), (7, 15), (7, 16), (7, 17), (7, 18), (7, 19), (7, 20), (7, 21), (7, 22), (7, 23), (8, 0), (8, 1), (8, 2), (8, 3), (8, 4), (8, 5), (8, 6), (8, 7), (8, 8), (8, 9)] rfl (by decide +kernel)
set_option maxRecDepth 20000 in
theorem zbX11_join_X11_joined_9 : GoodIn wsX11_join wsX11_joined_r9 := goodIn_k _ cks_X11_join ck_X11_join [(8, 10), (8, 11), (8, 12), (8, 13), (8, 14), (8, 15), (8, 16), (8, 17), (8, 18), (8, 19), (8, 20), (8, 21), (8, 22), (8, 23), (9, 0), (9, 1), (9, 2), (9, 3), (9, 4), (9, 5), (9, 6), (9, 7), (9, 8), (9, 9)] rfl (by decide +kernel)
set_option maxRecDepth 20000 in
theorem zbX11_join_X11_joined_10 : GoodIn wsX11_join wsX11_joined_r10 := goodIn_k _ cks_X11_join ck_X11_join [(9, 10), (9, 11), (9, 12), (9, 13), (9, 14), (9, 15), (9, 16), (9, 17), (9, 18), (9, 19), (9, 20), (9, 21), (9, 22), (9, 23), (10, 0), (10, 1), (10, 2), (10, 3), (10, 4), (10, 5), (10, 6), (10, 7), (10, 8), (10, 9)] rfl (by decide +kernel)
set_option maxRecDepth 20000 in
theorem zbX11_join_X11_joined_11 : GoodIn wsX11_join wsX11_joined_r11 := goodIn_k _ cks_X11_join ck_X11_join [(10, 10), (10, 11), (10, 12), (10, 13), (10, 14), (10, 15), (10, 16), (10, 17), (10, 18), (10, 19), (10, 20), (10, 21), (10, 22), (10, 23), (11, 0), (11, 1), (11, 2), (11, 3), (11, 4), (11, 5), (11, 6), (11, 7), (11, 8), (11, 9)] rfl (by decide +kernel)
set_option maxRecDepth 20000 in
theorem zbX11_join_X11_joined_12 : GoodIn wsX11_join wsX11_joined_r12 := goodIn_k _ cks_X11_join ck_X11_join [(11, 10), (11, 11), (11, 12), (11, 13), (11, 14), (11, 15), (11, 16), (11, 17), (11, 18), (11, 19), (11, 20), (11, 21), (11, 22), (11, 23), (12, 0), (12, 1), (12, 2), (12, 3), (12, 4), (12, 5), (12, 6), (12, 7), (12, 8), (12, 9)] rfl (by decide +kernel)
set_option maxRecDepth 20000 in
theorem zbX11_join_X11_joined_13 : GoodIn wsX11_join wsX11_joined_r13 := goodIn_k _ cks_X11_join ck_X11_join [(12, 10), (12, 11), (12, 12), (12, 13), (12, 14), (12, 15), (12, 16), (12, 17), (12, 18), (12, 19), (12, 20), (12, 21), (12, 22), (12, 23), (13, 0), (13, 1), (13, 2), (13, 3), (13, 4), (13, 5), (13, 6), (13, 7), (13, 8)] rfl (by decide +kernel)
set_option maxRecDepth 20000 in
theorem ggX11_join_X11_joined : GoodIn wsX11_join wsX11_joined := (goodIn_ca (goodIn_ca (goodIn_ca (goodIn_ca (goodIn_ca (goodIn_ca (goodIn_ca (goodIn_ca (goodIn_ca (goodIn_ca (goodIn_cc zbX11_join_X11_joined_0 (goodIn_app zbX11_join_X11_joined_1 (goodIn_app zbX11_join_X11_joined_2 (goodIn_app zbX11_join_X11_joined_3 (goodIn_app zbX11_join_X11_joined_4 (goodIn_app zbX11_join_X11_joined_5 (goodIn_app zbX11_join_X11_joined_6 (goodIn_app zbX11_join_X11_joined_7 (goodIn_app zbX11_join_X11_joined_8 (goodIn_app zbX11_join_X11_joined_9 (goodIn_app zbX11_join_X11_joined_10 (goodIn_app zbX11_join_X11_joined_11 (goodIn_app zbX11_join_X11_joined_12 zbX11_join_X11_joined_13))))))))))))) (goodIn_sub in_X11_join_X11 zgw_X11)) (goodIn_sub in_X11_join_X5 zgw_X5)) (goodIn_sub in_X11_join_X0 zgw_X0)) (goodIn_sub in_X11_join_X7 zgw_X7)) (goodIn_sub in_X11_join_X6 zgw_X6)) (goodIn_sub in_X11_join_X8 zgw_X8)) (goodIn_sub in_X11_join_X2 zgw_X2)) (goodIn_sub in_X11_join_X9 zgw_X9)) (goodIn_sub in_X11_join_X1 zgw_X1)) (goodIn_sub in_X11_join_X4 zgw_X4))
set_option maxRecDepth 20000 in
theorem gX11_join_X11_joined : GoodIn wsX11_join (wsV RX11 239 RX11 yX11_joined wsX11_joined) := goodIn_app (goodIn_of _ (by decide +kernel)) ggX11_join_X11_joined
theorem in_X11_match_X0 : ∀ w ∈ wsX00, w ∈ wsX11_match := fun _ h => List.mem_cons_of_mem _ (List.mem_append_left _ (List.mem_append_left _ (List.mem_append_left _ (List.mem_append_left _ (List.mem_append_left _ (List.mem_append_left _ (List.mem_append_left _ (List.mem_append_right _ h))))))))
theorem in_X11_match_X1 : ∀ w ∈ wsX10, w ∈ wsX11_match := fun _ h => List.mem_cons_of_mem _ (List.mem_append_left _ (List.mem_append_right _ h))
theorem in_X11_match_X11 : ∀ w ∈ wsX110, w ∈ wsX11_match := fun _ h => List.mem_cons_of_mem _ (List.mem_append_left _ (List.mem_append_left _ (List.mem_append_left _ (List.mem_append_left _ (List.mem_append_left _ (List.mem_append_left _ (List.mem_append_left _ (List.mem_append_left _ (List.mem_append_left _ (List.mem_append_left _ (List.mem_append_right _ h)))))))))))
theorem in_X11_match_X2 : ∀ w ∈ wsX20, w ∈ wsX11_match := fun _ h => List.mem_cons_of_mem _ (List.mem_append_left _ (List.mem_append_left _ (List.mem_append_left _ (List.mem_append_right _ h))))
theorem in_X11_match_X4 : ∀ w ∈ wsX40, w ∈ wsX11_match := fun _ h => List.mem_cons_of_mem _ (List.mem_append_right _ h)
theorem in_X11_match_X5 : ∀ w ∈ wsX50, w ∈ wsX11_match := fun _ h => List.mem_cons_of_mem _ (List.mem_append_left _ (List.mem_append_left _ (List.mem_append_left _ (List.mem_append_left _ (List.mem_append_left _ (List.mem_append_left _ (List.mem_append_left _ (List.mem_append_left _ (List.mem_append_right _ h)))))))))
theorem in_X11_match_X6 : ∀ w ∈ wsX60, w ∈ wsX11_match := fun _ h => List.mem_cons_of_mem _ (List.mem_append_left _ (List.mem_append_left _ (List.mem_append_left _ (List.mem_append_left _ (List.mem_append_left _ (List.mem_append_right _ h))))))
theorem in_X11_match_X7 : ∀ w ∈ wsX70, w ∈ wsX11_match := fun _ h => List.mem_cons_of_mem _ (List.mem_append_left _ (List.mem_append_left _ (List.mem_append_left _ (List.mem_append_left _ (List.mem_append_left _ (List.mem_append_left _ (List.mem_append_right _ h)))))))
theorem in_X11_match_X8 : ∀ w ∈ wsX80, w ∈ wsX11_match := fun _ h => List.mem_cons_of_mem _ (List.mem_append_left _ (List.mem_append_left _ (List.mem_append_left _ (List.mem_append_left _ (List.mem_append_right _ h)))))
theorem in_X11_match_X9 : ∀ w ∈ wsX90, w ∈ wsX11_match := fun _ h => List.mem_cons_of_mem _ (List.mem_append_left _ (List.mem_append_left _ (List.mem_append_right _ h)))
def cks_X11_match : List (List Cond) := [wsX11_match_r1, wsX11_match_r2, wsX11_match_r3, wsX11_match_r4, wsX11_match_r5, wsX11_match_r6, wsX11_match_r7, wsX11_match_r8, wsX11_match_r9, wsX11_match_r10, wsX11_match_r11, wsX11_match_r12, wsX11_match_r13, wsX11_match_r14, wsX11_match_r15]
theorem ck_X11_match : ∀ c ∈ cks_X11_match, ∀ w ∈ c, w ∈ wsX11_match := fun c hc w hw => List.mem_cons_of_mem _ (List.mem_append_left _ (List.mem_append_left _ (List.mem_append_left _ (List.mem_append_left _ (List.mem_append_left _ (List.mem_append_left _ (List.mem_append_left _ (List.mem_append_left _ (List.mem_append_left _ (List.mem_append_left _ (List.mem_append_left _ (goodIn_cat [wsX11_match_r1, wsX11_match_r2, wsX11_match_r3, wsX11_match_r4, wsX11_match_r5, wsX11_match_r6, wsX11_match_r7, wsX11_match_r8, wsX11_match_r9, wsX11_match_r10, wsX11_match_r11, wsX11_match_r12, wsX11_match_r13, wsX11_match_r14] wsX11_match_r15 c hc w hw))))))))))))
set_option maxRecDepth 20000 in
theorem zbX11_match_X11_joined_0 : GoodIn wsX11_match [Cond.code yX11_joined cX11_joined 5 (some .int)] := goodIn_k _ cks_X11_match ck_X11_match [(0, 11)] rfl (by decide +kernel)
set_option maxRecDepth 20000 in
theorem zbX11_match_X11_joined_1 : GoodIn wsX11_match wsX11_joined_r1 := goodIn_k _ cks_X11_match ck_X11_match [(0, 12), (0, 13), (0, 14), (0, 15), (0, 16), (0, 17), (0, 18), (0, 19), (0, 20), (0, 21), (0, 22), (0, 23), (1, 0), (1, 1), (1, 2), (1, 3), (1, 4), (1, 5), (1, 6), (1, 7), (1, 8), (1, 9), (1, 10), (1, 11)] rfl (by decide +kernel)
set_option maxRecDepth 20000 in
theorem zbX11_match_X11_joined_2 : GoodIn wsX11_match wsX11_joined_r2 := goodIn_k _ cks_X11_match ck_X11_match [(1, 12), (1, 13), (1, 14), (1, 15), (1, 16), (1, 17), (1, 18), (1, 19), (1, 20), (1, 21), (1, 22), (1, 23), (2, 0), (2, 1), (2, 2), (2, 3), (2, 4), (2, 5), (2, 6), (2, 7), (2, 8), (2, 9), (2, 10), (2, 11)] rfl (by decide +kernel)
set_option maxRecDepth 20000 in
theorem zbX11_match_X11_joined_3 : GoodIn wsX11_match wsX11_joined_r3 := goodIn_k _ cks_X11_match ck_X11_match [(2, 12), (2, 13), (2, 14), (2, 15), (2, 16), (2, 17), (2, 18), (2, 19), (2, 20), (2, 21), (2, 22), (2, 23), (3, 0), (3, 1), (3, 2), (3, 3), (3, 4), (3, 5), (3, 6), (3, 7), (3, 8), (3, 9), (3, 10), (3, 11)] rfl (by decide +kernel)
set_option maxRecDepth 20000 in
theorem zbX11_match_X11_joined_4 : GoodIn wsX11_match wsX11_joined_r4 := goodIn_k _ cks_X11_match ck_X11_match [(3, 12), (3, 13), (3, 14), (3, 15), (3, 16), (3, 17), (3, 18), (0, 4), (3, 19), (3, 20), (3, 21), (3, 22), (3, 23), (4, 0), (4, 1), (4, 2), (4, 3), (4, 4), (4, 5), (4, 6), (4, 7), (4, 8), (4, 9), (4, 10)] rfl (by decide +kernel)
set_option maxRecDepth 20000 in
theorem zbX11_match_X11_joined_5 : GoodIn wsX11_match wsX11_joined_r5 := goodIn_k _ cks_X11_match ck_X11_match [(4, 11), (4, 12), (4, 13), (4, 14), (4, 15), (4, 16), (4, 17), (4, 18), (4, 19), (4, 20), (4, 21), (4, 22), (4, 23), (5, 0), (5, 1), (5, 2), (5, 3), (5, 4), (5, 5), (5, 6), (5, 7), (5, 8), (5, 9), (5, 10)] rfl (by decide +kernel)
set_option maxRecDepth 20000 in
theorem zbX11_match_X11_joined_6 : GoodIn wsX11_match wsX11_joined_r6 := goodIn_k _ cks_X11_match ck_X11_match [(5, 11), (5, 12), (5, 13), (5, 14), (5, 15), (5, 16), (5, 17), (5, 18), (5, 19), (5, 20), (5, 21), (5, 22), (5, 23), (6, 0), (6, 1), (6, 2), (6, 3), (6, 4), (6, 5), (6, 6), (6, 7), (6, 8), (6, 9), (6, 10)] rfl (by decide +kernel)
set_option maxRecDepth 20000 in
theorem zbX11_match_X11_joined_7 : GoodIn wsX11_match wsX11_joined_r7 := goodIn_k _ cks_X11_match ck_X11_match [(6, 11), (6, 12), (6, 13), (6, 14), (6, 15), (6, 16), (6, 17), (6, 18), (6, 19), (6, 20), (6, 21), (6, 22), (6, 23), (7, 0), (7, 1), (7, 2), (7, 3), (7, 4), (7, 5), (7, 6), (7, 7), (7, 8), (7, 9), (7, 10)] rfl (by decide +kernel)
set_option maxRecDepth 20000 in
theorem zbX11_match_X11_joined_8 : GoodIn wsX11_match wsX11_joined_r8 := goodIn_k _ cks_X11_match ck_X11_match [(7, 11), (7, 12), (7, 13), (7, 14), (7, 15), (7, 16), (7, 17), (7, 18), (7, 19), (7, 20), (7, 21), (7, 22), (7, 23), (8, 0), (8, 1), (8, 2), (8, 3), (8, 4), (8, 5), (8, 6), (8, 7), (8, 8), (8, 9), (8, 10)] rfl (by decide +kernel)
set_option maxRecDepth 20000 in
theorem zbX11_match_X11_joined_9 : GoodIn wsX11_match wsX11_joined_r9 := goodIn_k _ cks_X11_match ck_X11_match [(8, 11), (8, 12), (8, 13), (8, 14), (8, 15), (8, 16), (8, 17), (8, 18), (8, 19), (8, 20), (8, 21), (8, 22), (8, 23), (9, 0), (9, 1), (9, 2), (9, 3), (9, 4), (9, 5), (9, 6), (9, 7), (9, 8), (9, 9), (9, 10)] rfl (by decide +kernel)
set_option maxRecDepth 20000 in
theorem zbX11_match_X11_joined_10 : GoodIn wsX11_match wsX11_joined_r10 := goodIn_k _ cks_X11_match ck_X11_match [(9, 11), (9, 12), (9, 13), (9, 14), (9, 15), (9, 16), (9, 17), (9, 18), (9, 19), (9, 20), (9, 21), (9, 22), (9, 23), (10, 0), (10, 1), (10, 2), (10, 3), (10, 4), (10, 5), (10, 6), (10, 7), (10, 8), (10, 9), (10, 10)] rfl (by decide +kernel)
set_option maxRecDepth 20000 in
theorem zbX11_match_X11_joined_11 : GoodIn wsX11_match wsX11_joined_r11 := goodIn_k _ cks_X11_match ck_X11_match [(10, 11), (10, 12), (10, 13), (10, 14), (10, 15), (10, 16), (10, 17), (10, 18), (10, 19), (10, 20), (10, 21), (10, 22), (10, 23), (11, 0), (11, 1), (11, 2), (11, 3), (11, 4), (11, 5), (11, 6), (11, 7), (11, 8), (11, 9), (11, 10)] rfl (by decide +kernel)
set_option maxRecDepth 20000 in
theorem zbX11_match_X11_joined_12 : GoodIn wsX11_match wsX11_joined_r12 := goodIn_k _ cks_X11_match ck_X11_match [(11, 11), (11, 12), (11, 13), (11, 14), (11, 15), (11, 16), (11, 17), (11, 18), (11, 19), (11, 20), (11, 21), (11, 22), (11, 23), (12, 0), (12, 1), (12, 2), (12, 3), (12, 4), (12, 5), (12, 6), (12, 7), (12, 8), (12, 9), (12, 10)] rfl (by decide +kernel)
set_option maxRecDepth 20000 in
theorem zbX11_match_X11_joined_13 : GoodIn wsX11_match wsX11_joined_r13 := goodIn_k _ cks_X11_match ck_X11_match [(12, 11), (12, 12), (12, 13), (12, 14), (12, 15), (12, 16), (12, 17), (12, 18), (12, 19), (12, 20), (12, 21), (12, 22), (12, 23), (13, 0), (13, 1), (13, 2), (13, 3), (13, 4), (13, 5), (13, 6), (13, 7), (0, 3), (0, 5)] rfl (by decide +kernel)
set_option maxRecDepth 20000 in
theorem ggX11_match_X11_joined : GoodIn wsX11_match wsX11_joined := (goodIn_ca (goodIn_ca (goodIn_ca (goodIn_ca (goodIn_ca (goodIn_ca (goodIn_ca (goodIn_ca (goodIn_ca (goodIn_ca (goodIn_cc zbX11_match_X11_joined_0 (goodIn_app zbX11_match_X11_joined_1 (goodIn_app zbX11_match_X11_joined_2 (goodIn_app zbX11_match_X11_joined_3 (goodIn_app zbX11_match_X11_joined_4 (goodIn_app zbX11_match_X11_joined_5 (goodIn_app zbX11_match_X11_joined_6 (goodIn_app zbX11_match_X11_joined_7 (goodIn_app zbX11_match_X11_joined_8 (goodIn_app zbX11_match_X11_joined_9 (goodIn_app zbX11_match_X11_joined_10 (goodIn_app zbX11_match_X11_joined_11 (goodIn_app zbX11_match_X11_joined_12 zbX11_match_X11_joined_13))))))))))))) (goodIn_sub in_X11_match_X11 zgw_X11)) (goodIn_sub in_X11_match_X5 zgw_X5)) (goodIn_sub in_X11_match_X0 zgw_X0)) (goodIn_sub in_X11_match_X7 zgw_X7)) (goodIn_sub in_X11_match_X6 zgw_X6)) (goodIn_sub in_X11_match_X8 zgw_X8)) (goodIn_sub in_X11_match_X2 zgw_X2)) (goodIn_sub in_X11_match_X9 zgw_X9)) (goodIn_sub in_X11_match_X1 zgw_X1)) (goodIn_sub in_X11_match_X4 zgw_X4))
set_option maxRecDepth 20000 in
theorem gX11_match_X11_joined : GoodIn wsX11_match (wsV RX11 239 RX11 yX11_joined wsX11_joined) := goodIn_app (goodIn_of _ (by decide +kernel)) ggX11_match_X11_joined
theorem in_X11_match_X3 : ∀ w ∈ wsX30, w ∈ wsX11_match := fun _ h => List.mem_cons_of_mem _ (List.mem_append_left _ (List.mem_append_left _ (List.mem_append_left _ (List.mem_append_left _ (List.mem_append_left _ (List.mem_append_left _ (List.mem_append_left _ (List.mem_append_left _ (List.mem_append_left _ (List.mem_append_right _ h))))))))))
set_option maxRecDepth 20000 in
theorem zbX11_match_X3_tell : GoodIn wsX11_match (Cond.code yX3_tell cX3_tell 5 none :: [.fieldLink RX3 15 "ClayAccounts$Matcher" "weights" "[I"]) := goodIn_k _ cks_X11_match ck_X11_match [(13, 12), (13, 13)] rfl (by decide +kernel)
set_option maxRecDepth 20000 in
theorem ggX11_match_X3_tell : GoodIn wsX11_match wsX3_tell := (goodIn_ca zbX11_match_X3_tell (goodIn_sub in_X11_match_X3 zgw_X3))
set_option maxRecDepth 20000 in
theorem gX11_match_X3_tell : GoodIn wsX11_match (wsV RX11 247 RX3 yX3_tell wsX3_tell) := goodIn_app (goodIn_of _ (by decide +kernel)) ggX11_match_X3_tell
set_option maxRecDepth 20000 in
theorem zbX11_match_X3_pairUp_0 : GoodIn wsX11_match [Cond.code yX3_pairUp cX3_pairUp 6 none] := goodIn_k _ cks_X11_match ck_X11_match [(13, 17)] rfl (by decide +kernel)
set_option maxRecDepth 20000 in
theorem zbX11_match_X3_pairUp_1 : GoodIn wsX11_match wsX3_pairUp_r1 := goodIn_k _ cks_X11_match ck_X11_match [(13, 18), (3, 18), (0, 4), (3, 19), (13, 19), (13, 20), (13, 21), (13, 22), (13, 11), (13, 23), (14, 0), (14, 1), (14, 2), (14, 3), (14, 4), (14, 5), (14, 6), (14, 7), (14, 8), (14, 9), (14, 10), (13, 13), (14, 11), (0, 3)] rfl (by decide +kernel)
set_option maxRecDepth 20000 in
theorem zbX11_match_X3_pairUp_2 : GoodIn wsX11_match wsX3_pairUp_r2 := goodIn_k _ cks_X11_match ck_X11_match [(0, 5), (14, 12), (14, 13), (14, 14), (14, 15)] rfl (by decide +kernel)
set_option maxRecDepth 20000 in
theorem ggX11_match_X3_pairUp : GoodIn wsX11_match wsX3_pairUp := (goodIn_ca (goodIn_cc zbX11_match_X3_pairUp_0 (goodIn_app zbX11_match_X3_pairUp_1 zbX11_match_X3_pairUp_2)) (goodIn_sub in_X11_match_X3 zgw_X3))
set_option maxRecDepth 20000 in
theorem gX11_match_X3_pairUp : GoodIn wsX11_match (wsV RX11 251 RX3 yX3_pairUp wsX3_pairUp) := goodIn_app (goodIn_of _ (by decide +kernel)) ggX11_match_X3_pairUp
theorem in_X11_matched_X11 : ∀ w ∈ wsX110, w ∈ wsX11_matched := fun _ h => List.mem_cons_of_mem _ (List.mem_append_left _ (List.mem_append_right _ h))
set_option maxRecDepth 20000 in
theorem zbX11_matched_X11_isFragment : GoodIn wsX11_matched (Cond.code yX11_isFragment cX11_isFragment 2 (some .boolean) :: [.fieldLink RX11 94 "ClayAccounts" "fragmentCount" "I"]) := goodIn_r _ [7, 8] rfl (by decide +kernel)
set_option maxRecDepth 20000 in
theorem ggX11_matched_X11_isFragment : GoodIn wsX11_matched wsX11_isFragment := (goodIn_ca zbX11_matched_X11_isFragment (goodIn_sub in_X11_matched_X11 zgw_X11))
set_option maxRecDepth 20000 in
theorem gX11_matched_X11_isFragment : GoodIn wsX11_matched (wsV RX11 233 RX11 yX11_isFragment wsX11_isFragment) := goodIn_app (goodIn_of _ (by decide +kernel)) ggX11_matched_X11_isFragment
theorem in_X11_isLine_X11 : ∀ w ∈ wsX110, w ∈ wsX11_isLine := fun _ h => List.mem_cons_of_mem _ (List.mem_append_left _ (List.mem_append_right _ h))
set_option maxRecDepth 20000 in
theorem zbX11_isLine_X11_isTablet : GoodIn wsX11_isLine (Cond.code yX11_isTablet cX11_isTablet 2 (some .boolean) :: [.fieldLink RX11 90 "ClayAccounts" "tabletCount" "I"]) := goodIn_r _ [7, 8] rfl (by decide +kernel)
set_option maxRecDepth 20000 in
theorem ggX11_isLine_X11_isTablet : GoodIn wsX11_isLine wsX11_isTablet := (goodIn_ca zbX11_isLine_X11_isTablet (goodIn_sub in_X11_isLine_X11 zgw_X11))
set_option maxRecDepth 20000 in
theorem gX11_isLine_X11_isTablet : GoodIn wsX11_isLine (wsV RX11 193 RX11 yX11_isTablet wsX11_isTablet) := goodIn_app (goodIn_of _ (by decide +kernel)) ggX11_isLine_X11_isTablet
theorem in_X11_solved_X1 : ∀ w ∈ wsX10, w ∈ wsX11_solved := fun _ h => List.mem_cons_of_mem _ (List.mem_append_right _ h)
theorem in_X11_solved_X2 : ∀ w ∈ wsX20, w ∈ wsX11_solved := fun _ h => List.mem_cons_of_mem _ (List.mem_append_left _ (List.mem_append_right _ h))
theorem in_X11_solved_X4 : ∀ w ∈ wsX40, w ∈ wsX11_solved := fun _ h => List.mem_cons_of_mem _ (List.mem_append_left _ (List.mem_append_left _ (List.mem_append_right _ h)))
theorem in_X11_solved_X5 : ∀ w ∈ wsX50, w ∈ wsX11_solved := fun _ h => List.mem_cons_of_mem _ (List.mem_append_left _ (List.mem_append_left _ (List.mem_append_left _ (List.mem_append_right _ h))))
def cks_X11_solved : List (List Cond) := [wsX11_solved_r1, wsX11_solved_r2, wsX11_solved_r3, wsX11_solved_r4]
theorem ck_X11_solved : ∀ c ∈ cks_X11_solved, ∀ w ∈ c, w ∈ wsX11_solved := fun c hc w hw => List.mem_cons_of_mem _ (List.mem_append_left _ (List.mem_append_left _ (List.mem_append_left _ (List.mem_append_left _ (List.mem_append_left _ (goodIn_cat [wsX11_solved_r1, wsX11_solved_r2, wsX11_solved_r3] wsX11_solved_r4 c hc w hw))))))
set_option maxRecDepth 20000 in
theorem zbX11_solved_X4_solve_0 : GoodIn wsX11_solved [Cond.code yX4_solve cX4_solve 4 none] := goodIn_k _ cks_X11_solved ck_X11_solved [(0, 7)] rfl (by decide +kernel)
set_option maxRecDepth 20000 in
theorem zbX11_solved_X4_solve_1 : GoodIn wsX11_solved wsX4_solve_r1 := goodIn_k _ cks_X11_solved ck_X11_solved [(0, 8), (0, 9), (0, 10), (0, 11), (0, 12), (0, 13), (0, 14), (0, 15), (0, 6), (0, 16), (0, 17), (0, 18), (0, 19), (0, 20), (0, 21), (0, 22), (0, 23), (1, 0), (1, 1), (1, 2), (1, 3), (1, 4), (1, 5), (1, 6)] rfl (by decide +kernel)
set_option maxRecDepth 20000 in
theorem zbX11_solved_X4_solve_2 : GoodIn wsX11_solved wsX4_solve_r2 := goodIn_k _ cks_X11_solved ck_X11_solved [(1, 7), (1, 8), (1, 9), (1, 10), (1, 11), (1, 12), (1, 13), (1, 14), (1, 15), (1, 16), (1, 17), (1, 18), (1, 19), (1, 20), (1, 21), (1, 22), (1, 23), (2, 0), (2, 1), (2, 2), (2, 3), (2, 4), (2, 5), (2, 6)] rfl (by decide +kernel)
set_option maxRecDepth 20000 in
theorem zbX11_solved_X4_solve_3 : GoodIn wsX11_solved wsX4_solve_r3 := goodIn_k _ cks_X11_solved ck_X11_solved [(2, 7), (2, 8), (2, 9), (2, 10), (2, 11), (2, 12), (2, 13), (2, 14), (2, 15), (2, 16), (2, 17), (2, 18), (2, 19), (2, 20), (2, 21), (2, 22), (2, 23), (3, 0), (3, 1), (3, 2), (3, 3), (3, 4), (3, 5), (3, 6)] rfl (by decide +kernel)
set_option maxRecDepth 20000 in
theorem zbX11_solved_X4_solve_4 : GoodIn wsX11_solved wsX4_solve_r4 := goodIn_k _ cks_X11_solved ck_X11_solved [(3, 7), (3, 8), (3, 9), (3, 10), (3, 11), (3, 12), (3, 13)] rfl (by decide +kernel)
set_option maxRecDepth 20000 in
theorem ggX11_solved_X4_solve : GoodIn wsX11_solved wsX4_solve := (goodIn_ca (goodIn_ca (goodIn_ca (goodIn_ca (goodIn_cc zbX11_solved_X4_solve_0 (goodIn_app zbX11_solved_X4_solve_1 (goodIn_app zbX11_solved_X4_solve_2 (goodIn_app zbX11_solved_X4_solve_3 zbX11_solved_X4_solve_4)))) (goodIn_sub in_X11_solved_X4 zgw_X4)) (goodIn_sub in_X11_solved_X5 zgw_X5)) (goodIn_sub in_X11_solved_X2 zgw_X2)) (goodIn_sub in_X11_solved_X1 zgw_X1))
set_option maxRecDepth 20000 in
theorem gX11_solved_X4_solve : GoodIn wsX11_solved (wsV RX11 268 RX4 yX4_solve wsX4_solve) := goodIn_app (goodIn_of _ (by decide +kernel)) ggX11_solved_X4_solve
theorem in_X11_joined_X0 : ∀ w ∈ wsX00, w ∈ wsX11_joined := fun _ h => List.mem_cons_of_mem _ (List.mem_append_left _ (List.mem_append_left _ (List.mem_append_left _ (List.mem_append_left _ (List.mem_append_left _ (List.mem_append_left _ (List.mem_append_left _ (List.mem_append_right _ h))))))))
def cks_X11_joined : List (List Cond) := [wsX11_joined_r1, wsX11_joined_r2, wsX11_joined_r3, wsX11_joined_r4, wsX11_joined_r5, wsX11_joined_r6, wsX11_joined_r7, wsX11_joined_r8, wsX11_joined_r9, wsX11_joined_r10, wsX11_joined_r11, wsX11_joined_r12, wsX11_joined_r13]
theorem ck_X11_joined : ∀ c ∈ cks_X11_joined, ∀ w ∈ c, w ∈ wsX11_joined := fun c hc w hw => List.mem_cons_of_mem _ (List.mem_append_left _ (List.mem_append_left _ (List.mem_append_left _ (List.mem_append_left _ (List.mem_append_left _ (List.mem_append_left _ (List.mem_append_left _ (List.mem_append_left _ (List.mem_append_left _ (List.mem_append_left _ (goodIn_cat [wsX11_joined_r1, wsX11_joined_r2, wsX11_joined_r3, wsX11_joined_r4, wsX11_joined_r5, wsX11_joined_r6, wsX11_joined_r7, wsX11_joined_r8, wsX11_joined_r9, wsX11_joined_r10, wsX11_joined_r11, wsX11_joined_r12] wsX11_joined_r13 c hc w hw)))))))))))
set_option maxRecDepth 20000 in
theorem zbX11_joined_X0_goesLeftOf : GoodIn wsX11_joined (Cond.code yX0_goesLeftOf cX0_goesLeftOf 2 (some .boolean) :: [.fieldLink RX0 40 "ClayAccounts$Fragment" "right" "I", .fieldLink RX0 37 "ClayAccounts$Fragment" "left" "I", .constant RX0 43 (99999999), .fieldLink RX0 23 "ClayAccounts$Fragment" "rowCount" "I"]) := goodIn_k _ cks_X11_joined ck_X11_joined [(0, 12), (0, 13), (0, 14), (0, 15), (0, 16)] rfl (by decide +kernel)
set_option maxRecDepth 20000 in
theorem ggX11_joined_X0_goesLeftOf : GoodIn wsX11_joined wsX0_goesLeftOf := (goodIn_ca zbX11_joined_X0_goesLeftOf (goodIn_sub in_X11_joined_X0 zgw_X0))
set_option maxRecDepth 20000 in
theorem gX11_joined_X0_goesLeftOf : GoodIn wsX11_joined (wsV RX11 272 RX0 yX0_goesLeftOf wsX0_goesLeftOf) := goodIn_app (goodIn_of _ (by decide +kernel)) ggX11_joined_X0_goesLeftOf
theorem in_X11_joined_X7 : ∀ w ∈ wsX70, w ∈ wsX11_joined := fun _ h => List.mem_cons_of_mem _ (List.mem_append_left _ (List.mem_append_left _ (List.mem_append_left _ (List.mem_append_left _ (List.mem_append_left _ (List.mem_append_left _ (List.mem_append_right _ h)))))))
set_option maxRecDepth 20000 in
theorem zbX11_joined_X0_sayWith : GoodIn wsX11_joined (Cond.code yX0_sayWith cX0_sayWith 6 none :: [.fieldLink RX0 23 "ClayAccounts$Fragment" "rowCount" "I", .methodLink RX0 20 yX7_clear, .instanceMethod yX7_clear, .selects RX7 yX7_clear yX7_clear, .initialized RX7, .code yX7_clear cX7_clear 1 none, .fieldLink RX7 21 "ClayAccounts$Text" "size" "I", .methodLink RX0 44 yX0_sayRow, .instanceMethod yX0_sayRow, .selects RX0 yX0_sayRow yX0_sayRow, .initialized RX0, .code yX0_sayRow cX0_sayRow 4 (some .int), .fieldLink RX0 14 "ClayAccounts$Fragment" "text" "LClayAccounts$Text;", .fieldLink RX0 27 "ClayAccounts$Text" "size" "I", .methodLink RX0 30 yX7_byteAt, .instanceMethod yX7_byteAt, .selects RX7 yX7_byteAt yX7_byteAt, .code yX7_byteAt cX7_byteAt 2 (some .int), .fieldLink RX7 15 "ClayAccounts$Text" "bytes" "[B", .methodLink RX0 34 yX7_put, .instanceMethod yX7_put, .selects RX7 yX7_put yX7_put, .code yX7_put cX7_put 2 none]) := goodIn_k _ cks_X11_joined ck_X11_joined [(0, 20), (0, 16), (0, 21), (0, 22), (0, 23), (1, 0), (1, 1), (1, 2), (1, 3), (1, 4), (1, 5), (0, 11), (1, 6), (1, 7), (1, 8), (1, 9), (1, 10), (1, 11), (1, 12), (1, 13), (1, 14), (1, 15), (1, 16), (1, 17)] rfl (by decide +kernel)
set_option maxRecDepth 20000 in
theorem ggX11_joined_X0_sayWith : GoodIn wsX11_joined wsX0_sayWith := (goodIn_ca (goodIn_ca zbX11_joined_X0_sayWith (goodIn_sub in_X11_joined_X0 zgw_X0)) (goodIn_sub in_X11_joined_X7 zgw_X7))
set_option maxRecDepth 20000 in
theorem gX11_joined_X0_sayWith : GoodIn wsX11_joined (wsV RX11 276 RX0 yX0_sayWith wsX0_sayWith) := goodIn_app (goodIn_of _ (by decide +kernel)) ggX11_joined_X0_sayWith
theorem in_X11_joined_X1 : ∀ w ∈ wsX10, w ∈ wsX11_joined := fun _ h => List.mem_cons_of_mem _ (List.mem_append_left _ (List.mem_append_right _ h))
theorem in_X11_joined_X2 : ∀ w ∈ wsX20, w ∈ wsX11_joined := fun _ h => List.mem_cons_of_mem _ (List.mem_append_left _ (List.mem_append_left _ (List.mem_append_left _ (List.mem_append_right _ h))))
theorem in_X11_joined_X5 : ∀ w ∈ wsX50, w ∈ wsX11_joined := fun _ h => List.mem_cons_of_mem _ (List.mem_append_left _ (List.mem_append_left _ (List.mem_append_left _ (List.mem_append_left _ (List.mem_append_left _ (List.mem_append_left _ (List.mem_append_left _ (List.mem_append_left _ (List.mem_append_right _ h)))))))))
theorem in_X11_joined_X6 : ∀ w ∈ wsX60, w ∈ wsX11_joined := fun _ h => List.mem_cons_of_mem _ (List.mem_append_left _ (List.mem_append_left _ (List.mem_append_left _ (List.mem_append_left _ (List.mem_append_left _ (List.mem_append_right _ h))))))
theorem in_X11_joined_X8 : ∀ w ∈ wsX80, w ∈ wsX11_joined := fun _ h => List.mem_cons_of_mem _ (List.mem_append_left _ (List.mem_append_left _ (List.mem_append_left _ (List.mem_append_left _ (List.mem_append_right _ h)))))
theorem in_X11_joined_X9 : ∀ w ∈ wsX90, w ∈ wsX11_joined := fun _ h => List.mem_cons_of_mem _ (List.mem_append_left _ (List.mem_append_left _ (List.mem_append_right _ h)))
set_option maxRecDepth 20000 in
theorem zbX11_joined_X6_read_0 : GoodIn wsX11_joined [Cond.code yX6_read cX6_read 5 (some .boolean)] := goodIn_k _ cks_X11_joined ck_X11_joined [(1, 22)] rfl (by decide +kernel)
set_option maxRecDepth 20000 in
theorem zbX11_joined_X6_read_1 : GoodIn wsX11_joined wsX6_read_r1 := goodIn_k _ cks_X11_joined ck_X11_joined [(1, 23), (2, 0), (2, 1), (2, 2), (2, 3), (2, 4), (2, 5), (2, 6), (2, 7), (2, 8), (2, 9), (2, 10), (2, 11), (2, 12), (2, 13), (2, 14), (2, 15), (2, 16), (2, 17), (2, 18), (2, 19), (2, 20), (2, 21), (2, 22)] rfl (by decide +kernel)
set_option maxRecDepth 20000 in
theorem zbX11_joined_X6_read_2 : GoodIn wsX11_joined wsX6_read_r2 := goodIn_k _ cks_X11_joined ck_X11_joined [(2, 23), (3, 0), (3, 1), (3, 2), (3, 3), (3, 4), (3, 5), (3, 6), (3, 7), (3, 8), (3, 9), (3, 10), (3, 11), (1, 10), (1, 11), (1, 0), (1, 12), (1, 2), (1, 13), (3, 12), (3, 13), (3, 14), (3, 15), (3, 16)] rfl (by decide +kernel)
set_option maxRecDepth 20000 in
theorem zbX11_joined_X6_read_3 : GoodIn wsX11_joined wsX6_read_r3 := goodIn_k _ cks_X11_joined ck_X11_joined [(3, 17), (3, 18), (3, 19), (3, 20), (3, 21), (3, 22), (3, 23), (4, 0), (4, 1), (4, 2), (4, 3), (4, 4), (4, 5), (4, 6), (4, 7), (4, 8), (4, 9), (4, 10), (4, 11), (4, 12), (4, 13), (4, 14), (4, 15), (4, 16)] rfl (by decide +kernel)
set_option maxRecDepth 20000 in
theorem zbX11_joined_X6_read_4 : GoodIn wsX11_joined wsX6_read_r4 := goodIn_k _ cks_X11_joined ck_X11_joined [(4, 17), (4, 18), (4, 19), (4, 20), (4, 21), (4, 22), (4, 23), (5, 0), (5, 1), (5, 2), (5, 3), (5, 4), (5, 5), (5, 6), (1, 21), (5, 7), (5, 8), (5, 9), (5, 10), (5, 11), (5, 12), (5, 13), (5, 14), (5, 15)] rfl (by decide +kernel)
set_option maxRecDepth 20000 in
theorem zbX11_joined_X6_read_5 : GoodIn wsX11_joined wsX6_read_r5 := goodIn_k _ cks_X11_joined ck_X11_joined [(5, 16), (5, 17), (5, 18), (5, 19), (5, 20), (5, 21), (5, 22), (5, 23), (6, 0), (6, 1), (6, 2), (6, 3), (6, 4), (6, 5), (6, 6), (6, 7), (6, 8), (6, 9), (6, 10), (6, 11), (6, 12), (6, 13), (6, 14), (6, 15)] rfl (by decide +kernel)
set_option maxRecDepth 20000 in
theorem zbX11_joined_X6_read_6 : GoodIn wsX11_joined wsX6_read_r6 := goodIn_k _ cks_X11_joined ck_X11_joined [(6, 16), (6, 17), (6, 18), (6, 19), (6, 20), (6, 21), (6, 22), (6, 23), (7, 0), (7, 1), (7, 2), (7, 3), (7, 4), (7, 5), (7, 6), (7, 7), (7, 8), (7, 9), (7, 10), (7, 11), (7, 12), (7, 13), (7, 14), (7, 15)] rfl (by decide +kernel)
set_option maxRecDepth 20000 in
theorem zbX11_joined_X6_read_7 : GoodIn wsX11_joined wsX6_read_r7 := goodIn_k _ cks_X11_joined ck_X11_joined [(7, 16), (7, 17), (7, 18), (7, 19), (7, 20), (7, 21), (7, 22), (7, 23), (8, 0), (8, 1), (8, 2), (8, 3), (8, 4), (8, 5), (8, 6), (8, 7), (8, 8), (8, 9), (8, 10), (8, 11), (8, 12), (8, 13), (8, 14), (8, 15)] rfl (by decide +kernel)
set_option maxRecDepth 20000 in
theorem zbX11_joined_X6_read_8 : GoodIn wsX11_joined wsX6_read_r8 := goodIn_k _ cks_X11_joined ck_X11_joined [(8, 16), (8, 17), (8, 18), (8, 19), (8, 20), (8, 21), (8, 22), (8, 23), (9, 0), (9, 1), (9, 2), (9, 3), (9, 4), (9, 5), (9, 6), (9, 7), (9, 8), (9, 9), (9, 10), (9, 11), (9, 12), (9, 13), (9, 14), (9, 15)] rfl (by decide +kernel)
set_option maxRecDepth 20000 in
theorem zbX11_joined_X6_read_9 : GoodIn wsX11_joined wsX6_read_r9 := goodIn_k _ cks_X11_joined ck_X11_joined [(9, 16), (9, 17), (9, 18)] rfl (by decide +kernel)
set_option maxRecDepth 20000 in
theorem ggX11_joined_X6_read : GoodIn wsX11_joined wsX6_read := (goodIn_ca (goodIn_ca (goodIn_ca (goodIn_ca (goodIn_ca (goodIn_ca (goodIn_ca (goodIn_cc zbX11_joined_X6_read_0 (goodIn_app zbX11_joined_X6_read_1 (goodIn_app zbX11_joined_X6_read_2 (goodIn_app zbX11_joined_X6_read_3 (goodIn_app zbX11_joined_X6_read_4 (goodIn_app zbX11_joined_X6_read_5 (goodIn_app zbX11_joined_X6_read_6 (goodIn_app zbX11_joined_X6_read_7 (goodIn_app zbX11_joined_X6_read_8 zbX11_joined_X6_read_9))))))))) (goodIn_sub in_X11_joined_X6 zgw_X6)) (goodIn_sub in_X11_joined_X8 zgw_X8)) (goodIn_sub in_X11_joined_X5 zgw_X5)) (goodIn_sub in_X11_joined_X7 zgw_X7)) (goodIn_sub in_X11_joined_X2 zgw_X2)) (goodIn_sub in_X11_joined_X9 zgw_X9)) (goodIn_sub in_X11_joined_X1 zgw_X1))
set_option maxRecDepth 20000 in
theorem gX11_joined_X6_read : GoodIn wsX11_joined (wsV RX11 166 RX6 yX6_read wsX6_read) := goodIn_app (goodIn_of _ (by decide +kernel)) ggX11_joined_X6_read
theorem in_X11_joined_X4 : ∀ w ∈ wsX40, w ∈ wsX11_joined := fun _ h => List.mem_cons_of_mem _ (List.mem_append_right _ h)
set_option maxRecDepth 20000 in
theorem zbX11_joined_X4_solve_0 : GoodIn wsX11_joined [Cond.code yX4_solve cX4_solve 4 none] := goodIn_k _ cks_X11_joined ck_X11_joined [(9, 23)] rfl (by decide +kernel)
set_option maxRecDepth 20000 in
theorem zbX11_joined_X4_solve_1 : GoodIn wsX11_joined wsX4_solve_r1 := goodIn_k _ cks_X11_joined ck_X11_joined [(10, 0), (10, 1), (10, 2), (10, 3), (10, 4), (10, 5), (10, 6), (10, 7), (9, 22), (10, 8), (10, 9), (10, 10), (10, 11), (10, 12), (10, 13), (10, 14), (10, 15), (10, 16), (10, 17), (10, 18), (10, 19), (10, 20), (10, 21), (10, 22)] rfl (by decide +kernel)
set_option maxRecDepth 20000 in
theorem zbX11_joined_X4_solve_2 : GoodIn wsX11_joined wsX4_solve_r2 := goodIn_k _ cks_X11_joined ck_X11_joined [(10, 23), (11, 0), (11, 1), (11, 2), (11, 3), (11, 4), (11, 5), (3, 7), (11, 6), (11, 7), (11, 8), (11, 9), (11, 10), (11, 11), (11, 12), (11, 13), (11, 14), (11, 15), (11, 16), (11, 17), (11, 18), (11, 19), (11, 20), (11, 21)] rfl (by decide +kernel)
set_option maxRecDepth 20000 in
theorem zbX11_joined_X4_solve_3 : GoodIn wsX11_joined wsX4_solve_r3 := goodIn_k _ cks_X11_joined ck_X11_joined [(11, 22), (11, 23), (12, 0), (3, 6), (3, 8), (12, 1), (12, 2), (12, 3), (12, 4), (12, 5), (12, 6), (12, 7), (12, 8), (12, 9), (12, 10), (12, 11), (12, 12), (9, 6), (12, 13), (12, 14), (12, 15), (12, 16), (12, 17), (6, 5)] rfl (by decide +kernel)
set_option maxRecDepth 20000 in
theorem zbX11_joined_X4_solve_4 : GoodIn wsX11_joined wsX4_solve_r4 := goodIn_k _ cks_X11_joined ck_X11_joined [(12, 18), (6, 11), (12, 19), (6, 12), (12, 20), (12, 21), (12, 22)] rfl (by decide +kernel)
set_option maxRecDepth 20000 in
theorem ggX11_joined_X4_solve : GoodIn wsX11_joined wsX4_solve := (goodIn_ca (goodIn_ca (goodIn_ca (goodIn_ca (goodIn_cc zbX11_joined_X4_solve_0 (goodIn_app zbX11_joined_X4_solve_1 (goodIn_app zbX11_joined_X4_solve_2 (goodIn_app zbX11_joined_X4_solve_3 zbX11_joined_X4_solve_4)))) (goodIn_sub in_X11_joined_X4 zgw_X4)) (goodIn_sub in_X11_joined_X5 zgw_X5)) (goodIn_sub in_X11_joined_X2 zgw_X2)) (goodIn_sub in_X11_joined_X1 zgw_X1))
set_option maxRecDepth 20000 in
theorem gX11_joined_X4_solve : GoodIn wsX11_joined (wsV RX11 268 RX4 yX4_solve wsX4_solve) := goodIn_app (goodIn_of _ (by decide +kernel)) ggX11_joined_X4_solve
