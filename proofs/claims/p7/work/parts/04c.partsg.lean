theorem in_X0_init_X7 : ∀ w ∈ wsX70, w ∈ wsX0_init := fun _ h => List.mem_cons_of_mem _ (List.mem_append_left _ (List.mem_append_right _ h))
set_option maxRecDepth 20000 in
theorem zbX0_init_X7_init : GoodIn wsX0_init (Cond.code yX7_init cX7_init 2 none :: [.methodLink RX7 3 objectInit, .instanceMethod objectInit, .code objectInit ⟨#[0xb1]⟩ 1 none, .methodLink RX7 9 Lib.Math.max.name, .static Lib.Math.max.name, .initialized "java/lang/Math", .code Lib.Math.max.name Lib.Math.max.code 2 (some .int), .arrayClass .byte, .fieldLink RX7 15 "ClayAccounts$Text" "bytes" "[B", .fieldLink RX7 21 "ClayAccounts$Text" "size" "I"]) := goodIn_r _ [10, 11, 2, 3, 12, 13, 14, 15, 16, 17, 18] rfl (by decide +kernel)
set_option maxRecDepth 20000 in
theorem ggX0_init_X7_init : GoodIn wsX0_init wsX7_init := (goodIn_ca zbX0_init_X7_init (goodIn_sub in_X0_init_X7 zgw_X7))
set_option maxRecDepth 20000 in
theorem gX0_init_X7_init : GoodIn wsX0_init (wsX7_init) := ggX0_init_X7_init
theorem in_X0_take_X7 : ∀ w ∈ wsX70, w ∈ wsX0_take := fun _ h => List.mem_cons_of_mem _ (List.mem_append_right _ h)
set_option maxRecDepth 20000 in
theorem zbX0_take_X7_clear : GoodIn wsX0_take (Cond.code yX7_clear cX7_clear 1 none :: [.fieldLink RX7 21 "ClayAccounts$Text" "size" "I"]) := goodIn_r _ [10, 11] rfl (by decide +kernel)
set_option maxRecDepth 20000 in
theorem ggX0_take_X7_clear : GoodIn wsX0_take wsX7_clear := (goodIn_ca zbX0_take_X7_clear (goodIn_sub in_X0_take_X7 zgw_X7))
set_option maxRecDepth 20000 in
theorem gX0_take_X7_clear : GoodIn wsX0_take (wsV RX0 20 RX7 yX7_clear wsX7_clear) := goodIn_app (goodIn_of _ (by decide +kernel)) ggX0_take_X7_clear
set_option maxRecDepth 20000 in
theorem zbX0_take_X7_byteAt : GoodIn wsX0_take (Cond.code yX7_byteAt cX7_byteAt 2 (some .int) :: [.fieldLink RX7 21 "ClayAccounts$Text" "size" "I", .fieldLink RX7 15 "ClayAccounts$Text" "bytes" "[B"]) := goodIn_r _ [15, 11, 16] rfl (by decide +kernel)
set_option maxRecDepth 20000 in
theorem ggX0_take_X7_byteAt : GoodIn wsX0_take wsX7_byteAt := (goodIn_ca zbX0_take_X7_byteAt (goodIn_sub in_X0_take_X7 zgw_X7))
set_option maxRecDepth 20000 in
theorem gX0_take_X7_byteAt : GoodIn wsX0_take (wsV RX0 30 RX7 yX7_byteAt wsX7_byteAt) := goodIn_app (goodIn_of _ (by decide +kernel)) ggX0_take_X7_byteAt
set_option maxRecDepth 20000 in
theorem zbX0_take_X7_put : GoodIn wsX0_take (Cond.code yX7_put cX7_put 2 none :: [.fieldLink RX7 21 "ClayAccounts$Text" "size" "I", .fieldLink RX7 15 "ClayAccounts$Text" "bytes" "[B"]) := goodIn_r _ [20, 11, 16] rfl (by decide +kernel)
set_option maxRecDepth 20000 in
theorem ggX0_take_X7_put : GoodIn wsX0_take wsX7_put := (goodIn_ca zbX0_take_X7_put (goodIn_sub in_X0_take_X7 zgw_X7))
set_option maxRecDepth 20000 in
theorem gX0_take_X7_put : GoodIn wsX0_take (wsV RX0 34 RX7 yX7_put wsX7_put) := goodIn_app (goodIn_of _ (by decide +kernel)) ggX0_take_X7_put
theorem in_X0_sayWith_X7 : ∀ w ∈ wsX70, w ∈ wsX0_sayWith := fun _ h => List.mem_cons_of_mem _ (List.mem_append_right _ h)
set_option maxRecDepth 20000 in
theorem zbX0_sayWith_X7_clear : GoodIn wsX0_sayWith (Cond.code yX7_clear cX7_clear 1 none :: [.fieldLink RX7 21 "ClayAccounts$Text" "size" "I"]) := goodIn_r _ [6, 7] rfl (by decide +kernel)
set_option maxRecDepth 20000 in
theorem ggX0_sayWith_X7_clear : GoodIn wsX0_sayWith wsX7_clear := (goodIn_ca zbX0_sayWith_X7_clear (goodIn_sub in_X0_sayWith_X7 zgw_X7))
set_option maxRecDepth 20000 in
theorem gX0_sayWith_X7_clear : GoodIn wsX0_sayWith (wsV RX0 20 RX7 yX7_clear wsX7_clear) := goodIn_app (goodIn_of _ (by decide +kernel)) ggX0_sayWith_X7_clear
theorem in_X0_sayWith_X0 : ∀ w ∈ wsX00, w ∈ wsX0_sayWith := fun _ h => List.mem_cons_of_mem _ (List.mem_append_left _ (List.mem_append_right _ h))
set_option maxRecDepth 20000 in
theorem zbX0_sayWith_X0_sayRow : GoodIn wsX0_sayWith (Cond.code yX0_sayRow cX0_sayRow 4 (some .int) :: [.fieldLink RX0 14 "ClayAccounts$Fragment" "text" "LClayAccounts$Text;", .fieldLink RX0 27 "ClayAccounts$Text" "size" "I", .methodLink RX0 30 yX7_byteAt, .instanceMethod yX7_byteAt, .selects RX7 yX7_byteAt yX7_byteAt, .initialized RX7, .code yX7_byteAt cX7_byteAt 2 (some .int), .fieldLink RX7 21 "ClayAccounts$Text" "size" "I", .fieldLink RX7 15 "ClayAccounts$Text" "bytes" "[B", .methodLink RX0 34 yX7_put, .instanceMethod yX7_put, .selects RX7 yX7_put yX7_put, .code yX7_put cX7_put 2 none]) := goodIn_r _ [12, 13, 14, 15, 16, 17, 5, 18, 7, 19, 20, 21, 22, 23] rfl (by decide +kernel)
set_option maxRecDepth 20000 in
theorem ggX0_sayWith_X0_sayRow : GoodIn wsX0_sayWith wsX0_sayRow := (goodIn_ca (goodIn_ca zbX0_sayWith_X0_sayRow (goodIn_sub in_X0_sayWith_X0 zgw_X0)) (goodIn_sub in_X0_sayWith_X7 zgw_X7))
set_option maxRecDepth 20000 in
theorem gX0_sayWith_X0_sayRow : GoodIn wsX0_sayWith (wsV RX0 44 RX0 yX0_sayRow wsX0_sayRow) := goodIn_app (goodIn_of _ (by decide +kernel)) ggX0_sayWith_X0_sayRow
theorem in_X0_sayRow_X7 : ∀ w ∈ wsX70, w ∈ wsX0_sayRow := fun _ h => List.mem_cons_of_mem _ (List.mem_append_right _ h)
set_option maxRecDepth 20000 in
theorem zbX0_sayRow_X7_byteAt : GoodIn wsX0_sayRow (Cond.code yX7_byteAt cX7_byteAt 2 (some .int) :: [.fieldLink RX7 21 "ClayAccounts$Text" "size" "I", .fieldLink RX7 15 "ClayAccounts$Text" "bytes" "[B"]) := goodIn_r _ [7, 8, 9] rfl (by decide +kernel)
set_option maxRecDepth 20000 in
theorem ggX0_sayRow_X7_byteAt : GoodIn wsX0_sayRow wsX7_byteAt := (goodIn_ca zbX0_sayRow_X7_byteAt (goodIn_sub in_X0_sayRow_X7 zgw_X7))
set_option maxRecDepth 20000 in
theorem gX0_sayRow_X7_byteAt : GoodIn wsX0_sayRow (wsV RX0 30 RX7 yX7_byteAt wsX7_byteAt) := goodIn_app (goodIn_of _ (by decide +kernel)) ggX0_sayRow_X7_byteAt
set_option maxRecDepth 20000 in
theorem zbX0_sayRow_X7_put : GoodIn wsX0_sayRow (Cond.code yX7_put cX7_put 2 none :: [.fieldLink RX7 21 "ClayAccounts$Text" "size" "I", .fieldLink RX7 15 "ClayAccounts$Text" "bytes" "[B"]) := goodIn_r _ [13, 8, 9] rfl (by decide +kernel)
set_option maxRecDepth 20000 in
theorem ggX0_sayRow_X7_put : GoodIn wsX0_sayRow wsX7_put := (goodIn_ca zbX0_sayRow_X7_put (goodIn_sub in_X0_sayRow_X7 zgw_X7))
set_option maxRecDepth 20000 in
theorem gX0_sayRow_X7_put : GoodIn wsX0_sayRow (wsV RX0 34 RX7 yX7_put wsX7_put) := goodIn_app (goodIn_of _ (by decide +kernel)) ggX0_sayRow_X7_put
set_option maxRecDepth 20000 in
theorem zbX3_init_J7_fill_53178 : GoodIn wsX3_init (Cond.code yJ7_fill_53178 cJ7_fill_53178 4 none :: []) := goodIn_r _ [11] rfl (by decide +kernel)
set_option maxRecDepth 20000 in
theorem ggX3_init_J7_fill_53178 : GoodIn wsX3_init wsJ7_fill_53178 := zbX3_init_J7_fill_53178
set_option maxRecDepth 20000 in
theorem gX3_init_J7_fill_53178 : GoodIn wsX3_init (va_wsS RX3 21 yJ7_fill_53178 wsJ7_fill_53178) := goodIn_app (goodIn_of _ (by decide +kernel)) ggX3_init_J7_fill_53178
set_option maxRecDepth 20000 in
theorem zbX3_forget_J7_fill_53178 : GoodIn wsX3_forget (Cond.code yJ7_fill_53178 cJ7_fill_53178 4 none :: []) := goodIn_r _ [7] rfl (by decide +kernel)
set_option maxRecDepth 20000 in
theorem ggX3_forget_J7_fill_53178 : GoodIn wsX3_forget wsJ7_fill_53178 := zbX3_forget_J7_fill_53178
set_option maxRecDepth 20000 in
theorem gX3_forget_J7_fill_53178 : GoodIn wsX3_forget (va_wsS RX3 21 yJ7_fill_53178 wsJ7_fill_53178) := goodIn_app (goodIn_of _ (by decide +kernel)) ggX3_forget_J7_fill_53178
theorem in_X3_pairUp_X3 : ∀ w ∈ wsX30, w ∈ wsX3_pairUp := fun _ h => List.mem_cons_of_mem _ (List.mem_append_right _ h)
def cks_X3_pairUp : List (List Cond) := [wsX3_pairUp_r1, wsX3_pairUp_r2]
theorem ck_X3_pairUp : ∀ c ∈ cks_X3_pairUp, ∀ w ∈ c, w ∈ wsX3_pairUp := fun c hc w hw => List.mem_cons_of_mem _ (List.mem_append_left _ (goodIn_cat [wsX3_pairUp_r1] wsX3_pairUp_r2 c hc w hw))
set_option maxRecDepth 20000 in
theorem zbX3_pairUp_X3_forget : GoodIn wsX3_pairUp (Cond.code yX3_forget cX3_forget 1 none :: [.fieldLink RX3 9 "ClayAccounts$Matcher" "partners" "[I", .fieldLink RX3 27 "ClayAccounts$Matcher" "pairCount" "I", .fieldLink RX3 31 "ClayAccounts$Matcher" "sureCount" "I", .methodLink RX3 21 yJ7_fill_53178, .static yJ7_fill_53178, .initialized RJ7, .code yJ7_fill_53178 cJ7_fill_53178 4 none]) := goodIn_k _ cks_X3_pairUp ck_X3_pairUp [(0, 9), (0, 10), (0, 11), (0, 12), (0, 13), (0, 14), (0, 15), (0, 16)] rfl (by decide +kernel)
set_option maxRecDepth 20000 in
theorem ggX3_pairUp_X3_forget : GoodIn wsX3_pairUp wsX3_forget := (goodIn_ca zbX3_pairUp_X3_forget (goodIn_sub in_X3_pairUp_X3 zgw_X3))
set_option maxRecDepth 20000 in
theorem gX3_pairUp_X3_forget : GoodIn wsX3_pairUp (wsV RX3 34 RX3 yX3_forget wsX3_forget) := goodIn_app (goodIn_of _ (by decide +kernel)) ggX3_pairUp_X3_forget
set_option maxRecDepth 20000 in
theorem zbX3_pairUp_X3_bestOf : GoodIn wsX3_pairUp (Cond.code yX3_bestOf cX3_bestOf 8 (some .int) :: [.fieldLink RX3 18 "ClayAccounts$Matcher" "best" "[I", .fieldLink RX3 15 "ClayAccounts$Matcher" "weights" "[I", .methodLink RX3 50 Lib.Math.max.name, .static Lib.Math.max.name, .initialized "java/lang/Math", .code Lib.Math.max.name Lib.Math.max.code 2 (some .int)]) := goodIn_k _ cks_X3_pairUp ck_X3_pairUp [(0, 20), (0, 4), (0, 21), (0, 22), (0, 23), (0, 2), (1, 0)] rfl (by decide +kernel)
set_option maxRecDepth 20000 in
theorem ggX3_pairUp_X3_bestOf : GoodIn wsX3_pairUp wsX3_bestOf := (goodIn_ca zbX3_pairUp_X3_bestOf (goodIn_sub in_X3_pairUp_X3 zgw_X3))
set_option maxRecDepth 20000 in
theorem gX3_pairUp_X3_bestOf : GoodIn wsX3_pairUp (wsV RX3 43 RX3 yX3_bestOf wsX3_bestOf) := goodIn_app (goodIn_of _ (by decide +kernel)) ggX3_pairUp_X3_bestOf
set_option maxRecDepth 20000 in
theorem zbX3_pairUp_X3_pairOff : GoodIn wsX3_pairUp (Cond.code yX3_pairOff cX3_pairOff 8 (some .int) :: [.fieldLink RX3 15 "ClayAccounts$Matcher" "weights" "[I", .fieldLink RX3 18 "ClayAccounts$Matcher" "best" "[I", .fieldLink RX3 9 "ClayAccounts$Matcher" "partners" "[I", .fieldLink RX3 27 "ClayAccounts$Matcher" "pairCount" "I", .fieldLink RX3 31 "ClayAccounts$Matcher" "sureCount" "I"]) := goodIn_k _ cks_X3_pairUp ck_X3_pairUp [(1, 4), (0, 21), (0, 4), (0, 10), (0, 11), (0, 12)] rfl (by decide +kernel)
set_option maxRecDepth 20000 in
theorem ggX3_pairUp_X3_pairOff : GoodIn wsX3_pairUp wsX3_pairOff := (goodIn_ca zbX3_pairUp_X3_pairOff (goodIn_sub in_X3_pairUp_X3 zgw_X3))
set_option maxRecDepth 20000 in
theorem gX3_pairUp_X3_pairOff : GoodIn wsX3_pairUp (wsV RX3 47 RX3 yX3_pairOff wsX3_pairOff) := goodIn_app (goodIn_of _ (by decide +kernel)) ggX3_pairUp_X3_pairOff
theorem in_X4_solve_X1 : ∀ w ∈ wsX10, w ∈ wsX4_solve := fun _ h => List.mem_cons_of_mem _ (List.mem_append_right _ h)
theorem in_X4_solve_X2 : ∀ w ∈ wsX20, w ∈ wsX4_solve := fun _ h => List.mem_cons_of_mem _ (List.mem_append_left _ (List.mem_append_right _ h))
theorem in_X4_solve_X4 : ∀ w ∈ wsX40, w ∈ wsX4_solve := fun _ h => List.mem_cons_of_mem _ (List.mem_append_left _ (List.mem_append_left _ (List.mem_append_left _ (List.mem_append_right _ h))))
theorem in_X4_solve_X5 : ∀ w ∈ wsX50, w ∈ wsX4_solve := fun _ h => List.mem_cons_of_mem _ (List.mem_append_left _ (List.mem_append_left _ (List.mem_append_right _ h)))
def cks_X4_solve : List (List Cond) := [wsX4_solve_r1, wsX4_solve_r2, wsX4_solve_r3, wsX4_solve_r4]
theorem ck_X4_solve : ∀ c ∈ cks_X4_solve, ∀ w ∈ c, w ∈ wsX4_solve := fun c hc w hw => List.mem_cons_of_mem _ (List.mem_append_left _ (List.mem_append_left _ (List.mem_append_left _ (List.mem_append_left _ (goodIn_cat [wsX4_solve_r1, wsX4_solve_r2, wsX4_solve_r3] wsX4_solve_r4 c hc w hw)))))
set_option maxRecDepth 20000 in
theorem zbX4_solve_X4_weigh : GoodIn wsX4_solve (Cond.code yX4_weigh cX4_weigh 7 none :: [.fieldLink RX4 11 "ClayAccounts$Solver" "off" "[[J", .fieldLink RX4 16 "ClayAccounts$Solver" "slopes" "[[J", .fieldLink RX4 42 "ClayAccounts$Tablet" "lines" "[LClayAccounts$Line;", .fieldLink RX4 74 "ClayAccounts$Line" "system" "I", .fieldLink RX4 46 "ClayAccounts$Line" "kind" "I", .methodLink RX4 70 yX4_addPart, .instanceMethod yX4_addPart, .selects RX4 yX4_addPart yX4_addPart, .initialized RX4, .code yX4_addPart cX4_addPart 6 none, .fieldLink RX4 77 "ClayAccounts$Line" "value" "I", .fieldLink RX4 80 "ClayAccounts$Tablet" "holeCount" "I", .fieldLink RX4 83 "ClayAccounts$Tablet" "holes" "[LClayAccounts$Hole;", .fieldLink RX4 87 "ClayAccounts$Hole" "line" "I", .fieldLink RX4 92 "ClayAccounts$Hole" "weight" "I"]) := goodIn_k _ cks_X4_solve ck_X4_solve [(0, 9), (0, 10), (0, 11), (0, 3), (0, 12), (0, 4), (0, 13), (0, 14), (0, 15), (0, 8), (0, 16), (0, 17), (0, 18), (0, 19), (0, 20), (0, 21)] rfl (by decide +kernel)
set_option maxRecDepth 20000 in
theorem ggX4_solve_X4_weigh : GoodIn wsX4_solve wsX4_weigh := (goodIn_ca (goodIn_ca (goodIn_ca (goodIn_ca zbX4_solve_X4_weigh (goodIn_sub in_X4_solve_X4 zgw_X4)) (goodIn_sub in_X4_solve_X5 zgw_X5)) (goodIn_sub in_X4_solve_X2 zgw_X2)) (goodIn_sub in_X4_solve_X1 zgw_X1))
set_option maxRecDepth 20000 in
theorem gX4_solve_X4_weigh : GoodIn wsX4_solve (wsV RX4 51 RX4 yX4_weigh wsX4_weigh) := goodIn_app (goodIn_of _ (by decide +kernel)) ggX4_solve_X4_weigh
set_option maxRecDepth 20000 in
theorem zbX4_solve_X4_measure : GoodIn wsX4_solve (Cond.code yX4_measure cX4_measure 5 none :: [.fieldLink RX4 19 "ClayAccounts$Solver" "downs" "[[J", .fieldLink RX4 22 "ClayAccounts$Solver" "ups" "[[J", .constantLong RX4 95 (9), .fieldLink RX4 16 "ClayAccounts$Solver" "slopes" "[[J", .methodLink RX4 97 Lib.MathLoose.min_long.x, .static Lib.MathLoose.min_long.x, .initialized "java/lang/Math", .code Lib.MathLoose.min_long.x Lib.MathLoose.min_long.code 4 (some .long), .methodLink RX4 103 Lib.MathLoose.max_long.x, .static Lib.MathLoose.max_long.x, .code Lib.MathLoose.max_long.x Lib.MathLoose.max_long.code 4 (some .long)]) := goodIn_k _ cks_X4_solve ck_X4_solve [(1, 1), (1, 2), (1, 3), (1, 4), (0, 11), (1, 5), (1, 6), (1, 7), (1, 8), (1, 9), (1, 10), (1, 11)] rfl (by decide +kernel)
set_option maxRecDepth 20000 in
theorem ggX4_solve_X4_measure : GoodIn wsX4_solve wsX4_measure := (goodIn_ca zbX4_solve_X4_measure (goodIn_sub in_X4_solve_X4 zgw_X4))
set_option maxRecDepth 20000 in
theorem gX4_solve_X4_measure : GoodIn wsX4_solve (wsV RX4 55 RX4 yX4_measure wsX4_measure) := goodIn_app (goodIn_of _ (by decide +kernel)) ggX4_solve_X4_measure
set_option maxRecDepth 20000 in
theorem zbX4_solve_X4_missedWith : GoodIn wsX4_solve (Cond.code yX4_missedWith cX4_missedWith 6 (some .int) :: [.fieldLink RX4 33 "ClayAccounts$Solver" "sumCount" "I", .fieldLink RX4 11 "ClayAccounts$Solver" "off" "[[J", .fieldLink RX4 19 "ClayAccounts$Solver" "downs" "[[J", .fieldLink RX4 22 "ClayAccounts$Solver" "ups" "[[J"]) := goodIn_k _ cks_X4_solve ck_X4_solve [(1, 15), (0, 1), (0, 10), (1, 2), (1, 3)] rfl (by decide +kernel)
set_option maxRecDepth 20000 in
theorem ggX4_solve_X4_missedWith : GoodIn wsX4_solve wsX4_missedWith := (goodIn_ca zbX4_solve_X4_missedWith (goodIn_sub in_X4_solve_X4 zgw_X4))
set_option maxRecDepth 20000 in
theorem gX4_solve_X4_missedWith : GoodIn wsX4_solve (wsV RX4 59 RX4 yX4_missedWith wsX4_missedWith) := goodIn_app (goodIn_of _ (by decide +kernel)) ggX4_solve_X4_missedWith
set_option maxRecDepth 20000 in
theorem zbX4_solve_X4_isWorthwhile : GoodIn wsX4_solve (Cond.code yX4_isWorthwhile cX4_isWorthwhile 3 (some .boolean) :: [.fieldLink RX4 29 "ClayAccounts$Solver" "oneIsEnough" "Z", .fieldLink RX4 106 "ClayAccounts$Tablet" "readingCount" "I", .fieldLink RX4 109 "ClayAccounts$Tablet" "fewestWrong" "I"]) := goodIn_k _ cks_X4_solve ck_X4_solve [(1, 19), (0, 0), (1, 20), (1, 21)] rfl (by decide +kernel)
set_option maxRecDepth 20000 in
theorem ggX4_solve_X4_isWorthwhile : GoodIn wsX4_solve wsX4_isWorthwhile := (goodIn_ca (goodIn_ca zbX4_solve_X4_isWorthwhile (goodIn_sub in_X4_solve_X4 zgw_X4)) (goodIn_sub in_X4_solve_X5 zgw_X5))
set_option maxRecDepth 20000 in
theorem gX4_solve_X4_isWorthwhile : GoodIn wsX4_solve (wsV RX4 63 RX4 yX4_isWorthwhile wsX4_isWorthwhile) := goodIn_app (goodIn_of _ (by decide +kernel)) ggX4_solve_X4_isWorthwhile
set_option maxRecDepth 20000 in
theorem zbX4_solve_X4_fill_0 : GoodIn wsX4_solve [Cond.code yX4_fill cX4_fill 8 none] := goodIn_k _ cks_X4_solve ck_X4_solve [(2, 1)] rfl (by decide +kernel)
set_option maxRecDepth 20000 in
theorem zbX4_solve_X4_fill_1 : GoodIn wsX4_solve wsX4_fill_r1 := goodIn_k _ cks_X4_solve ck_X4_solve [(0, 18), (1, 21), (2, 2), (2, 3), (1, 7), (2, 4), (0, 19), (2, 5), (2, 6), (2, 7), (2, 8), (2, 9), (0, 1), (0, 10), (0, 11), (2, 10), (2, 11), (2, 12), (0, 8), (2, 13), (1, 20), (0, 20), (0, 3), (0, 17)] rfl (by decide +kernel)
set_option maxRecDepth 20000 in
theorem zbX4_solve_X4_fill_2 : GoodIn wsX4_solve wsX4_fill_r2 := goodIn_k _ cks_X4_solve ck_X4_solve [(0, 21), (2, 14), (2, 15), (2, 16), (2, 17), (2, 18), (2, 19), (2, 20), (2, 21), (2, 22), (2, 23), (3, 0), (3, 1), (3, 2), (3, 3), (3, 4), (3, 5), (3, 6), (1, 12), (1, 13), (1, 14), (1, 15), (1, 2), (1, 3)] rfl (by decide +kernel)
set_option maxRecDepth 20000 in
theorem zbX4_solve_X4_fill_3 : GoodIn wsX4_solve wsX4_fill_r3 := goodIn_k _ cks_X4_solve ck_X4_solve [(1, 16), (1, 17), (1, 18), (1, 19), (0, 0), (1, 22), (1, 23), (2, 0)] rfl (by decide +kernel)
set_option maxRecDepth 20000 in
theorem ggX4_solve_X4_fill : GoodIn wsX4_solve wsX4_fill := (goodIn_ca (goodIn_ca (goodIn_ca (goodIn_ca (goodIn_cc zbX4_solve_X4_fill_0 (goodIn_app zbX4_solve_X4_fill_1 (goodIn_app zbX4_solve_X4_fill_2 zbX4_solve_X4_fill_3))) (goodIn_sub in_X4_solve_X5 zgw_X5)) (goodIn_sub in_X4_solve_X1 zgw_X1)) (goodIn_sub in_X4_solve_X4 zgw_X4)) (goodIn_sub in_X4_solve_X2 zgw_X2))
set_option maxRecDepth 20000 in
theorem gX4_solve_X4_fill : GoodIn wsX4_solve (wsV RX4 67 RX4 yX4_fill wsX4_fill) := goodIn_app (goodIn_of _ (by decide +kernel)) ggX4_solve_X4_fill
theorem in_X4_weigh_X1 : ∀ w ∈ wsX10, w ∈ wsX4_weigh := fun _ h => List.mem_cons_of_mem _ (List.mem_append_right _ h)
theorem in_X4_weigh_X2 : ∀ w ∈ wsX20, w ∈ wsX4_weigh := fun _ h => List.mem_cons_of_mem _ (List.mem_append_left _ (List.mem_append_right _ h))
theorem in_X4_weigh_X4 : ∀ w ∈ wsX40, w ∈ wsX4_weigh := fun _ h => List.mem_cons_of_mem _ (List.mem_append_left _ (List.mem_append_left _ (List.mem_append_left _ (List.mem_append_right _ h))))
theorem in_X4_weigh_X5 : ∀ w ∈ wsX50, w ∈ wsX4_weigh := fun _ h => List.mem_cons_of_mem _ (List.mem_append_left _ (List.mem_append_left _ (List.mem_append_right _ h)))
set_option maxRecDepth 20000 in
theorem zbX4_weigh_X4_addPart : GoodIn wsX4_weigh (Cond.code yX4_addPart cX4_addPart 6 none :: [.fieldLink RX4 11 "ClayAccounts$Solver" "off" "[[J", .fieldLink RX4 42 "ClayAccounts$Tablet" "lines" "[LClayAccounts$Line;", .fieldLink RX4 77 "ClayAccounts$Line" "value" "I", .fieldLink RX4 80 "ClayAccounts$Tablet" "holeCount" "I", .fieldLink RX4 83 "ClayAccounts$Tablet" "holes" "[LClayAccounts$Hole;", .fieldLink RX4 87 "ClayAccounts$Hole" "line" "I", .fieldLink RX4 16 "ClayAccounts$Solver" "slopes" "[[J", .fieldLink RX4 92 "ClayAccounts$Hole" "weight" "I"]) := goodIn_r _ [10, 1, 3, 11, 12, 13, 14, 2, 15] rfl (by decide +kernel)
set_option maxRecDepth 20000 in
theorem ggX4_weigh_X4_addPart : GoodIn wsX4_weigh wsX4_addPart := (goodIn_ca (goodIn_ca (goodIn_ca (goodIn_ca zbX4_weigh_X4_addPart (goodIn_sub in_X4_weigh_X4 zgw_X4)) (goodIn_sub in_X4_weigh_X5 zgw_X5)) (goodIn_sub in_X4_weigh_X2 zgw_X2)) (goodIn_sub in_X4_weigh_X1 zgw_X1))
set_option maxRecDepth 20000 in
theorem gX4_weigh_X4_addPart : GoodIn wsX4_weigh (wsV RX4 70 RX4 yX4_addPart wsX4_addPart) := goodIn_app (goodIn_of _ (by decide +kernel)) ggX4_weigh_X4_addPart
theorem in_X4_fill_X1 : ∀ w ∈ wsX10, w ∈ wsX4_fill := fun _ h => List.mem_cons_of_mem _ (List.mem_append_left _ (List.mem_append_left _ (List.mem_append_right _ h)))
theorem in_X4_fill_X2 : ∀ w ∈ wsX20, w ∈ wsX4_fill := fun _ h => List.mem_cons_of_mem _ (List.mem_append_right _ h)
theorem in_X4_fill_X4 : ∀ w ∈ wsX40, w ∈ wsX4_fill := fun _ h => List.mem_cons_of_mem _ (List.mem_append_left _ (List.mem_append_right _ h))
theorem in_X4_fill_X5 : ∀ w ∈ wsX50, w ∈ wsX4_fill := fun _ h => List.mem_cons_of_mem _ (List.mem_append_left _ (List.mem_append_left _ (List.mem_append_left _ (List.mem_append_right _ h))))
def cks_X4_fill : List (List Cond) := [wsX4_fill_r1, wsX4_fill_r2, wsX4_fill_r3]
theorem ck_X4_fill : ∀ c ∈ cks_X4_fill, ∀ w ∈ c, w ∈ wsX4_fill := fun c hc w hw => List.mem_cons_of_mem _ (List.mem_append_left _ (List.mem_append_left _ (List.mem_append_left _ (List.mem_append_left _ (goodIn_cat [wsX4_fill_r1, wsX4_fill_r2] wsX4_fill_r3 c hc w hw)))))
set_option maxRecDepth 20000 in
theorem zbX4_fill_X4_noteReading_0 : GoodIn wsX4_fill [Cond.code yX4_noteReading cX4_noteReading 6 none] := goodIn_k _ cks_X4_fill ck_X4_fill [(0, 19)] rfl (by decide +kernel)
set_option maxRecDepth 20000 in
theorem zbX4_fill_X4_noteReading_1 : GoodIn wsX4_fill wsX4_noteReading_r1 := goodIn_k _ cks_X4_fill ck_X4_fill [(0, 20), (0, 0), (0, 6), (0, 9), (0, 21), (0, 22), (0, 23), (1, 0), (1, 1), (1, 2), (1, 3), (1, 4), (1, 5), (1, 6), (1, 7), (1, 8), (1, 9), (1, 10), (1, 11), (1, 12), (1, 13), (0, 3), (0, 4), (0, 5)] rfl (by decide +kernel)
set_option maxRecDepth 20000 in
theorem zbX4_fill_X4_noteReading_2 : GoodIn wsX4_fill wsX4_noteReading_r2 := goodIn_k _ cks_X4_fill ck_X4_fill [(1, 14), (1, 15), (1, 16), (1, 17)] rfl (by decide +kernel)
set_option maxRecDepth 20000 in
theorem ggX4_fill_X4_noteReading : GoodIn wsX4_fill wsX4_noteReading := (goodIn_ca (goodIn_ca (goodIn_ca (goodIn_ca (goodIn_cc zbX4_fill_X4_noteReading_0 (goodIn_app zbX4_fill_X4_noteReading_1 zbX4_fill_X4_noteReading_2)) (goodIn_sub in_X4_fill_X5 zgw_X5)) (goodIn_sub in_X4_fill_X4 zgw_X4)) (goodIn_sub in_X4_fill_X1 zgw_X1)) (goodIn_sub in_X4_fill_X2 zgw_X2))
set_option maxRecDepth 20000 in
theorem gX4_fill_X4_noteReading : GoodIn wsX4_fill (wsV RX4 115 RX4 yX4_noteReading wsX4_noteReading) := goodIn_app (goodIn_of _ (by decide +kernel)) ggX4_fill_X4_noteReading
set_option maxRecDepth 20000 in
theorem zbX4_fill_X4_missedWith : GoodIn wsX4_fill (Cond.code yX4_missedWith cX4_missedWith 6 (some .int) :: [.fieldLink RX4 33 "ClayAccounts$Solver" "sumCount" "I", .fieldLink RX4 11 "ClayAccounts$Solver" "off" "[[J", .fieldLink RX4 19 "ClayAccounts$Solver" "downs" "[[J", .fieldLink RX4 22 "ClayAccounts$Solver" "ups" "[[J"]) := goodIn_k _ cks_X4_fill ck_X4_fill [(1, 21), (0, 12), (0, 13), (1, 22), (1, 23)] rfl (by decide +kernel)
set_option maxRecDepth 20000 in
theorem ggX4_fill_X4_missedWith : GoodIn wsX4_fill wsX4_missedWith := (goodIn_ca zbX4_fill_X4_missedWith (goodIn_sub in_X4_fill_X4 zgw_X4))
set_option maxRecDepth 20000 in
theorem gX4_fill_X4_missedWith : GoodIn wsX4_fill (wsV RX4 59 RX4 yX4_missedWith wsX4_missedWith) := goodIn_app (goodIn_of _ (by decide +kernel)) ggX4_fill_X4_missedWith
set_option maxRecDepth 20000 in
theorem zbX4_fill_X4_isWorthwhile : GoodIn wsX4_fill (Cond.code yX4_isWorthwhile cX4_isWorthwhile 3 (some .boolean) :: [.fieldLink RX4 29 "ClayAccounts$Solver" "oneIsEnough" "Z", .fieldLink RX4 106 "ClayAccounts$Tablet" "readingCount" "I", .fieldLink RX4 109 "ClayAccounts$Tablet" "fewestWrong" "I"]) := goodIn_k _ cks_X4_fill ck_X4_fill [(2, 3), (2, 4), (0, 20), (0, 1)] rfl (by decide +kernel)
set_option maxRecDepth 20000 in
theorem ggX4_fill_X4_isWorthwhile : GoodIn wsX4_fill wsX4_isWorthwhile := (goodIn_ca (goodIn_ca zbX4_fill_X4_isWorthwhile (goodIn_sub in_X4_fill_X4 zgw_X4)) (goodIn_sub in_X4_fill_X5 zgw_X5))
set_option maxRecDepth 20000 in
theorem gX4_fill_X4_isWorthwhile : GoodIn wsX4_fill (wsV RX4 63 RX4 yX4_isWorthwhile wsX4_isWorthwhile) := goodIn_app (goodIn_of _ (by decide +kernel)) ggX4_fill_X4_isWorthwhile
set_option maxRecDepth 20000 in
theorem zbX4_fill_X4_fill_0 : GoodIn wsX4_fill [Cond.code yX4_fill cX4_fill 8 none] := goodIn_r _ [0] rfl (by decide +kernel)
set_option maxRecDepth 20000 in
theorem zbX4_fill_X4_fill_1 : GoodIn wsX4_fill wsX4_fill_r1 := goodIn_k _ cks_X4_fill ck_X4_fill [(0, 0), (0, 1), (0, 2), (0, 3), (0, 4), (0, 5), (0, 6), (0, 7), (0, 8), (0, 9), (0, 10), (0, 11), (0, 12), (0, 13), (0, 14), (0, 15), (0, 16), (0, 17), (0, 18), (0, 19), (0, 20), (0, 21), (0, 22), (0, 23)] rfl (by decide +kernel)
set_option maxRecDepth 20000 in
theorem zbX4_fill_X4_fill_2 : GoodIn wsX4_fill wsX4_fill_r2 := goodIn_k _ cks_X4_fill ck_X4_fill [(1, 0), (1, 1), (1, 2), (1, 3), (1, 4), (1, 5), (1, 6), (1, 7), (1, 8), (1, 9), (1, 10), (1, 11), (1, 12), (1, 13), (1, 14), (1, 15), (1, 16), (1, 17), (1, 18), (1, 19), (1, 20), (1, 21), (1, 22), (1, 23)] rfl (by decide +kernel)
set_option maxRecDepth 20000 in
theorem zbX4_fill_X4_fill_3 : GoodIn wsX4_fill wsX4_fill_r3 := goodIn_k _ cks_X4_fill ck_X4_fill [(2, 0), (2, 1), (2, 2), (2, 3), (2, 4), (2, 5), (2, 6), (2, 7)] rfl (by decide +kernel)
set_option maxRecDepth 20000 in
theorem ggX4_fill_X4_fill : GoodIn wsX4_fill wsX4_fill := (goodIn_ca (goodIn_ca (goodIn_ca (goodIn_ca (goodIn_cc zbX4_fill_X4_fill_0 (goodIn_app zbX4_fill_X4_fill_1 (goodIn_app zbX4_fill_X4_fill_2 zbX4_fill_X4_fill_3))) (goodIn_sub in_X4_fill_X5 zgw_X5)) (goodIn_sub in_X4_fill_X1 zgw_X1)) (goodIn_sub in_X4_fill_X4 zgw_X4)) (goodIn_sub in_X4_fill_X2 zgw_X2))
set_option maxRecDepth 20000 in
theorem gX4_fill_X4_fill : GoodIn wsX4_fill (wsV RX4 67 RX4 yX4_fill wsX4_fill) := goodIn_app (goodIn_of _ (by decide +kernel)) ggX4_fill_X4_fill
theorem in_X4_noteReading_X1 : ∀ w ∈ wsX10, w ∈ wsX4_noteReading := fun _ h => List.mem_cons_of_mem _ (List.mem_append_left _ (List.mem_append_right _ h))
def cks_X4_noteReading : List (List Cond) := [wsX4_noteReading_r1, wsX4_noteReading_r2]
theorem ck_X4_noteReading : ∀ c ∈ cks_X4_noteReading, ∀ w ∈ c, w ∈ wsX4_noteReading := fun c hc w hw => List.mem_cons_of_mem _ (List.mem_append_left _ (List.mem_append_left _ (List.mem_append_left _ (List.mem_append_left _ (goodIn_cat [wsX4_noteReading_r1] wsX4_noteReading_r2 c hc w hw)))))
set_option maxRecDepth 20000 in
theorem zbX4_noteReading_X1_noteDigit : GoodIn wsX4_noteReading (Cond.code yX1_noteDigit cX1_noteDigit 2 none :: [.fieldLink RX1 22 "ClayAccounts$Hole" "sureDigit" "I"]) := goodIn_k _ cks_X4_noteReading ck_X4_noteReading [(0, 12), (0, 13)] rfl (by decide +kernel)
set_option maxRecDepth 20000 in
theorem ggX4_noteReading_X1_noteDigit : GoodIn wsX4_noteReading wsX1_noteDigit := (goodIn_ca zbX4_noteReading_X1_noteDigit (goodIn_sub in_X4_noteReading_X1 zgw_X1))
set_option maxRecDepth 20000 in
theorem gX4_noteReading_X1_noteDigit : GoodIn wsX4_noteReading (wsV RX4 131 RX1 yX1_noteDigit wsX1_noteDigit) := goodIn_app (goodIn_of _ (by decide +kernel)) ggX4_noteReading_X1_noteDigit
theorem in_X4_noteReading_X2 : ∀ w ∈ wsX20, w ∈ wsX4_noteReading := fun _ h => List.mem_cons_of_mem _ (List.mem_append_right _ h)
set_option maxRecDepth 20000 in
theorem zbX4_noteReading_X2_noteValue : GoodIn wsX4_noteReading (Cond.code yX2_noteValue cX2_noteValue 2 none :: [.fieldLink RX2 24 "ClayAccounts$Line" "least" "I", .methodLink RX2 30 Lib.Math.min.name, .static Lib.Math.min.name, .initialized "java/lang/Math", .code Lib.Math.min.name Lib.Math.min.code 2 (some .int), .fieldLink RX2 27 "ClayAccounts$Line" "greatest" "I", .methodLink RX2 36 Lib.Math.max.name, .static Lib.Math.max.name, .code Lib.Math.max.name Lib.Math.max.code 2 (some .int)]) := goodIn_k _ cks_X4_noteReading ck_X4_noteReading [(0, 18), (0, 19), (0, 20), (0, 21), (0, 22), (0, 23), (1, 0), (1, 1), (1, 2), (1, 3)] rfl (by decide +kernel)
set_option maxRecDepth 20000 in
theorem ggX4_noteReading_X2_noteValue : GoodIn wsX4_noteReading wsX2_noteValue := (goodIn_ca zbX4_noteReading_X2_noteValue (goodIn_sub in_X4_noteReading_X2 zgw_X2))
set_option maxRecDepth 20000 in
theorem gX4_noteReading_X2_noteValue : GoodIn wsX4_noteReading (wsV RX4 134 RX2 yX2_noteValue wsX2_noteValue) := goodIn_app (goodIn_of _ (by decide +kernel)) ggX4_noteReading_X2_noteValue
set_option maxRecDepth 20000 in
theorem zbX5_init_X2_init : GoodIn wsX5_init (Cond.code yX2_init cX2_init 1 none :: [.methodLink RX2 3 objectInit, .instanceMethod objectInit, .code objectInit ⟨#[0xb1]⟩ 1 none]) := goodIn_r _ [13, 14, 2, 3] rfl (by decide +kernel)
set_option maxRecDepth 20000 in
theorem ggX5_init_X2_init : GoodIn wsX5_init wsX2_init := zbX5_init_X2_init
set_option maxRecDepth 20000 in
theorem gX5_init_X2_init_n23 : GoodIn wsX5_init (wsX2_init) := ggX5_init_X2_init
set_option maxRecDepth 20000 in
theorem zbX5_init_X1_init : GoodIn wsX5_init (Cond.code yX1_init cX1_init 1 none :: [.methodLink RX1 3 objectInit, .instanceMethod objectInit, .code objectInit ⟨#[0xb1]⟩ 1 none]) := goodIn_r _ [16, 17, 2, 3] rfl (by decide +kernel)
set_option maxRecDepth 20000 in
theorem ggX5_init_X1_init : GoodIn wsX5_init wsX1_init := zbX5_init_X1_init
set_option maxRecDepth 20000 in
theorem gX5_init_X1_init_n24 : GoodIn wsX5_init (wsX1_init) := ggX5_init_X1_init
theorem in_X5_addLine_X5 : ∀ w ∈ wsX50, w ∈ wsX5_addLine := fun _ h => List.mem_cons_of_mem _ (List.mem_append_left _ (List.mem_append_right _ h))
set_option maxRecDepth 20000 in
theorem zbX5_addLine_X5_isFull : GoodIn wsX5_addLine (Cond.code yX5_isFull cX5_isFull 1 (some .boolean) :: [.fieldLink RX5 25 "ClayAccounts$Tablet" "lineCount" "I"]) := goodIn_r _ [7, 2] rfl (by decide +kernel)
set_option maxRecDepth 20000 in
theorem ggX5_addLine_X5_isFull : GoodIn wsX5_addLine wsX5_isFull := (goodIn_ca zbX5_addLine_X5_isFull (goodIn_sub in_X5_addLine_X5 zgw_X5))
set_option maxRecDepth 20000 in
theorem gX5_addLine_X5_isFull : GoodIn wsX5_addLine (wsV RX5 42 RX5 yX5_isFull wsX5_isFull) := goodIn_app (goodIn_of _ (by decide +kernel)) ggX5_addLine_X5_isFull
theorem in_X5_addLine_X2 : ∀ w ∈ wsX20, w ∈ wsX5_addLine := fun _ h => List.mem_cons_of_mem _ (List.mem_append_right _ h)
set_option maxRecDepth 20000 in
theorem zbX5_addLine_X2_begin : GoodIn wsX5_addLine (Cond.code yX2_begin cX2_begin 2 none :: [.fieldLink RX2 9 "ClayAccounts$Line" "kind" "I", .fieldLink RX2 15 "ClayAccounts$Line" "system" "I", .fieldLink RX2 18 "ClayAccounts$Line" "holeCount" "I", .fieldLink RX2 21 "ClayAccounts$Line" "value" "I", .fieldLink RX2 24 "ClayAccounts$Line" "least" "I", .fieldLink RX2 27 "ClayAccounts$Line" "greatest" "I"]) := goodIn_r _ [12, 13, 14, 15, 16, 17, 18] rfl (by decide +kernel)
set_option maxRecDepth 20000 in
theorem ggX5_addLine_X2_begin : GoodIn wsX5_addLine wsX2_begin := (goodIn_ca zbX5_addLine_X2_begin (goodIn_sub in_X5_addLine_X2 zgw_X2))
set_option maxRecDepth 20000 in
theorem gX5_addLine_X2_begin : GoodIn wsX5_addLine (wsV RX5 46 RX2 yX2_begin wsX2_begin) := goodIn_app (goodIn_of _ (by decide +kernel)) ggX5_addLine_X2_begin
theorem in_X6_init_X7 : ∀ w ∈ wsX70, w ∈ wsX6_init := fun _ h => List.mem_cons_of_mem _ (List.mem_append_right _ h)
theorem in_X6_init_X8 : ∀ w ∈ wsX80, w ∈ wsX6_init := fun _ h => List.mem_cons_of_mem _ (List.mem_append_left _ (List.mem_append_left _ (List.mem_append_right _ h)))
def cks_X6_init : List (List Cond) := [wsX6_init_r1, wsX6_init_r2]
theorem ck_X6_init : ∀ c ∈ cks_X6_init, ∀ w ∈ c, w ∈ wsX6_init := fun c hc w hw => List.mem_cons_of_mem _ (List.mem_append_left _ (List.mem_append_left _ (List.mem_append_left _ (goodIn_cat [wsX6_init_r1] wsX6_init_r2 c hc w hw))))
set_option maxRecDepth 20000 in
theorem zbX6_init_X8_init : GoodIn wsX6_init (Cond.code yX8_init cX8_init 1 none :: [.methodLink RX8 3 objectInit, .instanceMethod objectInit, .code objectInit ⟨#[0xb1]⟩ 1 none, .classLink RX8 9 RX7, .instantiable RX7 2, .initialized RX7, .fieldLink RX8 14 "ClayAccounts$Tokens" "text" "LClayAccounts$Text;", .methodLink RX8 11 yX7_init, .instanceMethod yX7_init, .code yX7_init cX7_init 2 none, .methodLink RX7 3 objectInit, .methodLink RX7 9 Lib.Math.max.name, .static Lib.Math.max.name, .initialized "java/lang/Math", .code Lib.Math.max.name Lib.Math.max.code 2 (some .int), .arrayClass .byte, .fieldLink RX7 15 "ClayAccounts$Text" "bytes" "[B", .fieldLink RX7 21 "ClayAccounts$Text" "size" "I"]) := goodIn_k _ cks_X6_init ck_X6_init [(0, 8), (0, 9), (0, 1), (0, 2), (0, 10), (0, 11), (0, 12), (0, 13), (0, 14), (0, 15), (0, 16), (0, 17), (0, 18), (0, 19), (0, 20), (0, 21), (0, 22), (0, 23), (1, 0)] rfl (by decide +kernel)
set_option maxRecDepth 20000 in
theorem ggX6_init_X8_init : GoodIn wsX6_init wsX8_init := (goodIn_ca (goodIn_ca zbX6_init_X8_init (goodIn_sub in_X6_init_X7 zgw_X7)) (goodIn_sub in_X6_init_X8 zgw_X8))
set_option maxRecDepth 20000 in
theorem gX6_init_X8_init_n11 : GoodIn wsX6_init (wsX8_init) := ggX6_init_X8_init
theorem in_X6_read_X5 : ∀ w ∈ wsX50, w ∈ wsX6_read := fun _ h => List.mem_cons_of_mem _ (List.mem_append_left _ (List.mem_append_left _ (List.mem_append_left _ (List.mem_append_left _ (List.mem_append_right _ h)))))
def cks_X6_read : List (List Cond) := [wsX6_read_r1, wsX6_read_r2, wsX6_read_r3, wsX6_read_r4, wsX6_read_r5, wsX6_read_r6, wsX6_read_r7, wsX6_read_r8, wsX6_read_r9]
theorem ck_X6_read : ∀ c ∈ cks_X6_read, ∀ w ∈ c, w ∈ wsX6_read := fun c hc w hw => List.mem_cons_of_mem _ (List.mem_append_left _ (List.mem_append_left _ (List.mem_append_left _ (List.mem_append_left _ (List.mem_append_left _ (List.mem_append_left _ (List.mem_append_left _ (goodIn_cat [wsX6_read_r1, wsX6_read_r2, wsX6_read_r3, wsX6_read_r4, wsX6_read_r5, wsX6_read_r6, wsX6_read_r7, wsX6_read_r8] wsX6_read_r9 c hc w hw))))))))
set_option maxRecDepth 20000 in
theorem zbX6_read_X5_clear : GoodIn wsX6_read (Cond.code yX5_clear cX5_clear 1 none :: [.fieldLink RX5 25 "ClayAccounts$Tablet" "lineCount" "I", .fieldLink RX5 29 "ClayAccounts$Tablet" "holeCount" "I", .fieldLink RX5 32 "ClayAccounts$Tablet" "isSolved" "Z", .fieldLink RX5 36 "ClayAccounts$Tablet" "readingCount" "I", .fieldLink RX5 39 "ClayAccounts$Tablet" "fewestWrong" "I"]) := goodIn_k _ cks_X6_read ck_X6_read [(0, 8), (0, 9), (0, 10), (0, 11), (0, 12), (0, 13)] rfl (by decide +kernel)
set_option maxRecDepth 20000 in
theorem ggX6_read_X5_clear : GoodIn wsX6_read wsX5_clear := (goodIn_ca zbX6_read_X5_clear (goodIn_sub in_X6_read_X5 zgw_X5))
set_option maxRecDepth 20000 in
theorem gX6_read_X5_clear : GoodIn wsX6_read (wsV RX6 18 RX5 yX5_clear wsX5_clear) := goodIn_app (goodIn_of _ (by decide +kernel)) ggX6_read_X5_clear
theorem in_X6_read_X8 : ∀ w ∈ wsX80, w ∈ wsX6_read := fun _ h => List.mem_cons_of_mem _ (List.mem_append_left _ (List.mem_append_left _ (List.mem_append_left _ (List.mem_append_left _ (List.mem_append_left _ (List.mem_append_right _ h))))))
set_option maxRecDepth 20000 in
theorem zbX6_read_X8_begin : GoodIn wsX6_read (Cond.code yX8_begin cX8_begin 4 none :: [.fieldLink RX8 14 "ClayAccounts$Tokens" "text" "LClayAccounts$Text;", .fieldLink RX8 20 "ClayAccounts$Tokens" "most" "I", .fieldLink RX8 24 "ClayAccounts$Tokens" "withBroken" "Z", .fieldLink RX8 28 "ClayAccounts$Tokens" "at" "I", .fieldLink RX8 31 "ClayAccounts$Tokens" "fault" "I", .fieldLink RX8 34 "ClayAccounts$Tokens" "faultPlace" "I"]) := goodIn_k _ cks_X6_read ck_X6_read [(0, 18), (0, 19), (0, 20), (0, 21), (0, 22), (0, 23), (1, 0)] rfl (by decide +kernel)
set_option maxRecDepth 20000 in
theorem ggX6_read_X8_begin : GoodIn wsX6_read wsX8_begin := (goodIn_ca zbX6_read_X8_begin (goodIn_sub in_X6_read_X8 zgw_X8))
set_option maxRecDepth 20000 in
theorem gX6_read_X8_begin : GoodIn wsX6_read (wsV RX6 23 RX8 yX8_begin wsX8_begin) := goodIn_app (goodIn_of _ (by decide +kernel)) ggX6_read_X8_begin
theorem in_X6_read_X7 : ∀ w ∈ wsX70, w ∈ wsX6_read := fun _ h => List.mem_cons_of_mem _ (List.mem_append_left _ (List.mem_append_left _ (List.mem_append_left _ (List.mem_append_right _ h))))
set_option maxRecDepth 20000 in
theorem zbX6_read_X8_advance_0 : GoodIn wsX6_read [Cond.code yX8_advance cX8_advance 3 none] := goodIn_k _ cks_X6_read ck_X6_read [(1, 4)] rfl (by decide +kernel)
set_option maxRecDepth 20000 in
theorem zbX6_read_X8_advance_1 : GoodIn wsX6_read wsX8_advance_r1 := goodIn_k _ cks_X6_read ck_X6_read [(0, 19), (1, 5), (0, 20), (1, 6), (1, 7), (1, 8), (1, 9), (0, 22), (1, 10), (1, 11), (1, 12), (1, 13), (1, 14), (1, 15), (1, 16), (1, 17), (1, 18), (1, 19), (1, 20), (0, 17), (1, 21), (1, 22), (1, 23), (2, 0)] rfl (by decide +kernel)
set_option maxRecDepth 20000 in
theorem zbX6_read_X8_advance_2 : GoodIn wsX6_read wsX8_advance_r2 := goodIn_k _ cks_X6_read ck_X6_read [(2, 1), (2, 2), (2, 3), (2, 4), (2, 5), (2, 6), (2, 7), (2, 8), (2, 9), (2, 10), (2, 11), (2, 12), (2, 13), (2, 14), (2, 15), (2, 16), (0, 21), (2, 17), (2, 18), (2, 19), (2, 20), (2, 21), (2, 22), (2, 23)] rfl (by decide +kernel)
set_option maxRecDepth 20000 in
theorem zbX6_read_X8_advance_3 : GoodIn wsX6_read wsX8_advance_r3 := goodIn_k _ cks_X6_read ck_X6_read [(3, 0), (3, 1), (3, 2)] rfl (by decide +kernel)
set_option maxRecDepth 20000 in
theorem ggX6_read_X8_advance : GoodIn wsX6_read wsX8_advance := (goodIn_ca (goodIn_ca (goodIn_cc zbX6_read_X8_advance_0 (goodIn_app zbX6_read_X8_advance_1 (goodIn_app zbX6_read_X8_advance_2 zbX6_read_X8_advance_3))) (goodIn_sub in_X6_read_X8 zgw_X8)) (goodIn_sub in_X6_read_X7 zgw_X7))
set_option maxRecDepth 20000 in
theorem gX6_read_X8_advance : GoodIn wsX6_read (wsV RX6 31 RX8 yX8_advance wsX8_advance) := goodIn_app (goodIn_of _ (by decide +kernel)) ggX6_read_X8_advance
set_option maxRecDepth 20000 in
theorem zbX6_read_X8_endsWell : GoodIn wsX6_read (Cond.code yX8_endsWell cX8_endsWell 2 (some .boolean) :: [.fieldLink RX8 14 "ClayAccounts$Tokens" "text" "LClayAccounts$Text;", .fieldLink RX8 43 "ClayAccounts$Text" "size" "I", .fieldLink RX8 20 "ClayAccounts$Tokens" "most" "I", .fieldLink RX8 40 "ClayAccounts$Tokens" "place" "I", .methodLink RX8 46 yX8_refuse, .instanceMethod yX8_refuse, .selects RX8 yX8_refuse yX8_refuse, .initialized RX8, .code yX8_refuse cX8_refuse 3 (some .boolean), .fieldLink RX8 31 "ClayAccounts$Tokens" "fault" "I", .fieldLink RX8 34 "ClayAccounts$Tokens" "faultPlace" "I"]) := goodIn_k _ cks_X6_read ck_X6_read [(3, 6), (0, 19), (1, 5), (0, 20), (1, 11), (3, 7), (3, 8), (3, 9), (0, 17), (3, 10), (0, 23), (1, 0)] rfl (by decide +kernel)
set_option maxRecDepth 20000 in
theorem ggX6_read_X8_endsWell : GoodIn wsX6_read wsX8_endsWell := (goodIn_ca (goodIn_ca zbX6_read_X8_endsWell (goodIn_sub in_X6_read_X8 zgw_X8)) (goodIn_sub in_X6_read_X7 zgw_X7))
set_option maxRecDepth 20000 in
theorem gX6_read_X8_endsWell : GoodIn wsX6_read (wsV RX6 40 RX8 yX8_endsWell wsX8_endsWell) := goodIn_app (goodIn_of _ (by decide +kernel)) ggX6_read_X8_endsWell
theorem in_X6_read_X1 : ∀ w ∈ wsX10, w ∈ wsX6_read := fun _ h => List.mem_cons_of_mem _ (List.mem_append_right _ h)
theorem in_X6_read_X2 : ∀ w ∈ wsX20, w ∈ wsX6_read := fun _ h => List.mem_cons_of_mem _ (List.mem_append_left _ (List.mem_append_left _ (List.mem_append_right _ h)))
theorem in_X6_read_X6 : ∀ w ∈ wsX60, w ∈ wsX6_read := fun _ h => List.mem_cons_of_mem _ (List.mem_append_left _ (List.mem_append_left _ (List.mem_append_left _ (List.mem_append_left _ (List.mem_append_left _ (List.mem_append_left _ (List.mem_append_right _ h)))))))
theorem in_X6_read_X9 : ∀ w ∈ wsX90, w ∈ wsX6_read := fun _ h => List.mem_cons_of_mem _ (List.mem_append_left _ (List.mem_append_right _ h))
set_option maxRecDepth 20000 in
theorem zbX6_read_X6_takeToken_0 : GoodIn wsX6_read [Cond.code yX6_takeToken cX6_takeToken 3 (some .boolean)] := goodIn_k _ cks_X6_read ck_X6_read [(3, 15)] rfl (by decide +kernel)
set_option maxRecDepth 20000 in
theorem zbX6_read_X6_takeToken_1 : GoodIn wsX6_read wsX6_takeToken_r1 := goodIn_k _ cks_X6_read ck_X6_read [(0, 1), (0, 0), (0, 2), (3, 16), (3, 17), (3, 18), (3, 14), (3, 19), (3, 20), (3, 21), (3, 22), (3, 23), (4, 0), (4, 1), (4, 2), (0, 7), (4, 3), (0, 9), (4, 4), (4, 5), (4, 6), (4, 7), (4, 8), (4, 9)] rfl (by decide +kernel)
set_option maxRecDepth 20000 in
theorem zbX6_read_X6_takeToken_2 : GoodIn wsX6_read wsX6_takeToken_r2 := goodIn_k _ cks_X6_read ck_X6_read [(4, 10), (4, 11), (4, 12), (4, 13), (4, 14), (4, 15), (4, 16), (4, 17), (4, 18), (4, 19), (4, 20), (4, 21), (3, 8), (3, 9), (0, 17), (3, 10), (0, 23), (1, 0), (4, 22), (4, 23), (5, 0), (5, 1), (5, 2), (5, 3)] rfl (by decide +kernel)
set_option maxRecDepth 20000 in
theorem zbX6_read_X6_takeToken_3 : GoodIn wsX6_read wsX6_takeToken_r3 := goodIn_k _ cks_X6_read ck_X6_read [(5, 4), (5, 5), (5, 6), (5, 7), (5, 8), (5, 9), (5, 10), (1, 10), (1, 11), (5, 11), (5, 12), (5, 13), (5, 14), (5, 15), (5, 16), (5, 17), (5, 18), (5, 19), (5, 20), (5, 21), (5, 22), (5, 23), (6, 0), (6, 1)] rfl (by decide +kernel)
set_option maxRecDepth 20000 in
theorem zbX6_read_X6_takeToken_4 : GoodIn wsX6_read wsX6_takeToken_r4 := goodIn_k _ cks_X6_read ck_X6_read [(6, 2), (6, 3), (6, 4), (6, 5), (6, 6), (6, 7), (6, 8), (6, 9), (6, 10), (6, 11), (6, 12), (6, 13), (6, 14), (6, 15), (6, 16), (6, 17), (6, 18), (6, 19), (6, 20), (6, 21), (6, 22), (6, 23), (7, 0), (7, 1)] rfl (by decide +kernel)
set_option maxRecDepth 20000 in
theorem zbX6_read_X6_takeToken_5 : GoodIn wsX6_read wsX6_takeToken_r5 := goodIn_k _ cks_X6_read ck_X6_read [(7, 2), (7, 3), (7, 4), (7, 5), (0, 10), (7, 6), (7, 7), (7, 8), (7, 9), (7, 10), (7, 11), (7, 12), (7, 13), (7, 14), (7, 15), (7, 16), (7, 17), (7, 18), (7, 19), (7, 20), (7, 21), (7, 22), (7, 23), (8, 0)] rfl (by decide +kernel)
set_option maxRecDepth 20000 in
theorem zbX6_read_X6_takeToken_6 : GoodIn wsX6_read wsX6_takeToken_r6 := goodIn_k _ cks_X6_read ck_X6_read [(8, 1), (8, 2)] rfl (by decide +kernel)
set_option maxRecDepth 20000 in
theorem ggX6_read_X6_takeToken : GoodIn wsX6_read wsX6_takeToken := (goodIn_ca (goodIn_ca (goodIn_ca (goodIn_ca (goodIn_ca (goodIn_ca (goodIn_cc zbX6_read_X6_takeToken_0 (goodIn_app zbX6_read_X6_takeToken_1 (goodIn_app zbX6_read_X6_takeToken_2 (goodIn_app zbX6_read_X6_takeToken_3 (goodIn_app zbX6_read_X6_takeToken_4 (goodIn_app zbX6_read_X6_takeToken_5 zbX6_read_X6_takeToken_6)))))) (goodIn_sub in_X6_read_X6 zgw_X6)) (goodIn_sub in_X6_read_X8 zgw_X8)) (goodIn_sub in_X6_read_X5 zgw_X5)) (goodIn_sub in_X6_read_X2 zgw_X2)) (goodIn_sub in_X6_read_X9 zgw_X9)) (goodIn_sub in_X6_read_X1 zgw_X1))
set_option maxRecDepth 20000 in
theorem gX6_read_X6_takeToken : GoodIn wsX6_read (wsV RX6 44 RX6 yX6_takeToken wsX6_takeToken) := goodIn_app (goodIn_of _ (by decide +kernel)) ggX6_read_X6_takeToken
theorem in_X6_takeToken_X2 : ∀ w ∈ wsX20, w ∈ wsX6_takeToken := fun _ h => List.mem_cons_of_mem _ (List.mem_append_left _ (List.mem_append_left _ (List.mem_append_right _ h)))
theorem in_X6_takeToken_X5 : ∀ w ∈ wsX50, w ∈ wsX6_takeToken := fun _ h => List.mem_cons_of_mem _ (List.mem_append_left _ (List.mem_append_left _ (List.mem_append_left _ (List.mem_append_right _ h))))
theorem in_X6_takeToken_X6 : ∀ w ∈ wsX60, w ∈ wsX6_takeToken := fun _ h => List.mem_cons_of_mem _ (List.mem_append_left _ (List.mem_append_left _ (List.mem_append_left _ (List.mem_append_left _ (List.mem_append_left _ (List.mem_append_right _ h))))))
theorem in_X6_takeToken_X8 : ∀ w ∈ wsX80, w ∈ wsX6_takeToken := fun _ h => List.mem_cons_of_mem _ (List.mem_append_left _ (List.mem_append_left _ (List.mem_append_left _ (List.mem_append_left _ (List.mem_append_right _ h)))))
def cks_X6_takeToken : List (List Cond) := [wsX6_takeToken_r1, wsX6_takeToken_r2, wsX6_takeToken_r3, wsX6_takeToken_r4, wsX6_takeToken_r5, wsX6_takeToken_r6]
theorem ck_X6_takeToken : ∀ c ∈ cks_X6_takeToken, ∀ w ∈ c, w ∈ wsX6_takeToken := fun c hc w hw => List.mem_cons_of_mem _ (List.mem_append_left _ (List.mem_append_left _ (List.mem_append_left _ (List.mem_append_left _ (List.mem_append_left _ (List.mem_append_left _ (goodIn_cat [wsX6_takeToken_r1, wsX6_takeToken_r2, wsX6_takeToken_r3, wsX6_takeToken_r4, wsX6_takeToken_r5] wsX6_takeToken_r6 c hc w hw)))))))
set_option maxRecDepth 20000 in
theorem zbX6_takeToken_X6_beginLine_0 : GoodIn wsX6_takeToken [Cond.code yX6_beginLine cX6_beginLine 2 (some .boolean)] := goodIn_k _ cks_X6_takeToken ck_X6_takeToken [(0, 7)] rfl (by decide +kernel)
set_option maxRecDepth 20000 in
theorem zbX6_takeToken_X6_beginLine_1 : GoodIn wsX6_takeToken wsX6_beginLine_r1 := goodIn_k _ cks_X6_takeToken ck_X6_takeToken [(0, 8), (0, 9), (0, 1), (0, 2), (0, 10), (0, 0), (0, 11), (0, 12), (0, 13), (0, 14), (0, 15), (0, 16), (0, 17), (0, 18), (0, 19), (0, 20), (0, 21), (0, 22), (0, 23), (1, 0), (1, 1), (1, 2), (1, 3), (1, 4)] rfl (by decide +kernel)
set_option maxRecDepth 20000 in
theorem zbX6_takeToken_X6_beginLine_2 : GoodIn wsX6_takeToken wsX6_beginLine_r2 := goodIn_k _ cks_X6_takeToken ck_X6_takeToken [(1, 5), (1, 6), (1, 7), (1, 8), (1, 9), (1, 10), (1, 11), (1, 12), (1, 13), (1, 14), (1, 15), (1, 16), (1, 17), (1, 18), (1, 19), (1, 20), (0, 6), (1, 21), (1, 22), (1, 23), (2, 0), (2, 1), (2, 2), (2, 3)] rfl (by decide +kernel)
set_option maxRecDepth 20000 in
theorem zbX6_takeToken_X6_beginLine_3 : GoodIn wsX6_takeToken wsX6_beginLine_r3 := goodIn_k _ cks_X6_takeToken ck_X6_takeToken [(2, 4), (2, 5), (2, 6), (2, 7), (2, 8)] rfl (by decide +kernel)
set_option maxRecDepth 20000 in
theorem ggX6_takeToken_X6_beginLine : GoodIn wsX6_takeToken wsX6_beginLine := (goodIn_ca (goodIn_ca (goodIn_ca (goodIn_ca (goodIn_cc zbX6_takeToken_X6_beginLine_0 (goodIn_app zbX6_takeToken_X6_beginLine_1 (goodIn_app zbX6_takeToken_X6_beginLine_2 zbX6_takeToken_X6_beginLine_3))) (goodIn_sub in_X6_takeToken_X6 zgw_X6)) (goodIn_sub in_X6_takeToken_X8 zgw_X8)) (goodIn_sub in_X6_takeToken_X5 zgw_X5)) (goodIn_sub in_X6_takeToken_X2 zgw_X2))
set_option maxRecDepth 20000 in
theorem gX6_takeToken_X6_beginLine : GoodIn wsX6_takeToken (wsV RX6 48 RX6 yX6_beginLine wsX6_beginLine) := goodIn_app (goodIn_of _ (by decide +kernel)) ggX6_takeToken_X6_beginLine
set_option maxRecDepth 20000 in
theorem zbX6_takeToken_X6_takeCount : GoodIn wsX6_takeToken (Cond.code yX6_takeCount cX6_takeCount 1 (some .boolean) :: [.fieldLink RX6 12 "ClayAccounts$TabletReader" "tokens" "LClayAccounts$Tokens;", .fieldLink RX6 83 "ClayAccounts$Tokens" "place" "I", .fieldLink RX6 90 "ClayAccounts$TabletReader" "countPlace" "I", .fieldLink RX6 93 "ClayAccounts$Tokens" "tens" "I", .fieldLink RX6 96 "ClayAccounts$TabletReader" "tens" "I", .fieldLink RX6 97 "ClayAccounts$Tokens" "ones" "I", .fieldLink RX6 100 "ClayAccounts$TabletReader" "ones" "I", .fieldLink RX6 27 "ClayAccounts$TabletReader" "state" "I", .methodLink RX6 101 yX8_demand, .instanceMethod yX8_demand, .selects RX8 yX8_demand yX8_demand, .initialized RX8, .code yX8_demand cX8_demand 2 (some .boolean), .fieldLink RX8 37 "ClayAccounts$Tokens" "kind" "I", .fieldLink RX8 31 "ClayAccounts$Tokens" "fault" "I", .fieldLink RX8 40 "ClayAccounts$Tokens" "place" "I", .fieldLink RX8 34 "ClayAccounts$Tokens" "faultPlace" "I"]) := goodIn_k _ cks_X6_takeToken ck_X6_takeToken [(1, 21), (0, 1), (0, 11), (1, 22), (1, 23), (2, 0), (2, 1), (2, 2), (0, 0), (2, 3), (2, 4), (2, 5), (1, 14), (2, 6), (2, 7), (1, 16), (2, 8), (1, 17)] rfl (by decide +kernel)
set_option maxRecDepth 20000 in
theorem ggX6_takeToken_X6_takeCount : GoodIn wsX6_takeToken wsX6_takeCount := (goodIn_ca (goodIn_ca zbX6_takeToken_X6_takeCount (goodIn_sub in_X6_takeToken_X6 zgw_X6)) (goodIn_sub in_X6_takeToken_X8 zgw_X8))
set_option maxRecDepth 20000 in
theorem gX6_takeToken_X6_takeCount : GoodIn wsX6_takeToken (wsV RX6 52 RX6 yX6_takeCount wsX6_takeCount) := goodIn_app (goodIn_of _ (by decide +kernel)) ggX6_takeToken_X6_takeCount
theorem in_X6_takeToken_X1 : ∀ w ∈ wsX10, w ∈ wsX6_takeToken := fun _ h => List.mem_cons_of_mem _ (List.mem_append_right _ h)
theorem in_X6_takeToken_X9 : ∀ w ∈ wsX90, w ∈ wsX6_takeToken := fun _ h => List.mem_cons_of_mem _ (List.mem_append_left _ (List.mem_append_right _ h))
set_option maxRecDepth 20000 in
theorem zbX6_takeToken_X6_takeAmount_0 : GoodIn wsX6_takeToken [Cond.code yX6_takeAmount cX6_takeAmount 4 (some .boolean)] := goodIn_k _ cks_X6_takeToken ck_X6_takeToken [(2, 12)] rfl (by decide +kernel)
set_option maxRecDepth 20000 in
theorem zbX6_takeToken_X6_takeAmount_1 : GoodIn wsX6_takeToken wsX6_takeAmount_r1 := goodIn_k _ cks_X6_takeToken ck_X6_takeToken [(0, 1), (0, 2), (2, 13), (2, 14), (1, 22), (0, 8), (2, 15), (0, 9), (0, 11), (0, 0), (2, 16), (2, 17), (2, 18), (2, 19), (2, 20), (2, 21), (2, 22), (2, 23), (3, 0), (0, 6), (3, 1), (2, 0), (2, 2), (1, 11)] rfl (by decide +kernel)
set_option maxRecDepth 20000 in
theorem zbX6_takeToken_X6_takeAmount_2 : GoodIn wsX6_takeToken wsX6_takeAmount_r2 := goodIn_k _ cks_X6_takeToken ck_X6_takeToken [(1, 12), (1, 13), (1, 14), (1, 15), (1, 16), (1, 17), (3, 2), (3, 3), (3, 4), (3, 5), (2, 3), (2, 4), (2, 5), (2, 6), (2, 7), (2, 8), (3, 6), (3, 7), (3, 8), (3, 9), (3, 10), (3, 11), (3, 12), (3, 13)] rfl (by decide +kernel)
set_option maxRecDepth 20000 in
theorem zbX6_takeToken_X6_takeAmount_3 : GoodIn wsX6_takeToken wsX6_takeAmount_r3 := goodIn_k _ cks_X6_takeToken ck_X6_takeToken [(3, 14), (3, 15), (3, 16), (3, 17), (3, 18), (3, 19), (0, 15), (3, 20), (0, 17), (0, 22), (3, 21), (3, 22), (3, 23), (4, 0), (4, 1), (4, 2), (4, 3), (4, 4), (4, 5), (4, 6), (4, 7), (4, 8), (4, 9), (4, 10)] rfl (by decide +kernel)
set_option maxRecDepth 20000 in
theorem zbX6_takeToken_X6_takeAmount_4 : GoodIn wsX6_takeToken wsX6_takeAmount_r4 := goodIn_k _ cks_X6_takeToken ck_X6_takeToken [(4, 11), (4, 12), (4, 13), (4, 14), (4, 15), (4, 16), (4, 17)] rfl (by decide +kernel)
set_option maxRecDepth 20000 in
theorem ggX6_takeToken_X6_takeAmount : GoodIn wsX6_takeToken wsX6_takeAmount := (goodIn_ca (goodIn_ca (goodIn_ca (goodIn_ca (goodIn_ca (goodIn_ca (goodIn_cc zbX6_takeToken_X6_takeAmount_0 (goodIn_app zbX6_takeToken_X6_takeAmount_1 (goodIn_app zbX6_takeToken_X6_takeAmount_2 (goodIn_app zbX6_takeToken_X6_takeAmount_3 zbX6_takeToken_X6_takeAmount_4)))) (goodIn_sub in_X6_takeToken_X6 zgw_X6)) (goodIn_sub in_X6_takeToken_X8 zgw_X8)) (goodIn_sub in_X6_takeToken_X9 zgw_X9)) (goodIn_sub in_X6_takeToken_X5 zgw_X5)) (goodIn_sub in_X6_takeToken_X2 zgw_X2)) (goodIn_sub in_X6_takeToken_X1 zgw_X1))
set_option maxRecDepth 20000 in
theorem gX6_takeToken_X6_takeAmount : GoodIn wsX6_takeToken (wsV RX6 56 RX6 yX6_takeAmount wsX6_takeAmount) := goodIn_app (goodIn_of _ (by decide +kernel)) ggX6_takeToken_X6_takeAmount
set_option maxRecDepth 20000 in
theorem zbX6_takeToken_X6_takeNameOrEnd_0 : GoodIn wsX6_takeToken [Cond.code yX6_takeNameOrEnd cX6_takeNameOrEnd 2 (some .boolean)] := goodIn_k _ cks_X6_takeToken ck_X6_takeToken [(4, 21)] rfl (by decide +kernel)
set_option maxRecDepth 20000 in
theorem zbX6_takeToken_X6_takeNameOrEnd_1 : GoodIn wsX6_takeToken wsX6_takeNameOrEnd_r1 := goodIn_k _ cks_X6_takeToken ck_X6_takeToken [(0, 10), (0, 1), (0, 2), (0, 0), (2, 13), (0, 11), (4, 22), (4, 23), (5, 0), (0, 6), (5, 1), (2, 3), (2, 4), (2, 5), (1, 14), (2, 6), (2, 7), (1, 16), (2, 8), (1, 17), (2, 16), (2, 17), (2, 18), (2, 19)] rfl (by decide +kernel)
set_option maxRecDepth 20000 in
theorem zbX6_takeToken_X6_takeNameOrEnd_2 : GoodIn wsX6_takeToken wsX6_takeNameOrEnd_r2 := goodIn_k _ cks_X6_takeToken ck_X6_takeToken [(2, 20), (2, 21), (1, 11), (1, 12), (1, 13), (1, 15)] rfl (by decide +kernel)
set_option maxRecDepth 20000 in
theorem ggX6_takeToken_X6_takeNameOrEnd : GoodIn wsX6_takeToken wsX6_takeNameOrEnd := (goodIn_ca (goodIn_ca (goodIn_ca (goodIn_cc zbX6_takeToken_X6_takeNameOrEnd_0 (goodIn_app zbX6_takeToken_X6_takeNameOrEnd_1 zbX6_takeToken_X6_takeNameOrEnd_2)) (goodIn_sub in_X6_takeToken_X6 zgw_X6)) (goodIn_sub in_X6_takeToken_X8 zgw_X8)) (goodIn_sub in_X6_takeToken_X9 zgw_X9))
set_option maxRecDepth 20000 in
theorem gX6_takeToken_X6_takeNameOrEnd : GoodIn wsX6_takeToken (wsV RX6 59 RX6 yX6_takeNameOrEnd wsX6_takeNameOrEnd) := goodIn_app (goodIn_of _ (by decide +kernel)) ggX6_takeToken_X6_takeNameOrEnd
set_option maxRecDepth 20000 in
theorem zbX6_takeToken_X6_endLine : GoodIn wsX6_takeToken (Cond.code yX6_endLine cX6_endLine 1 (some .boolean) :: [.fieldLink RX6 27 "ClayAccounts$TabletReader" "state" "I", .fieldLink RX6 12 "ClayAccounts$TabletReader" "tokens" "LClayAccounts$Tokens;", .methodLink RX6 101 yX8_demand, .instanceMethod yX8_demand, .selects RX8 yX8_demand yX8_demand, .initialized RX8, .code yX8_demand cX8_demand 2 (some .boolean), .fieldLink RX8 37 "ClayAccounts$Tokens" "kind" "I", .fieldLink RX8 31 "ClayAccounts$Tokens" "fault" "I", .fieldLink RX8 40 "ClayAccounts$Tokens" "place" "I", .fieldLink RX8 34 "ClayAccounts$Tokens" "faultPlace" "I"]) := goodIn_k _ cks_X6_takeToken ck_X6_takeToken [(5, 1), (0, 0), (0, 1), (2, 3), (2, 4), (2, 5), (1, 14), (2, 6), (2, 7), (1, 16), (2, 8), (1, 17)] rfl (by decide +kernel)
set_option maxRecDepth 20000 in
theorem ggX6_takeToken_X6_endLine : GoodIn wsX6_takeToken wsX6_endLine := (goodIn_ca (goodIn_ca zbX6_takeToken_X6_endLine (goodIn_sub in_X6_takeToken_X6 zgw_X6)) (goodIn_sub in_X6_takeToken_X8 zgw_X8))
set_option maxRecDepth 20000 in
theorem gX6_takeToken_X6_endLine : GoodIn wsX6_takeToken (wsV RX6 63 RX6 yX6_endLine wsX6_endLine) := goodIn_app (goodIn_of _ (by decide +kernel)) ggX6_takeToken_X6_endLine
theorem in_X6_beginLine_X5 : ∀ w ∈ wsX50, w ∈ wsX6_beginLine := fun _ h => List.mem_cons_of_mem _ (List.mem_append_left _ (List.mem_append_right _ h))
def cks_X6_beginLine : List (List Cond) := [wsX6_beginLine_r1, wsX6_beginLine_r2, wsX6_beginLine_r3]
theorem ck_X6_beginLine : ∀ c ∈ cks_X6_beginLine, ∀ w ∈ c, w ∈ wsX6_beginLine := fun c hc w hw => List.mem_cons_of_mem _ (List.mem_append_left _ (List.mem_append_left _ (List.mem_append_left _ (List.mem_append_left _ (goodIn_cat [wsX6_beginLine_r1, wsX6_beginLine_r2] wsX6_beginLine_r3 c hc w hw)))))
set_option maxRecDepth 20000 in
theorem zbX6_beginLine_X5_isFull : GoodIn wsX6_beginLine (Cond.code yX5_isFull cX5_isFull 1 (some .boolean) :: [.fieldLink RX5 25 "ClayAccounts$Tablet" "lineCount" "I"]) := goodIn_k _ cks_X6_beginLine ck_X6_beginLine [(0, 11), (0, 12)] rfl (by decide +kernel)
set_option maxRecDepth 20000 in
theorem ggX6_beginLine_X5_isFull : GoodIn wsX6_beginLine wsX5_isFull := (goodIn_ca zbX6_beginLine_X5_isFull (goodIn_sub in_X6_beginLine_X5 zgw_X5))
set_option maxRecDepth 20000 in
theorem gX6_beginLine_X5_isFull : GoodIn wsX6_beginLine (wsV RX6 66 RX5 yX5_isFull wsX5_isFull) := goodIn_app (goodIn_of _ (by decide +kernel)) ggX6_beginLine_X5_isFull
theorem in_X6_beginLine_X2 : ∀ w ∈ wsX20, w ∈ wsX6_beginLine := fun _ h => List.mem_cons_of_mem _ (List.mem_append_right _ h)
set_option maxRecDepth 20000 in
theorem zbX6_beginLine_X5_addLine : GoodIn wsX6_beginLine (Cond.code yX5_addLine cX5_addLine 2 none :: [.fieldLink RX5 11 "ClayAccounts$Tablet" "lines" "[LClayAccounts$Line;", .fieldLink RX5 25 "ClayAccounts$Tablet" "lineCount" "I", .methodLink RX5 42 yX5_isFull, .instanceMethod yX5_isFull, .selects RX5 yX5_isFull yX5_isFull, .initialized RX5, .code yX5_isFull cX5_isFull 1 (some .boolean), .methodLink RX5 46 yX2_begin, .instanceMethod yX2_begin, .selects RX2 yX2_begin yX2_begin, .initialized RX2, .code yX2_begin cX2_begin 2 none, .fieldLink RX2 9 "ClayAccounts$Line" "kind" "I", .fieldLink RX2 15 "ClayAccounts$Line" "system" "I", .fieldLink RX2 18 "ClayAccounts$Line" "holeCount" "I", .fieldLink RX2 21 "ClayAccounts$Line" "value" "I", .fieldLink RX2 24 "ClayAccounts$Line" "least" "I", .fieldLink RX2 27 "ClayAccounts$Line" "greatest" "I"]) := goodIn_k _ cks_X6_beginLine ck_X6_beginLine [(0, 16), (0, 17), (0, 12), (0, 18), (0, 8), (0, 9), (0, 10), (0, 11), (0, 19), (0, 20), (0, 21), (0, 22), (0, 23), (1, 0), (1, 1), (1, 2), (1, 3), (1, 4), (1, 5)] rfl (by decide +kernel)
set_option maxRecDepth 20000 in
theorem ggX6_beginLine_X5_addLine : GoodIn wsX6_beginLine wsX5_addLine := (goodIn_ca (goodIn_ca zbX6_beginLine_X5_addLine (goodIn_sub in_X6_beginLine_X5 zgw_X5)) (goodIn_sub in_X6_beginLine_X2 zgw_X2))
set_option maxRecDepth 20000 in
theorem gX6_beginLine_X5_addLine : GoodIn wsX6_beginLine (wsV RX6 79 RX5 yX5_addLine wsX5_addLine) := goodIn_app (goodIn_of _ (by decide +kernel)) ggX6_beginLine_X5_addLine
theorem in_X6_beginLine_X8 : ∀ w ∈ wsX80, w ∈ wsX6_beginLine := fun _ h => List.mem_cons_of_mem _ (List.mem_append_left _ (List.mem_append_left _ (List.mem_append_right _ h)))
set_option maxRecDepth 20000 in
theorem zbX6_beginLine_X8_refuse : GoodIn wsX6_beginLine (Cond.code yX8_refuse cX8_refuse 3 (some .boolean) :: [.fieldLink RX8 31 "ClayAccounts$Tokens" "fault" "I", .fieldLink RX8 34 "ClayAccounts$Tokens" "faultPlace" "I"]) := goodIn_k _ cks_X6_beginLine ck_X6_beginLine [(1, 10), (1, 11), (1, 12)] rfl (by decide +kernel)
set_option maxRecDepth 20000 in
theorem ggX6_beginLine_X8_refuse : GoodIn wsX6_beginLine wsX8_refuse := (goodIn_ca zbX6_beginLine_X8_refuse (goodIn_sub in_X6_beginLine_X8 zgw_X8))
set_option maxRecDepth 20000 in
theorem gX6_beginLine_X8_refuse : GoodIn wsX6_beginLine (wsV RX6 86 RX8 yX8_refuse wsX8_refuse) := goodIn_app (goodIn_of _ (by decide +kernel)) ggX6_beginLine_X8_refuse
theorem in_X6_beginLine_X6 : ∀ w ∈ wsX60, w ∈ wsX6_beginLine := fun _ h => List.mem_cons_of_mem _ (List.mem_append_left _ (List.mem_append_left _ (List.mem_append_left _ (List.mem_append_right _ h))))
set_option maxRecDepth 20000 in
theorem zbX6_beginLine_X6_takeCount : GoodIn wsX6_beginLine (Cond.code yX6_takeCount cX6_takeCount 1 (some .boolean) :: [.fieldLink RX6 12 "ClayAccounts$TabletReader" "tokens" "LClayAccounts$Tokens;", .fieldLink RX6 83 "ClayAccounts$Tokens" "place" "I", .fieldLink RX6 90 "ClayAccounts$TabletReader" "countPlace" "I", .fieldLink RX6 93 "ClayAccounts$Tokens" "tens" "I", .fieldLink RX6 96 "ClayAccounts$TabletReader" "tens" "I", .fieldLink RX6 97 "ClayAccounts$Tokens" "ones" "I", .fieldLink RX6 100 "ClayAccounts$TabletReader" "ones" "I", .fieldLink RX6 27 "ClayAccounts$TabletReader" "state" "I", .methodLink RX6 101 yX8_demand, .instanceMethod yX8_demand, .selects RX8 yX8_demand yX8_demand, .initialized RX8, .code yX8_demand cX8_demand 2 (some .boolean), .fieldLink RX8 37 "ClayAccounts$Tokens" "kind" "I", .fieldLink RX8 31 "ClayAccounts$Tokens" "fault" "I", .fieldLink RX8 40 "ClayAccounts$Tokens" "place" "I", .fieldLink RX8 34 "ClayAccounts$Tokens" "faultPlace" "I"]) := goodIn_k _ cks_X6_beginLine ck_X6_beginLine [(1, 17), (0, 2), (0, 6), (1, 18), (1, 19), (1, 20), (1, 21), (1, 22), (0, 5), (1, 23), (2, 0), (2, 1), (1, 9), (2, 2), (2, 3), (1, 11), (2, 4), (1, 12)] rfl (by decide +kernel)
set_option maxRecDepth 20000 in
theorem ggX6_beginLine_X6_takeCount : GoodIn wsX6_beginLine wsX6_takeCount := (goodIn_ca (goodIn_ca zbX6_beginLine_X6_takeCount (goodIn_sub in_X6_beginLine_X6 zgw_X6)) (goodIn_sub in_X6_beginLine_X8 zgw_X8))
set_option maxRecDepth 20000 in
theorem gX6_beginLine_X6_takeCount : GoodIn wsX6_beginLine (wsV RX6 52 RX6 yX6_takeCount wsX6_takeCount) := goodIn_app (goodIn_of _ (by decide +kernel)) ggX6_beginLine_X6_takeCount
theorem in_X6_takeCount_X8 : ∀ w ∈ wsX80, w ∈ wsX6_takeCount := fun _ h => List.mem_cons_of_mem _ (List.mem_append_right _ h)
set_option maxRecDepth 20000 in
theorem zbX6_takeCount_X8_demand : GoodIn wsX6_takeCount (Cond.code yX8_demand cX8_demand 2 (some .boolean) :: [.fieldLink RX8 37 "ClayAccounts$Tokens" "kind" "I", .fieldLink RX8 31 "ClayAccounts$Tokens" "fault" "I", .fieldLink RX8 40 "ClayAccounts$Tokens" "place" "I", .fieldLink RX8 34 "ClayAccounts$Tokens" "faultPlace" "I"]) := goodIn_r _ [13, 14, 15, 16, 17] rfl (by decide +kernel)
set_option maxRecDepth 20000 in
theorem ggX6_takeCount_X8_demand : GoodIn wsX6_takeCount wsX8_demand := (goodIn_ca zbX6_takeCount_X8_demand (goodIn_sub in_X6_takeCount_X8 zgw_X8))
set_option maxRecDepth 20000 in
theorem gX6_takeCount_X8_demand : GoodIn wsX6_takeCount (wsV RX6 101 RX8 yX8_demand wsX8_demand) := goodIn_app (goodIn_of _ (by decide +kernel)) ggX6_takeCount_X8_demand
theorem in_X6_takeAmount_X9 : ∀ w ∈ wsX90, w ∈ wsX6_takeAmount := fun _ h => List.mem_cons_of_mem _ (List.mem_append_left _ (List.mem_append_left _ (List.mem_append_left _ (List.mem_append_right _ h))))
def cks_X6_takeAmount : List (List Cond) := [wsX6_takeAmount_r1, wsX6_takeAmount_r2, wsX6_takeAmount_r3, wsX6_takeAmount_r4]
theorem ck_X6_takeAmount : ∀ c ∈ cks_X6_takeAmount, ∀ w ∈ c, w ∈ wsX6_takeAmount := fun c hc w hw => List.mem_cons_of_mem _ (List.mem_append_left _ (List.mem_append_left _ (List.mem_append_left _ (List.mem_append_left _ (List.mem_append_left _ (List.mem_append_left _ (goodIn_cat [wsX6_takeAmount_r1, wsX6_takeAmount_r2, wsX6_takeAmount_r3] wsX6_takeAmount_r4 c hc w hw)))))))
set_option maxRecDepth 20000 in
theorem zbX6_takeAmount_X9_find : GoodIn wsX6_takeAmount (Cond.code yX9_find cX9_find 4 (some .int) :: [.fieldLink RX9 19 "ClayAccounts$Units" "names" "[J"]) := goodIn_k _ cks_X6_takeAmount ck_X6_takeAmount [(0, 14), (0, 15)] rfl (by decide +kernel)
set_option maxRecDepth 20000 in
theorem ggX6_takeAmount_X9_find : GoodIn wsX6_takeAmount wsX9_find := (goodIn_ca zbX6_takeAmount_X9_find (goodIn_sub in_X6_takeAmount_X9 zgw_X9))
set_option maxRecDepth 20000 in
theorem gX6_takeAmount_X9_find : GoodIn wsX6_takeAmount (wsV RX6 108 RX9 yX9_find wsX9_find) := goodIn_app (goodIn_of _ (by decide +kernel)) ggX6_takeAmount_X9_find
theorem in_X6_takeAmount_X6 : ∀ w ∈ wsX60, w ∈ wsX6_takeAmount := fun _ h => List.mem_cons_of_mem _ (List.mem_append_left _ (List.mem_append_left _ (List.mem_append_left _ (List.mem_append_left _ (List.mem_append_left _ (List.mem_append_right _ h))))))
set_option maxRecDepth 20000 in
theorem zbX6_takeAmount_X6_canCountBe : GoodIn wsX6_takeAmount (Cond.code yX6_canCountBe cX6_canCountBe 4 (some .boolean) :: [.fieldLink RX6 96 "ClayAccounts$TabletReader" "tens" "I", .fieldLink RX6 100 "ClayAccounts$TabletReader" "ones" "I"]) := goodIn_k _ cks_X6_takeAmount ck_X6_takeAmount [(0, 20), (0, 21), (0, 22)] rfl (by decide +kernel)
set_option maxRecDepth 20000 in
theorem ggX6_takeAmount_X6_canCountBe : GoodIn wsX6_takeAmount wsX6_canCountBe := (goodIn_ca zbX6_takeAmount_X6_canCountBe (goodIn_sub in_X6_takeAmount_X6 zgw_X6))
set_option maxRecDepth 20000 in
theorem gX6_takeAmount_X6_canCountBe : GoodIn wsX6_takeAmount (wsV RX6 118 RX6 yX6_canCountBe wsX6_canCountBe) := goodIn_app (goodIn_of _ (by decide +kernel)) ggX6_takeAmount_X6_canCountBe
theorem in_X6_takeAmount_X8 : ∀ w ∈ wsX80, w ∈ wsX6_takeAmount := fun _ h => List.mem_cons_of_mem _ (List.mem_append_left _ (List.mem_append_left _ (List.mem_append_left _ (List.mem_append_left _ (List.mem_append_right _ h)))))
set_option maxRecDepth 20000 in
theorem zbX6_takeAmount_X8_refuse : GoodIn wsX6_takeAmount (Cond.code yX8_refuse cX8_refuse 3 (some .boolean) :: [.fieldLink RX8 31 "ClayAccounts$Tokens" "fault" "I", .fieldLink RX8 34 "ClayAccounts$Tokens" "faultPlace" "I"]) := goodIn_k _ cks_X6_takeAmount ck_X6_takeAmount [(1, 3), (1, 4), (1, 5)] rfl (by decide +kernel)
set_option maxRecDepth 20000 in
theorem ggX6_takeAmount_X8_refuse : GoodIn wsX6_takeAmount wsX8_refuse := (goodIn_ca zbX6_takeAmount_X8_refuse (goodIn_sub in_X6_takeAmount_X8 zgw_X8))
set_option maxRecDepth 20000 in
theorem gX6_takeAmount_X8_refuse : GoodIn wsX6_takeAmount (wsV RX6 86 RX8 yX8_refuse wsX8_refuse) := goodIn_app (goodIn_of _ (by decide +kernel)) ggX6_takeAmount_X8_refuse
set_option maxRecDepth 20000 in
theorem zbX6_takeAmount_X6_brokenDigits : GoodIn wsX6_takeAmount (Cond.code yX6_brokenDigits cX6_brokenDigits 1 (some .int) :: [.fieldLink RX6 96 "ClayAccounts$TabletReader" "tens" "I", .fieldLink RX6 100 "ClayAccounts$TabletReader" "ones" "I"]) := goodIn_k _ cks_X6_takeAmount ck_X6_takeAmount [(1, 9), (0, 21), (0, 22)] rfl (by decide +kernel)
set_option maxRecDepth 20000 in
theorem ggX6_takeAmount_X6_brokenDigits : GoodIn wsX6_takeAmount wsX6_brokenDigits := (goodIn_ca zbX6_takeAmount_X6_brokenDigits (goodIn_sub in_X6_takeAmount_X6 zgw_X6))
set_option maxRecDepth 20000 in
theorem gX6_takeAmount_X6_brokenDigits : GoodIn wsX6_takeAmount (wsV RX6 124 RX6 yX6_brokenDigits wsX6_brokenDigits) := goodIn_app (goodIn_of _ (by decide +kernel)) ggX6_takeAmount_X6_brokenDigits
set_option maxRecDepth 20000 in
theorem zbX6_takeAmount_X8_demand : GoodIn wsX6_takeAmount (Cond.code yX8_demand cX8_demand 2 (some .boolean) :: [.fieldLink RX8 37 "ClayAccounts$Tokens" "kind" "I", .fieldLink RX8 31 "ClayAccounts$Tokens" "fault" "I", .fieldLink RX8 40 "ClayAccounts$Tokens" "place" "I", .fieldLink RX8 34 "ClayAccounts$Tokens" "faultPlace" "I"]) := goodIn_k _ cks_X6_takeAmount ck_X6_takeAmount [(1, 13), (1, 14), (1, 4), (1, 15), (1, 5)] rfl (by decide +kernel)
set_option maxRecDepth 20000 in
theorem ggX6_takeAmount_X8_demand : GoodIn wsX6_takeAmount wsX8_demand := (goodIn_ca zbX6_takeAmount_X8_demand (goodIn_sub in_X6_takeAmount_X8 zgw_X8))
set_option maxRecDepth 20000 in
theorem gX6_takeAmount_X8_demand : GoodIn wsX6_takeAmount (wsV RX6 101 RX8 yX8_demand wsX8_demand) := goodIn_app (goodIn_of _ (by decide +kernel)) ggX6_takeAmount_X8_demand
set_option maxRecDepth 20000 in
theorem zbX6_takeAmount_X6_isLesser : GoodIn wsX6_takeAmount (Cond.code yX6_isLesser cX6_isLesser 2 (some .boolean) :: [.methodLink RX6 135 yX9_systemOf, .static yX9_systemOf, .initialized RX9, .code yX9_systemOf cX9_systemOf 1 (some .int)]) := goodIn_k _ cks_X6_takeAmount ck_X6_takeAmount [(1, 18), (1, 19), (1, 20), (0, 13), (1, 21)] rfl (by decide +kernel)
set_option maxRecDepth 20000 in
theorem ggX6_takeAmount_X6_isLesser : GoodIn wsX6_takeAmount wsX6_isLesser := zbX6_takeAmount_X6_isLesser
set_option maxRecDepth 20000 in
theorem gX6_takeAmount_X6_isLesser : GoodIn wsX6_takeAmount (va_wsS RX6 128 yX6_isLesser wsX6_isLesser) := goodIn_app (goodIn_of _ (by decide +kernel)) ggX6_takeAmount_X6_isLesser
theorem in_X6_takeAmount_X1 : ∀ w ∈ wsX10, w ∈ wsX6_takeAmount := fun _ h => List.mem_cons_of_mem _ (List.mem_append_right _ h)
theorem in_X6_takeAmount_X2 : ∀ w ∈ wsX20, w ∈ wsX6_takeAmount := fun _ h => List.mem_cons_of_mem _ (List.mem_append_left _ (List.mem_append_right _ h))
theorem in_X6_takeAmount_X5 : ∀ w ∈ wsX50, w ∈ wsX6_takeAmount := fun _ h => List.mem_cons_of_mem _ (List.mem_append_left _ (List.mem_append_left _ (List.mem_append_right _ h)))
set_option maxRecDepth 20000 in
theorem zbX6_takeAmount_X6_addAmount_0 : GoodIn wsX6_takeAmount [Cond.code yX6_addAmount cX6_addAmount 9 none] := goodIn_k _ cks_X6_takeAmount ck_X6_takeAmount [(2, 1)] rfl (by decide +kernel)
set_option maxRecDepth 20000 in
theorem zbX6_takeAmount_X6_addAmount_1 : GoodIn wsX6_takeAmount wsX6_addAmount_r1 := goodIn_k _ cks_X6_takeAmount ck_X6_takeAmount [(2, 2), (0, 3), (0, 21), (0, 22), (1, 19), (1, 20), (0, 13), (1, 21), (2, 3), (2, 4), (2, 5), (2, 6), (2, 7), (2, 8), (2, 9), (2, 10), (2, 11), (2, 12), (2, 13), (2, 14), (2, 15), (2, 16), (2, 17), (2, 18)] rfl (by decide +kernel)
set_option maxRecDepth 20000 in
theorem zbX6_takeAmount_X6_addAmount_2 : GoodIn wsX6_takeAmount wsX6_addAmount_r2 := goodIn_k _ cks_X6_takeAmount ck_X6_takeAmount [(2, 19), (2, 20), (2, 21), (2, 22), (2, 23), (3, 0), (3, 1), (3, 2), (3, 3), (3, 4), (3, 5), (3, 6)] rfl (by decide +kernel)
set_option maxRecDepth 20000 in
theorem ggX6_takeAmount_X6_addAmount : GoodIn wsX6_takeAmount wsX6_addAmount := (goodIn_ca (goodIn_ca (goodIn_ca (goodIn_ca (goodIn_ca (goodIn_cc zbX6_takeAmount_X6_addAmount_0 (goodIn_app zbX6_takeAmount_X6_addAmount_1 zbX6_takeAmount_X6_addAmount_2)) (goodIn_sub in_X6_takeAmount_X9 zgw_X9)) (goodIn_sub in_X6_takeAmount_X6 zgw_X6)) (goodIn_sub in_X6_takeAmount_X5 zgw_X5)) (goodIn_sub in_X6_takeAmount_X2 zgw_X2)) (goodIn_sub in_X6_takeAmount_X1 zgw_X1))
set_option maxRecDepth 20000 in
theorem gX6_takeAmount_X6_addAmount : GoodIn wsX6_takeAmount (wsV RX6 131 RX6 yX6_addAmount wsX6_addAmount) := goodIn_app (goodIn_of _ (by decide +kernel)) ggX6_takeAmount_X6_addAmount
set_option maxRecDepth 20000 in
theorem zbX6_isLesser_X9_systemOf : GoodIn wsX6_isLesser (Cond.code yX9_systemOf cX9_systemOf 1 (some .int) :: []) := goodIn_r _ [4] rfl (by decide +kernel)
set_option maxRecDepth 20000 in
theorem ggX6_isLesser_X9_systemOf : GoodIn wsX6_isLesser wsX9_systemOf := zbX6_isLesser_X9_systemOf
set_option maxRecDepth 20000 in
theorem gX6_isLesser_X9_systemOf : GoodIn wsX6_isLesser (va_wsS RX6 135 yX9_systemOf wsX9_systemOf) := goodIn_app (goodIn_of _ (by decide +kernel)) ggX6_isLesser_X9_systemOf
def cks_X6_addAmount : List (List Cond) := [wsX6_addAmount_r1, wsX6_addAmount_r2]
theorem ck_X6_addAmount : ∀ c ∈ cks_X6_addAmount, ∀ w ∈ c, w ∈ wsX6_addAmount := fun c hc w hw => List.mem_cons_of_mem _ (List.mem_append_left _ (List.mem_append_left _ (List.mem_append_left _ (List.mem_append_left _ (List.mem_append_left _ (goodIn_cat [wsX6_addAmount_r1] wsX6_addAmount_r2 c hc w hw))))))
set_option maxRecDepth 20000 in
theorem zbX6_addAmount_X9_systemOf : GoodIn wsX6_addAmount (Cond.code yX9_systemOf cX9_systemOf 1 (some .int) :: []) := goodIn_k _ cks_X6_addAmount ck_X6_addAmount [(0, 7)] rfl (by decide +kernel)
set_option maxRecDepth 20000 in
theorem ggX6_addAmount_X9_systemOf : GoodIn wsX6_addAmount wsX9_systemOf := zbX6_addAmount_X9_systemOf
set_option maxRecDepth 20000 in
theorem gX6_addAmount_X9_systemOf : GoodIn wsX6_addAmount (va_wsS RX6 135 yX9_systemOf wsX9_systemOf) := goodIn_app (goodIn_of _ (by decide +kernel)) ggX6_addAmount_X9_systemOf
theorem in_X6_addAmount_X2 : ∀ w ∈ wsX20, w ∈ wsX6_addAmount := fun _ h => List.mem_cons_of_mem _ (List.mem_append_left _ (List.mem_append_right _ h))
theorem in_X6_addAmount_X5 : ∀ w ∈ wsX50, w ∈ wsX6_addAmount := fun _ h => List.mem_cons_of_mem _ (List.mem_append_left _ (List.mem_append_left _ (List.mem_append_right _ h)))
set_option maxRecDepth 20000 in
theorem zbX6_addAmount_X5_addKnown : GoodIn wsX6_addAmount (Cond.code yX5_addKnown cX5_addKnown 4 none :: [.fieldLink RX5 25 "ClayAccounts$Tablet" "lineCount" "I", .fieldLink RX5 11 "ClayAccounts$Tablet" "lines" "[LClayAccounts$Line;", .fieldLink RX5 50 "ClayAccounts$Line" "system" "I", .fieldLink RX5 53 "ClayAccounts$Line" "value" "I"]) := goodIn_k _ cks_X6_addAmount ck_X6_addAmount [(0, 12), (0, 13), (0, 14), (0, 15), (0, 16)] rfl (by decide +kernel)
set_option maxRecDepth 20000 in
theorem ggX6_addAmount_X5_addKnown : GoodIn wsX6_addAmount wsX5_addKnown := (goodIn_ca (goodIn_ca zbX6_addAmount_X5_addKnown (goodIn_sub in_X6_addAmount_X5 zgw_X5)) (goodIn_sub in_X6_addAmount_X2 zgw_X2))
set_option maxRecDepth 20000 in
theorem gX6_addAmount_X5_addKnown : GoodIn wsX6_addAmount (wsV RX6 142 RX5 yX5_addKnown wsX5_addKnown) := goodIn_app (goodIn_of _ (by decide +kernel)) ggX6_addAmount_X5_addKnown
theorem in_X6_addAmount_X1 : ∀ w ∈ wsX10, w ∈ wsX6_addAmount := fun _ h => List.mem_cons_of_mem _ (List.mem_append_right _ h)
set_option maxRecDepth 20000 in
theorem zbX6_addAmount_X5_addHole : GoodIn wsX6_addAmount (Cond.code yX5_addHole cX5_addHole 5 (some (.object "ClayAccounts$Hole")) :: [.fieldLink RX5 19 "ClayAccounts$Tablet" "holes" "[LClayAccounts$Hole;", .fieldLink RX5 29 "ClayAccounts$Tablet" "holeCount" "I", .fieldLink RX5 25 "ClayAccounts$Tablet" "lineCount" "I", .fieldLink RX5 56 "ClayAccounts$Hole" "line" "I", .fieldLink RX5 59 "ClayAccounts$Hole" "scale" "I", .fieldLink RX5 62 "ClayAccounts$Hole" "weight" "I", .fieldLink RX5 65 "ClayAccounts$Hole" "sureDigit" "I", .fieldLink RX5 11 "ClayAccounts$Tablet" "lines" "[LClayAccounts$Line;", .fieldLink RX5 68 "ClayAccounts$Line" "holeCount" "I"]) := goodIn_k _ cks_X6_addAmount ck_X6_addAmount [(0, 20), (0, 21), (0, 22), (0, 13), (0, 23), (1, 0), (1, 1), (1, 2), (0, 14), (1, 3)] rfl (by decide +kernel)
set_option maxRecDepth 20000 in
theorem ggX6_addAmount_X5_addHole : GoodIn wsX6_addAmount wsX5_addHole := (goodIn_ca (goodIn_ca (goodIn_ca zbX6_addAmount_X5_addHole (goodIn_sub in_X6_addAmount_X5 zgw_X5)) (goodIn_sub in_X6_addAmount_X1 zgw_X1)) (goodIn_sub in_X6_addAmount_X2 zgw_X2))
set_option maxRecDepth 20000 in
theorem gX6_addAmount_X5_addHole : GoodIn wsX6_addAmount (wsV RX6 146 RX5 yX5_addHole wsX5_addHole) := goodIn_app (goodIn_of _ (by decide +kernel)) ggX6_addAmount_X5_addHole
set_option maxRecDepth 20000 in
theorem zbX6_addAmount_X1_limit : GoodIn wsX6_addAmount (Cond.code yX1_limit cX1_limit 4 none :: [.fieldLink RX1 9 "ClayAccounts$Hole" "leastDigit" "I", .fieldLink RX1 15 "ClayAccounts$Hole" "room" "I", .fieldLink RX1 18 "ClayAccounts$Hole" "isBehindHole" "Z"]) := goodIn_k _ cks_X6_addAmount ck_X6_addAmount [(1, 8), (1, 9), (1, 10), (1, 11)] rfl (by decide +kernel)
set_option maxRecDepth 20000 in
theorem ggX6_addAmount_X1_limit : GoodIn wsX6_addAmount wsX1_limit := (goodIn_ca zbX6_addAmount_X1_limit (goodIn_sub in_X6_addAmount_X1 zgw_X1))
set_option maxRecDepth 20000 in
theorem gX6_addAmount_X1_limit : GoodIn wsX6_addAmount (wsV RX6 150 RX1 yX1_limit wsX1_limit) := goodIn_app (goodIn_of _ (by decide +kernel)) ggX6_addAmount_X1_limit
theorem in_X6_takeNameOrEnd_X6 : ∀ w ∈ wsX60, w ∈ wsX6_takeNameOrEnd := fun _ h => List.mem_cons_of_mem _ (List.mem_append_left _ (List.mem_append_left _ (List.mem_append_right _ h)))
theorem in_X6_takeNameOrEnd_X8 : ∀ w ∈ wsX80, w ∈ wsX6_takeNameOrEnd := fun _ h => List.mem_cons_of_mem _ (List.mem_append_left _ (List.mem_append_right _ h))
def cks_X6_takeNameOrEnd : List (List Cond) := [wsX6_takeNameOrEnd_r1, wsX6_takeNameOrEnd_r2]
theorem ck_X6_takeNameOrEnd : ∀ c ∈ cks_X6_takeNameOrEnd, ∀ w ∈ c, w ∈ wsX6_takeNameOrEnd := fun c hc w hw => List.mem_cons_of_mem _ (List.mem_append_left _ (List.mem_append_left _ (List.mem_append_left _ (goodIn_cat [wsX6_takeNameOrEnd_r1] wsX6_takeNameOrEnd_r2 c hc w hw))))
set_option maxRecDepth 20000 in
theorem zbX6_takeNameOrEnd_X6_endLine : GoodIn wsX6_takeNameOrEnd (Cond.code yX6_endLine cX6_endLine 1 (some .boolean) :: [.fieldLink RX6 27 "ClayAccounts$TabletReader" "state" "I", .fieldLink RX6 12 "ClayAccounts$TabletReader" "tokens" "LClayAccounts$Tokens;", .methodLink RX6 101 yX8_demand, .instanceMethod yX8_demand, .selects RX8 yX8_demand yX8_demand, .initialized RX8, .code yX8_demand cX8_demand 2 (some .boolean), .fieldLink RX8 37 "ClayAccounts$Tokens" "kind" "I", .fieldLink RX8 31 "ClayAccounts$Tokens" "fault" "I", .fieldLink RX8 40 "ClayAccounts$Tokens" "place" "I", .fieldLink RX8 34 "ClayAccounts$Tokens" "faultPlace" "I"]) := goodIn_k _ cks_X6_takeNameOrEnd ck_X6_takeNameOrEnd [(0, 10), (0, 3), (0, 1), (0, 11), (0, 12), (0, 13), (0, 14), (0, 15), (0, 16), (0, 17), (0, 18), (0, 19)] rfl (by decide +kernel)
set_option maxRecDepth 20000 in
theorem ggX6_takeNameOrEnd_X6_endLine : GoodIn wsX6_takeNameOrEnd wsX6_endLine := (goodIn_ca (goodIn_ca zbX6_takeNameOrEnd_X6_endLine (goodIn_sub in_X6_takeNameOrEnd_X6 zgw_X6)) (goodIn_sub in_X6_takeNameOrEnd_X8 zgw_X8))
set_option maxRecDepth 20000 in
theorem gX6_takeNameOrEnd_X6_endLine : GoodIn wsX6_takeNameOrEnd (wsV RX6 63 RX6 yX6_endLine wsX6_endLine) := goodIn_app (goodIn_of _ (by decide +kernel)) ggX6_takeNameOrEnd_X6_endLine
theorem in_X6_takeNameOrEnd_X9 : ∀ w ∈ wsX90, w ∈ wsX6_takeNameOrEnd := fun _ h => List.mem_cons_of_mem _ (List.mem_append_right _ h)
set_option maxRecDepth 20000 in
theorem zbX6_takeNameOrEnd_X9_find : GoodIn wsX6_takeNameOrEnd (Cond.code yX9_find cX9_find 4 (some .int) :: [.fieldLink RX9 19 "ClayAccounts$Units" "names" "[J"]) := goodIn_k _ cks_X6_takeNameOrEnd ck_X6_takeNameOrEnd [(1, 0), (1, 1)] rfl (by decide +kernel)
set_option maxRecDepth 20000 in
theorem ggX6_takeNameOrEnd_X9_find : GoodIn wsX6_takeNameOrEnd wsX9_find := (goodIn_ca zbX6_takeNameOrEnd_X9_find (goodIn_sub in_X6_takeNameOrEnd_X9 zgw_X9))
set_option maxRecDepth 20000 in
theorem gX6_takeNameOrEnd_X9_find : GoodIn wsX6_takeNameOrEnd (wsV RX6 108 RX9 yX9_find wsX9_find) := goodIn_app (goodIn_of _ (by decide +kernel)) ggX6_takeNameOrEnd_X9_find
set_option maxRecDepth 20000 in
theorem zbX6_takeNameOrEnd_X8_refuse : GoodIn wsX6_takeNameOrEnd (Cond.code yX8_refuse cX8_refuse 3 (some .boolean) :: [.fieldLink RX8 31 "ClayAccounts$Tokens" "fault" "I", .fieldLink RX8 34 "ClayAccounts$Tokens" "faultPlace" "I"]) := goodIn_k _ cks_X6_takeNameOrEnd ck_X6_takeNameOrEnd [(1, 5), (0, 17), (0, 19)] rfl (by decide +kernel)
set_option maxRecDepth 20000 in
theorem ggX6_takeNameOrEnd_X8_refuse : GoodIn wsX6_takeNameOrEnd wsX8_refuse := (goodIn_ca zbX6_takeNameOrEnd_X8_refuse (goodIn_sub in_X6_takeNameOrEnd_X8 zgw_X8))
set_option maxRecDepth 20000 in
theorem gX6_takeNameOrEnd_X8_refuse : GoodIn wsX6_takeNameOrEnd (wsV RX6 86 RX8 yX8_refuse wsX8_refuse) := goodIn_app (goodIn_of _ (by decide +kernel)) ggX6_takeNameOrEnd_X8_refuse
theorem in_X6_endLine_X8 : ∀ w ∈ wsX80, w ∈ wsX6_endLine := fun _ h => List.mem_cons_of_mem _ (List.mem_append_right _ h)
set_option maxRecDepth 20000 in
theorem zbX6_endLine_X8_demand : GoodIn wsX6_endLine (Cond.code yX8_demand cX8_demand 2 (some .boolean) :: [.fieldLink RX8 37 "ClayAccounts$Tokens" "kind" "I", .fieldLink RX8 31 "ClayAccounts$Tokens" "fault" "I", .fieldLink RX8 40 "ClayAccounts$Tokens" "place" "I", .fieldLink RX8 34 "ClayAccounts$Tokens" "faultPlace" "I"]) := goodIn_r _ [7, 8, 9, 10, 11] rfl (by decide +kernel)
set_option maxRecDepth 20000 in
theorem ggX6_endLine_X8_demand : GoodIn wsX6_endLine wsX8_demand := (goodIn_ca zbX6_endLine_X8_demand (goodIn_sub in_X6_endLine_X8 zgw_X8))
set_option maxRecDepth 20000 in
theorem gX6_endLine_X8_demand : GoodIn wsX6_endLine (wsV RX6 101 RX8 yX8_demand wsX8_demand) := goodIn_app (goodIn_of _ (by decide +kernel)) ggX6_endLine_X8_demand
theorem in_X7_putFour_X7 : ∀ w ∈ wsX70, w ∈ wsX7_putFour := fun _ h => List.mem_cons_of_mem _ (List.mem_append_right _ h)
set_option maxRecDepth 20000 in
theorem zbX7_putFour_X7_put : GoodIn wsX7_putFour (Cond.code yX7_put cX7_put 2 none :: [.fieldLink RX7 21 "ClayAccounts$Text" "size" "I", .fieldLink RX7 15 "ClayAccounts$Text" "bytes" "[B"]) := goodIn_r _ [5, 6, 7] rfl (by decide +kernel)
set_option maxRecDepth 20000 in
theorem ggX7_putFour_X7_put : GoodIn wsX7_putFour wsX7_put := (goodIn_ca zbX7_putFour_X7_put (goodIn_sub in_X7_putFour_X7 zgw_X7))
set_option maxRecDepth 20000 in
theorem gX7_putFour_X7_put : GoodIn wsX7_putFour (wsV RX7 25 RX7 yX7_put wsX7_put) := goodIn_app (goodIn_of _ (by decide +kernel)) ggX7_putFour_X7_put
theorem in_X8_init_X7 : ∀ w ∈ wsX70, w ∈ wsX8_init := fun _ h => List.mem_cons_of_mem _ (List.mem_append_left _ (List.mem_append_right _ h))
set_option maxRecDepth 20000 in
theorem zbX8_init_X7_init : GoodIn wsX8_init (Cond.code yX7_init cX7_init 2 none :: [.methodLink RX7 3 objectInit, .instanceMethod objectInit, .code objectInit ⟨#[0xb1]⟩ 1 none, .methodLink RX7 9 Lib.Math.max.name, .static Lib.Math.max.name, .initialized "java/lang/Math", .code Lib.Math.max.name Lib.Math.max.code 2 (some .int), .arrayClass .byte, .fieldLink RX7 15 "ClayAccounts$Text" "bytes" "[B", .fieldLink RX7 21 "ClayAccounts$Text" "size" "I"]) := goodIn_r _ [10, 11, 2, 3, 12, 13, 14, 15, 16, 17, 18] rfl (by decide +kernel)
set_option maxRecDepth 20000 in
theorem ggX8_init_X7_init : GoodIn wsX8_init wsX7_init := (goodIn_ca zbX8_init_X7_init (goodIn_sub in_X8_init_X7 zgw_X7))
set_option maxRecDepth 20000 in
theorem gX8_init_X7_init : GoodIn wsX8_init (wsX7_init) := ggX8_init_X7_init
theorem in_X8_endsWell_X8 : ∀ w ∈ wsX80, w ∈ wsX8_endsWell := fun _ h => List.mem_cons_of_mem _ (List.mem_append_left _ (List.mem_append_right _ h))
set_option maxRecDepth 20000 in
theorem zbX8_endsWell_X8_refuse : GoodIn wsX8_endsWell (Cond.code yX8_refuse cX8_refuse 3 (some .boolean) :: [.fieldLink RX8 31 "ClayAccounts$Tokens" "fault" "I", .fieldLink RX8 34 "ClayAccounts$Tokens" "faultPlace" "I"]) := goodIn_r _ [9, 10, 11] rfl (by decide +kernel)
set_option maxRecDepth 20000 in
theorem ggX8_endsWell_X8_refuse : GoodIn wsX8_endsWell wsX8_refuse := (goodIn_ca zbX8_endsWell_X8_refuse (goodIn_sub in_X8_endsWell_X8 zgw_X8))
set_option maxRecDepth 20000 in
theorem gX8_endsWell_X8_refuse : GoodIn wsX8_endsWell (wsV RX8 46 RX8 yX8_refuse wsX8_refuse) := goodIn_app (goodIn_of _ (by decide +kernel)) ggX8_endsWell_X8_refuse
theorem in_X8_advance_X7 : ∀ w ∈ wsX70, w ∈ wsX8_advance := fun _ h => List.mem_cons_of_mem _ (List.mem_append_right _ h)
def cks_X8_advance : List (List Cond) := [wsX8_advance_r1, wsX8_advance_r2, wsX8_advance_r3]
theorem ck_X8_advance : ∀ c ∈ cks_X8_advance, ∀ w ∈ c, w ∈ wsX8_advance := fun c hc w hw => List.mem_cons_of_mem _ (List.mem_append_left _ (List.mem_append_left _ (goodIn_cat [wsX8_advance_r1, wsX8_advance_r2] wsX8_advance_r3 c hc w hw)))
set_option maxRecDepth 20000 in
theorem zbX8_advance_X7_byteAt : GoodIn wsX8_advance (Cond.code yX7_byteAt cX7_byteAt 2 (some .int) :: [.fieldLink RX7 21 "ClayAccounts$Text" "size" "I", .fieldLink RX7 15 "ClayAccounts$Text" "bytes" "[B"]) := goodIn_k _ cks_X8_advance ck_X8_advance [(0, 14), (0, 15), (0, 16)] rfl (by decide +kernel)
set_option maxRecDepth 20000 in
theorem ggX8_advance_X7_byteAt : GoodIn wsX8_advance wsX7_byteAt := (goodIn_ca zbX8_advance_X7_byteAt (goodIn_sub in_X8_advance_X7 zgw_X7))
set_option maxRecDepth 20000 in
theorem gX8_advance_X7_byteAt : GoodIn wsX8_advance (wsV RX8 56 RX7 yX7_byteAt wsX7_byteAt) := goodIn_app (goodIn_of _ (by decide +kernel)) ggX8_advance_X7_byteAt
set_option maxRecDepth 20000 in
theorem zbX8_advance_X8_isBlank : GoodIn wsX8_advance (Cond.code yX8_isBlank cX8_isBlank 1 (some .boolean) :: []) := goodIn_k _ cks_X8_advance ck_X8_advance [(0, 20)] rfl (by decide +kernel)
set_option maxRecDepth 20000 in
theorem ggX8_advance_X8_isBlank : GoodIn wsX8_advance wsX8_isBlank := zbX8_advance_X8_isBlank
set_option maxRecDepth 20000 in
theorem gX8_advance_X8_isBlank : GoodIn wsX8_advance (va_wsS RX8 60 yX8_isBlank wsX8_isBlank) := goodIn_app (goodIn_of _ (by decide +kernel)) ggX8_advance_X8_isBlank
set_option maxRecDepth 20000 in
theorem zbX8_advance_X8_isSmallLetter : GoodIn wsX8_advance (Cond.code yX8_isSmallLetter cX8_isSmallLetter 1 (some .boolean) :: []) := goodIn_k _ cks_X8_advance ck_X8_advance [(0, 23)] rfl (by decide +kernel)
set_option maxRecDepth 20000 in
theorem ggX8_advance_X8_isSmallLetter : GoodIn wsX8_advance wsX8_isSmallLetter := zbX8_advance_X8_isSmallLetter
set_option maxRecDepth 20000 in
theorem gX8_advance_X8_isSmallLetter : GoodIn wsX8_advance (va_wsS RX8 64 yX8_isSmallLetter wsX8_isSmallLetter) := goodIn_app (goodIn_of _ (by decide +kernel)) ggX8_advance_X8_isSmallLetter
theorem in_X8_advance_X8 : ∀ w ∈ wsX80, w ∈ wsX8_advance := fun _ h => List.mem_cons_of_mem _ (List.mem_append_left _ (List.mem_append_right _ h))
set_option maxRecDepth 20000 in
theorem zbX8_advance_X8_takeName : GoodIn wsX8_advance (Cond.code yX8_takeName cX8_takeName 3 none :: [.fieldLink RX8 85 "ClayAccounts$Tokens" "name" "J", .fieldLink RX8 14 "ClayAccounts$Tokens" "text" "LClayAccounts$Text;", .fieldLink RX8 28 "ClayAccounts$Tokens" "at" "I", .fieldLink RX8 43 "ClayAccounts$Text" "size" "I", .fieldLink RX8 40 "ClayAccounts$Tokens" "place" "I", .fieldLink RX8 37 "ClayAccounts$Tokens" "kind" "I", .methodLink RX8 56 yX7_byteAt, .instanceMethod yX7_byteAt, .selects RX7 yX7_byteAt yX7_byteAt, .initialized RX7, .code yX7_byteAt cX7_byteAt 2 (some .int), .fieldLink RX7 21 "ClayAccounts$Text" "size" "I", .fieldLink RX7 15 "ClayAccounts$Text" "bytes" "[B", .methodLink RX8 64 yX8_isSmallLetter, .static yX8_isSmallLetter, .initialized RX8, .code yX8_isSmallLetter cX8_isSmallLetter 1 (some .boolean), .methodLink RX8 89 yX8_kindOfName, .instanceMethod yX8_kindOfName, .selects RX8 yX8_kindOfName yX8_kindOfName, .code yX8_kindOfName cX8_kindOfName 1 (some .int), .constantLong RX8 93 (126965465245037), .constantLong RX8 95 (500086104428), .constantLong RX8 97 (444300619364)]) := goodIn_k _ cks_X8_advance ck_X8_advance [(1, 3), (1, 4), (0, 0), (0, 7), (0, 1), (0, 9), (0, 8), (0, 10), (0, 11), (0, 12), (0, 13), (0, 14), (0, 15), (0, 16), (0, 21), (0, 22), (0, 19), (0, 23), (1, 5), (1, 6), (1, 7), (1, 8), (1, 9), (1, 10), (1, 11)] rfl (by decide +kernel)
set_option maxRecDepth 20000 in
theorem ggX8_advance_X8_takeName : GoodIn wsX8_advance wsX8_takeName := (goodIn_ca (goodIn_ca zbX8_advance_X8_takeName (goodIn_sub in_X8_advance_X8 zgw_X8)) (goodIn_sub in_X8_advance_X7 zgw_X7))
set_option maxRecDepth 20000 in
theorem gX8_advance_X8_takeName : GoodIn wsX8_advance (wsV RX8 67 RX8 yX8_takeName wsX8_takeName) := goodIn_app (goodIn_of _ (by decide +kernel)) ggX8_advance_X8_takeName
set_option maxRecDepth 20000 in
theorem zbX8_advance_X8_isDigit : GoodIn wsX8_advance (Cond.code yX8_isDigit cX8_isDigit 2 (some .boolean) :: [.fieldLink RX8 24 "ClayAccounts$Tokens" "withBroken" "Z"]) := goodIn_k _ cks_X8_advance ck_X8_advance [(1, 15), (1, 16)] rfl (by decide +kernel)
set_option maxRecDepth 20000 in
theorem ggX8_advance_X8_isDigit : GoodIn wsX8_advance wsX8_isDigit := (goodIn_ca zbX8_advance_X8_isDigit (goodIn_sub in_X8_advance_X8 zgw_X8))
set_option maxRecDepth 20000 in
theorem gX8_advance_X8_isDigit : GoodIn wsX8_advance (wsV RX8 70 RX8 yX8_isDigit wsX8_isDigit) := goodIn_app (goodIn_of _ (by decide +kernel)) ggX8_advance_X8_isDigit
set_option maxRecDepth 20000 in
theorem zbX8_advance_X8_takeNumber : GoodIn wsX8_advance (Cond.code yX8_takeNumber cX8_takeNumber 3 none :: [.fieldLink RX8 79 "ClayAccounts$Tokens" "tens" "I", .fieldLink RX8 82 "ClayAccounts$Tokens" "ones" "I", .fieldLink RX8 14 "ClayAccounts$Tokens" "text" "LClayAccounts$Text;", .fieldLink RX8 28 "ClayAccounts$Tokens" "at" "I", .fieldLink RX8 43 "ClayAccounts$Text" "size" "I", .fieldLink RX8 40 "ClayAccounts$Tokens" "place" "I", .fieldLink RX8 37 "ClayAccounts$Tokens" "kind" "I", .methodLink RX8 56 yX7_byteAt, .instanceMethod yX7_byteAt, .selects RX7 yX7_byteAt yX7_byteAt, .initialized RX7, .code yX7_byteAt cX7_byteAt 2 (some .int), .fieldLink RX7 21 "ClayAccounts$Text" "size" "I", .fieldLink RX7 15 "ClayAccounts$Text" "bytes" "[B", .methodLink RX8 70 yX8_isDigit, .instanceMethod yX8_isDigit, .selects RX8 yX8_isDigit yX8_isDigit, .initialized RX8, .code yX8_isDigit cX8_isDigit 2 (some .boolean), .fieldLink RX8 24 "ClayAccounts$Tokens" "withBroken" "Z", .methodLink RX8 64 yX8_isSmallLetter, .static yX8_isSmallLetter, .code yX8_isSmallLetter cX8_isSmallLetter 1 (some .boolean)]) := goodIn_k _ cks_X8_advance ck_X8_advance [(1, 20), (1, 21), (1, 22), (0, 0), (0, 7), (0, 1), (0, 9), (0, 8), (0, 10), (0, 11), (0, 12), (0, 13), (0, 14), (0, 15), (0, 16), (1, 12), (1, 13), (1, 14), (0, 19), (1, 15), (1, 16), (0, 21), (0, 22), (0, 23)] rfl (by decide +kernel)
set_option maxRecDepth 20000 in
theorem ggX8_advance_X8_takeNumber : GoodIn wsX8_advance wsX8_takeNumber := (goodIn_ca (goodIn_ca zbX8_advance_X8_takeNumber (goodIn_sub in_X8_advance_X8 zgw_X8)) (goodIn_sub in_X8_advance_X7 zgw_X7))
set_option maxRecDepth 20000 in
theorem gX8_advance_X8_takeNumber : GoodIn wsX8_advance (wsV RX8 73 RX8 yX8_takeNumber wsX8_takeNumber) := goodIn_app (goodIn_of _ (by decide +kernel)) ggX8_advance_X8_takeNumber
set_option maxRecDepth 20000 in
theorem zbX8_advance_X8_takeSign : GoodIn wsX8_advance (Cond.code yX8_takeSign cX8_takeSign 2 none :: [.fieldLink RX8 28 "ClayAccounts$Tokens" "at" "I", .fieldLink RX8 37 "ClayAccounts$Tokens" "kind" "I"]) := goodIn_k _ cks_X8_advance ck_X8_advance [(2, 2), (0, 7), (0, 8)] rfl (by decide +kernel)
set_option maxRecDepth 20000 in
theorem ggX8_advance_X8_takeSign : GoodIn wsX8_advance wsX8_takeSign := (goodIn_ca zbX8_advance_X8_takeSign (goodIn_sub in_X8_advance_X8 zgw_X8))
set_option maxRecDepth 20000 in
theorem gX8_advance_X8_takeSign : GoodIn wsX8_advance (wsV RX8 76 RX8 yX8_takeSign wsX8_takeSign) := goodIn_app (goodIn_of _ (by decide +kernel)) ggX8_advance_X8_takeSign
theorem in_X8_takeName_X7 : ∀ w ∈ wsX70, w ∈ wsX8_takeName := fun _ h => List.mem_cons_of_mem _ (List.mem_append_right _ h)
set_option maxRecDepth 20000 in
theorem zbX8_takeName_X7_byteAt : GoodIn wsX8_takeName (Cond.code yX7_byteAt cX7_byteAt 2 (some .int) :: [.fieldLink RX7 21 "ClayAccounts$Text" "size" "I", .fieldLink RX7 15 "ClayAccounts$Text" "bytes" "[B"]) := goodIn_r _ [11, 12, 13] rfl (by decide +kernel)
set_option maxRecDepth 20000 in
theorem ggX8_takeName_X7_byteAt : GoodIn wsX8_takeName wsX7_byteAt := (goodIn_ca zbX8_takeName_X7_byteAt (goodIn_sub in_X8_takeName_X7 zgw_X7))
set_option maxRecDepth 20000 in
theorem gX8_takeName_X7_byteAt : GoodIn wsX8_takeName (wsV RX8 56 RX7 yX7_byteAt wsX7_byteAt) := goodIn_app (goodIn_of _ (by decide +kernel)) ggX8_takeName_X7_byteAt
set_option maxRecDepth 20000 in
theorem zbX8_takeName_X8_isSmallLetter : GoodIn wsX8_takeName (Cond.code yX8_isSmallLetter cX8_isSmallLetter 1 (some .boolean) :: []) := goodIn_r _ [17] rfl (by decide +kernel)
set_option maxRecDepth 20000 in
theorem ggX8_takeName_X8_isSmallLetter : GoodIn wsX8_takeName wsX8_isSmallLetter := zbX8_takeName_X8_isSmallLetter
set_option maxRecDepth 20000 in
theorem gX8_takeName_X8_isSmallLetter : GoodIn wsX8_takeName (va_wsS RX8 64 yX8_isSmallLetter wsX8_isSmallLetter) := goodIn_app (goodIn_of _ (by decide +kernel)) ggX8_takeName_X8_isSmallLetter
theorem in_X8_takeName_X8 : ∀ w ∈ wsX80, w ∈ wsX8_takeName := fun _ h => List.mem_cons_of_mem _ (List.mem_append_left _ (List.mem_append_right _ h))
set_option maxRecDepth 20000 in
theorem zbX8_takeName_X8_kindOfName : GoodIn wsX8_takeName (Cond.code yX8_kindOfName cX8_kindOfName 1 (some .int) :: [.fieldLink RX8 85 "ClayAccounts$Tokens" "name" "J", .constantLong RX8 93 (126965465245037), .constantLong RX8 95 (500086104428), .constantLong RX8 97 (444300619364)]) := goodIn_r _ [21, 1, 22, 23, 24] rfl (by decide +kernel)
set_option maxRecDepth 20000 in
theorem ggX8_takeName_X8_kindOfName : GoodIn wsX8_takeName wsX8_kindOfName := (goodIn_ca zbX8_takeName_X8_kindOfName (goodIn_sub in_X8_takeName_X8 zgw_X8))
set_option maxRecDepth 20000 in
theorem gX8_takeName_X8_kindOfName : GoodIn wsX8_takeName (wsV RX8 89 RX8 yX8_kindOfName wsX8_kindOfName) := goodIn_app (goodIn_of _ (by decide +kernel)) ggX8_takeName_X8_kindOfName
theorem in_X8_takeNumber_X7 : ∀ w ∈ wsX70, w ∈ wsX8_takeNumber := fun _ h => List.mem_cons_of_mem _ (List.mem_append_right _ h)
set_option maxRecDepth 20000 in
theorem zbX8_takeNumber_X7_byteAt : GoodIn wsX8_takeNumber (Cond.code yX7_byteAt cX7_byteAt 2 (some .int) :: [.fieldLink RX7 21 "ClayAccounts$Text" "size" "I", .fieldLink RX7 15 "ClayAccounts$Text" "bytes" "[B"]) := goodIn_r _ [12, 13, 14] rfl (by decide +kernel)
set_option maxRecDepth 20000 in
theorem ggX8_takeNumber_X7_byteAt : GoodIn wsX8_takeNumber wsX7_byteAt := (goodIn_ca zbX8_takeNumber_X7_byteAt (goodIn_sub in_X8_takeNumber_X7 zgw_X7))
set_option maxRecDepth 20000 in
theorem gX8_takeNumber_X7_byteAt : GoodIn wsX8_takeNumber (wsV RX8 56 RX7 yX7_byteAt wsX7_byteAt) := goodIn_app (goodIn_of _ (by decide +kernel)) ggX8_takeNumber_X7_byteAt
theorem in_X8_takeNumber_X8 : ∀ w ∈ wsX80, w ∈ wsX8_takeNumber := fun _ h => List.mem_cons_of_mem _ (List.mem_append_left _ (List.mem_append_right _ h))
set_option maxRecDepth 20000 in
theorem zbX8_takeNumber_X8_isDigit : GoodIn wsX8_takeNumber (Cond.code yX8_isDigit cX8_isDigit 2 (some .boolean) :: [.fieldLink RX8 24 "ClayAccounts$Tokens" "withBroken" "Z"]) := goodIn_r _ [19, 20] rfl (by decide +kernel)
set_option maxRecDepth 20000 in
theorem ggX8_takeNumber_X8_isDigit : GoodIn wsX8_takeNumber wsX8_isDigit := (goodIn_ca zbX8_takeNumber_X8_isDigit (goodIn_sub in_X8_takeNumber_X8 zgw_X8))
set_option maxRecDepth 20000 in
theorem gX8_takeNumber_X8_isDigit : GoodIn wsX8_takeNumber (wsV RX8 70 RX8 yX8_isDigit wsX8_isDigit) := goodIn_app (goodIn_of _ (by decide +kernel)) ggX8_takeNumber_X8_isDigit
set_option maxRecDepth 20000 in
theorem zbX8_takeNumber_X8_isSmallLetter : GoodIn wsX8_takeNumber (Cond.code yX8_isSmallLetter cX8_isSmallLetter 1 (some .boolean) :: []) := goodIn_r _ [23] rfl (by decide +kernel)
set_option maxRecDepth 20000 in
theorem ggX8_takeNumber_X8_isSmallLetter : GoodIn wsX8_takeNumber wsX8_isSmallLetter := zbX8_takeNumber_X8_isSmallLetter
set_option maxRecDepth 20000 in
theorem gX8_takeNumber_X8_isSmallLetter : GoodIn wsX8_takeNumber (va_wsS RX8 64 yX8_isSmallLetter wsX8_isSmallLetter) := goodIn_app (goodIn_of _ (by decide +kernel)) ggX8_takeNumber_X8_isSmallLetter
set_option maxRecDepth 20000 in
theorem zbX9_clear_J7_fill_d0a16 : GoodIn wsX9_clear (Cond.code yJ7_fill_d0a16 cJ7_fill_d0a16 5 none :: []) := goodIn_r _ [8] rfl (by decide +kernel)
set_option maxRecDepth 20000 in
theorem ggX9_clear_J7_fill_d0a16 : GoodIn wsX9_clear wsJ7_fill_d0a16 := zbX9_clear_J7_fill_d0a16
set_option maxRecDepth 20000 in
theorem gX9_clear_J7_fill_d0a16 : GoodIn wsX9_clear (va_wsS RX9 35 yJ7_fill_d0a16 wsJ7_fill_d0a16) := goodIn_app (goodIn_of _ (by decide +kernel)) ggX9_clear_J7_fill_d0a16
set_option maxRecDepth 20000 in
theorem zbX9_clear_J7_fill_53178 : GoodIn wsX9_clear (Cond.code yJ7_fill_53178 cJ7_fill_53178 4 none :: []) := goodIn_r _ [11] rfl (by decide +kernel)
set_option maxRecDepth 20000 in
theorem ggX9_clear_J7_fill_53178 : GoodIn wsX9_clear wsJ7_fill_53178 := zbX9_clear_J7_fill_53178
set_option maxRecDepth 20000 in
theorem gX9_clear_J7_fill_53178 : GoodIn wsX9_clear (va_wsS RX9 41 yJ7_fill_53178 wsJ7_fill_53178) := goodIn_app (goodIn_of _ (by decide +kernel)) ggX9_clear_J7_fill_53178
theorem in_X9_addUnit_X9 : ∀ w ∈ wsX90, w ∈ wsX9_addUnit := fun _ h => List.mem_cons_of_mem _ (List.mem_append_right _ h)
set_option maxRecDepth 20000 in
theorem zbX9_addUnit_X9_isFull : GoodIn wsX9_addUnit (Cond.code yX9_isFull cX9_isFull 1 (some .boolean) :: [.fieldLink RX9 31 "ClayAccounts$Units" "systemCount" "I", .fieldLink RX9 15 "ClayAccounts$Units" "unitCounts" "[I"]) := goodIn_r _ [11, 1, 2] rfl (by decide +kernel)
set_option maxRecDepth 20000 in
theorem ggX9_addUnit_X9_isFull : GoodIn wsX9_addUnit wsX9_isFull := (goodIn_ca zbX9_addUnit_X9_isFull (goodIn_sub in_X9_addUnit_X9 zgw_X9))
set_option maxRecDepth 20000 in
theorem gX9_addUnit_X9_isFull : GoodIn wsX9_addUnit (wsV RX9 44 RX9 yX9_isFull wsX9_isFull) := goodIn_app (goodIn_of _ (by decide +kernel)) ggX9_addUnit_X9_isFull
set_option maxRecDepth 20000 in
theorem zbX9_addUnit_X9_slot : GoodIn wsX9_addUnit (Cond.code yX9_slot cX9_slot 2 (some .int) :: []) := goodIn_r _ [14] rfl (by decide +kernel)
set_option maxRecDepth 20000 in
theorem ggX9_addUnit_X9_slot : GoodIn wsX9_addUnit wsX9_slot := zbX9_addUnit_X9_slot
set_option maxRecDepth 20000 in
theorem gX9_addUnit_X9_slot : GoodIn wsX9_addUnit (va_wsS RX9 48 yX9_slot wsX9_slot) := goodIn_app (goodIn_of _ (by decide +kernel)) ggX9_addUnit_X9_slot
theorem in_X9_isTaken_X9 : ∀ w ∈ wsX90, w ∈ wsX9_isTaken := fun _ h => List.mem_cons_of_mem _ (List.mem_append_right _ h)
set_option maxRecDepth 20000 in
theorem zbX9_isTaken_X9_find : GoodIn wsX9_isTaken (Cond.code yX9_find cX9_find 4 (some .int) :: [.fieldLink RX9 19 "ClayAccounts$Units" "names" "[J"]) := goodIn_r _ [6, 7] rfl (by decide +kernel)
set_option maxRecDepth 20000 in
theorem ggX9_isTaken_X9_find : GoodIn wsX9_isTaken wsX9_find := (goodIn_ca zbX9_isTaken_X9_find (goodIn_sub in_X9_isTaken_X9 zgw_X9))
set_option maxRecDepth 20000 in
theorem gX9_isTaken_X9_find : GoodIn wsX9_isTaken (wsV RX9 52 RX9 yX9_find wsX9_find) := goodIn_app (goodIn_of _ (by decide +kernel)) ggX9_isTaken_X9_find
set_option maxRecDepth 20000 in
theorem zbX9_canWrite_X9_slot : GoodIn wsX9_canWrite (Cond.code yX9_slot cX9_slot 2 (some .int) :: []) := goodIn_r _ [6] rfl (by decide +kernel)
set_option maxRecDepth 20000 in
theorem ggX9_canWrite_X9_slot : GoodIn wsX9_canWrite wsX9_slot := zbX9_canWrite_X9_slot
set_option maxRecDepth 20000 in
theorem gX9_canWrite_X9_slot : GoodIn wsX9_canWrite (va_wsS RX9 48 yX9_slot wsX9_slot) := goodIn_app (goodIn_of _ (by decide +kernel)) ggX9_canWrite_X9_slot
set_option maxRecDepth 20000 in
theorem zbX9_writeTo_X9_slot : GoodIn wsX9_writeTo (Cond.code yX9_slot cX9_slot 2 (some .int) :: []) := goodIn_r _ [7] rfl (by decide +kernel)
set_option maxRecDepth 20000 in
theorem ggX9_writeTo_X9_slot : GoodIn wsX9_writeTo wsX9_slot := zbX9_writeTo_X9_slot
set_option maxRecDepth 20000 in
theorem gX9_writeTo_X9_slot : GoodIn wsX9_writeTo (va_wsS RX9 48 yX9_slot wsX9_slot) := goodIn_app (goodIn_of _ (by decide +kernel)) ggX9_writeTo_X9_slot
theorem in_X9_writeTo_X7 : ∀ w ∈ wsX70, w ∈ wsX9_writeTo := fun _ h => List.mem_cons_of_mem _ (List.mem_append_right _ h)
set_option maxRecDepth 20000 in
theorem zbX9_writeTo_X9_writeAmount : GoodIn wsX9_writeTo (Cond.code yX9_writeAmount cX9_writeAmount 6 none :: [.fieldLink RX9 60 "ClayAccounts$Text" "size" "I", .methodLink RX9 65 yX7_put, .instanceMethod yX7_put, .selects RX7 yX7_put yX7_put, .initialized RX7, .code yX7_put cX7_put 2 none, .fieldLink RX7 21 "ClayAccounts$Text" "size" "I", .fieldLink RX7 15 "ClayAccounts$Text" "bytes" "[B"]) := goodIn_r _ [10, 11, 12, 13, 14, 15, 16, 17, 18] rfl (by decide +kernel)
set_option maxRecDepth 20000 in
theorem ggX9_writeTo_X9_writeAmount : GoodIn wsX9_writeTo wsX9_writeAmount := (goodIn_ca zbX9_writeTo_X9_writeAmount (goodIn_sub in_X9_writeTo_X7 zgw_X7))
set_option maxRecDepth 20000 in
theorem gX9_writeTo_X9_writeAmount : GoodIn wsX9_writeTo (va_wsS RX9 56 yX9_writeAmount wsX9_writeAmount) := goodIn_app (goodIn_of _ (by decide +kernel)) ggX9_writeTo_X9_writeAmount
theorem in_X9_writeAmount_X7 : ∀ w ∈ wsX70, w ∈ wsX9_writeAmount := fun _ h => List.mem_cons_of_mem _ (List.mem_append_right _ h)
set_option maxRecDepth 20000 in
theorem zbX9_writeAmount_X7_put : GoodIn wsX9_writeAmount (Cond.code yX7_put cX7_put 2 none :: [.fieldLink RX7 21 "ClayAccounts$Text" "size" "I", .fieldLink RX7 15 "ClayAccounts$Text" "bytes" "[B"]) := goodIn_r _ [6, 7, 8] rfl (by decide +kernel)
set_option maxRecDepth 20000 in
theorem ggX9_writeAmount_X7_put : GoodIn wsX9_writeAmount wsX7_put := (goodIn_ca zbX9_writeAmount_X7_put (goodIn_sub in_X9_writeAmount_X7 zgw_X7))
set_option maxRecDepth 20000 in
theorem gX9_writeAmount_X7_put : GoodIn wsX9_writeAmount (wsV RX9 65 RX7 yX7_put wsX7_put) := goodIn_app (goodIn_of _ (by decide +kernel)) ggX9_writeAmount_X7_put
theorem in_X10_init_X7 : ∀ w ∈ wsX70, w ∈ wsX10_init := fun _ h => List.mem_cons_of_mem _ (List.mem_append_right _ h)
theorem in_X10_init_X8 : ∀ w ∈ wsX80, w ∈ wsX10_init := fun _ h => List.mem_cons_of_mem _ (List.mem_append_left _ (List.mem_append_left _ (List.mem_append_right _ h)))
def cks_X10_init : List (List Cond) := [wsX10_init_r1, wsX10_init_r2]
theorem ck_X10_init : ∀ c ∈ cks_X10_init, ∀ w ∈ c, w ∈ wsX10_init := fun c hc w hw => List.mem_cons_of_mem _ (List.mem_append_left _ (List.mem_append_left _ (List.mem_append_left _ (goodIn_cat [wsX10_init_r1] wsX10_init_r2 c hc w hw))))
set_option maxRecDepth 20000 in
theorem zbX10_init_X8_init : GoodIn wsX10_init (Cond.code yX8_init cX8_init 1 none :: [.methodLink RX8 3 objectInit, .instanceMethod objectInit, .code objectInit ⟨#[0xb1]⟩ 1 none, .classLink RX8 9 RX7, .instantiable RX7 2, .initialized RX7, .fieldLink RX8 14 "ClayAccounts$Tokens" "text" "LClayAccounts$Text;", .methodLink RX8 11 yX7_init, .instanceMethod yX7_init, .code yX7_init cX7_init 2 none, .methodLink RX7 3 objectInit, .methodLink RX7 9 Lib.Math.max.name, .static Lib.Math.max.name, .initialized "java/lang/Math", .code Lib.Math.max.name Lib.Math.max.code 2 (some .int), .arrayClass .byte, .fieldLink RX7 15 "ClayAccounts$Text" "bytes" "[B", .fieldLink RX7 21 "ClayAccounts$Text" "size" "I"]) := goodIn_k _ cks_X10_init ck_X10_init [(0, 8), (0, 9), (0, 1), (0, 2), (0, 10), (0, 11), (0, 12), (0, 13), (0, 14), (0, 15), (0, 16), (0, 17), (0, 18), (0, 19), (0, 20), (0, 21), (0, 22), (0, 23), (1, 0)] rfl (by decide +kernel)
set_option maxRecDepth 20000 in
theorem ggX10_init_X8_init : GoodIn wsX10_init wsX8_init := (goodIn_ca (goodIn_ca zbX10_init_X8_init (goodIn_sub in_X10_init_X7 zgw_X7)) (goodIn_sub in_X10_init_X8 zgw_X8))
set_option maxRecDepth 20000 in
theorem gX10_init_X8_init_n11 : GoodIn wsX10_init (wsX8_init) := ggX10_init_X8_init
theorem in_X10_read_X9 : ∀ w ∈ wsX90, w ∈ wsX10_read := fun _ h => List.mem_cons_of_mem _ (List.mem_append_left _ (List.mem_append_right _ h))
def cks_X10_read : List (List Cond) := [wsX10_read_r1, wsX10_read_r2, wsX10_read_r3, wsX10_read_r4, wsX10_read_r5, wsX10_read_r6, wsX10_read_r7]
theorem ck_X10_read : ∀ c ∈ cks_X10_read, ∀ w ∈ c, w ∈ wsX10_read := fun c hc w hw => List.mem_cons_of_mem _ (List.mem_append_left _ (List.mem_append_left _ (List.mem_append_left _ (List.mem_append_left _ (goodIn_cat [wsX10_read_r1, wsX10_read_r2, wsX10_read_r3, wsX10_read_r4, wsX10_read_r5, wsX10_read_r6] wsX10_read_r7 c hc w hw)))))
set_option maxRecDepth 20000 in
theorem zbX10_read_X9_clear : GoodIn wsX10_read (Cond.code yX9_clear cX9_clear 1 none :: [.fieldLink RX9 31 "ClayAccounts$Units" "systemCount" "I", .fieldLink RX9 9 "ClayAccounts$Units" "systemNames" "[J", .fieldLink RX9 15 "ClayAccounts$Units" "unitCounts" "[I", .fieldLink RX9 19 "ClayAccounts$Units" "names" "[J", .methodLink RX9 35 yJ7_fill_d0a16, .static yJ7_fill_d0a16, .initialized RJ7, .code yJ7_fill_d0a16 cJ7_fill_d0a16 5 none, .methodLink RX9 41 yJ7_fill_53178, .static yJ7_fill_53178, .code yJ7_fill_53178 cJ7_fill_53178 4 none]) := goodIn_k _ cks_X10_read ck_X10_read [(0, 8), (0, 9), (0, 10), (0, 11), (0, 12), (0, 13), (0, 14), (0, 15), (0, 16), (0, 17), (0, 18), (0, 19)] rfl (by decide +kernel)
set_option maxRecDepth 20000 in
theorem ggX10_read_X9_clear : GoodIn wsX10_read wsX9_clear := (goodIn_ca zbX10_read_X9_clear (goodIn_sub in_X10_read_X9 zgw_X9))
set_option maxRecDepth 20000 in
theorem gX10_read_X9_clear : GoodIn wsX10_read (wsV RX10 18 RX9 yX9_clear wsX9_clear) := goodIn_app (goodIn_of _ (by decide +kernel)) ggX10_read_X9_clear
theorem in_X10_read_X8 : ∀ w ∈ wsX80, w ∈ wsX10_read := fun _ h => List.mem_cons_of_mem _ (List.mem_append_left _ (List.mem_append_left _ (List.mem_append_right _ h)))
set_option maxRecDepth 20000 in
theorem zbX10_read_X8_begin : GoodIn wsX10_read (Cond.code yX8_begin cX8_begin 4 none :: [.fieldLink RX8 14 "ClayAccounts$Tokens" "text" "LClayAccounts$Text;", .fieldLink RX8 20 "ClayAccounts$Tokens" "most" "I", .fieldLink RX8 24 "ClayAccounts$Tokens" "withBroken" "Z", .fieldLink RX8 28 "ClayAccounts$Tokens" "at" "I", .fieldLink RX8 31 "ClayAccounts$Tokens" "fault" "I", .fieldLink RX8 34 "ClayAccounts$Tokens" "faultPlace" "I"]) := goodIn_k _ cks_X10_read ck_X10_read [(1, 0), (1, 1), (1, 2), (1, 3), (1, 4), (1, 5), (1, 6)] rfl (by decide +kernel)
set_option maxRecDepth 20000 in
theorem ggX10_read_X8_begin : GoodIn wsX10_read wsX8_begin := (goodIn_ca zbX10_read_X8_begin (goodIn_sub in_X10_read_X8 zgw_X8))
set_option maxRecDepth 20000 in
theorem gX10_read_X8_begin : GoodIn wsX10_read (wsV RX10 23 RX8 yX8_begin wsX8_begin) := goodIn_app (goodIn_of _ (by decide +kernel)) ggX10_read_X8_begin
theorem in_X10_read_X7 : ∀ w ∈ wsX70, w ∈ wsX10_read := fun _ h => List.mem_cons_of_mem _ (List.mem_append_right _ h)
set_option maxRecDepth 20000 in
theorem zbX10_read_X8_advance_0 : GoodIn wsX10_read [Cond.code yX8_advance cX8_advance 3 none] := goodIn_k _ cks_X10_read ck_X10_read [(1, 10)] rfl (by decide +kernel)
set_option maxRecDepth 20000 in
theorem zbX10_read_X8_advance_1 : GoodIn wsX10_read wsX8_advance_r1 := goodIn_k _ cks_X10_read ck_X10_read [(1, 1), (1, 11), (1, 2), (1, 12), (1, 13), (1, 14), (1, 15), (1, 4), (1, 16), (1, 17), (1, 18), (1, 19), (1, 20), (1, 21), (1, 22), (1, 23), (2, 0), (2, 1), (2, 2), (0, 23), (2, 3), (2, 4), (2, 5), (2, 6)] rfl (by decide +kernel)
set_option maxRecDepth 20000 in
theorem zbX10_read_X8_advance_2 : GoodIn wsX10_read wsX8_advance_r2 := goodIn_k _ cks_X10_read ck_X10_read [(2, 7), (2, 8), (2, 9), (2, 10), (2, 11), (2, 12), (2, 13), (2, 14), (2, 15), (2, 16), (2, 17), (2, 18), (2, 19), (2, 20), (2, 21), (2, 22), (1, 3), (2, 23), (3, 0), (3, 1), (3, 2), (3, 3), (3, 4), (3, 5)] rfl (by decide +kernel)
set_option maxRecDepth 20000 in
theorem zbX10_read_X8_advance_3 : GoodIn wsX10_read wsX8_advance_r3 := goodIn_k _ cks_X10_read ck_X10_read [(3, 6), (3, 7), (3, 8)] rfl (by decide +kernel)
set_option maxRecDepth 20000 in
theorem ggX10_read_X8_advance : GoodIn wsX10_read wsX8_advance := (goodIn_ca (goodIn_ca (goodIn_cc zbX10_read_X8_advance_0 (goodIn_app zbX10_read_X8_advance_1 (goodIn_app zbX10_read_X8_advance_2 zbX10_read_X8_advance_3))) (goodIn_sub in_X10_read_X8 zgw_X8)) (goodIn_sub in_X10_read_X7 zgw_X7))
set_option maxRecDepth 20000 in
theorem gX10_read_X8_advance : GoodIn wsX10_read (wsV RX10 31 RX8 yX8_advance wsX8_advance) := goodIn_app (goodIn_of _ (by decide +kernel)) ggX10_read_X8_advance
set_option maxRecDepth 20000 in
theorem zbX10_read_X8_endsWell : GoodIn wsX10_read (Cond.code yX8_endsWell cX8_endsWell 2 (some .boolean) :: [.fieldLink RX8 14 "ClayAccounts$Tokens" "text" "LClayAccounts$Text;", .fieldLink RX8 43 "ClayAccounts$Text" "size" "I", .fieldLink RX8 20 "ClayAccounts$Tokens" "most" "I", .fieldLink RX8 40 "ClayAccounts$Tokens" "place" "I", .methodLink RX8 46 yX8_refuse, .instanceMethod yX8_refuse, .selects RX8 yX8_refuse yX8_refuse, .initialized RX8, .code yX8_refuse cX8_refuse 3 (some .boolean), .fieldLink RX8 31 "ClayAccounts$Tokens" "fault" "I", .fieldLink RX8 34 "ClayAccounts$Tokens" "faultPlace" "I"]) := goodIn_k _ cks_X10_read ck_X10_read [(3, 12), (1, 1), (1, 11), (1, 2), (1, 17), (3, 13), (3, 14), (3, 15), (0, 23), (3, 16), (1, 5), (1, 6)] rfl (by decide +kernel)
set_option maxRecDepth 20000 in
theorem ggX10_read_X8_endsWell : GoodIn wsX10_read wsX8_endsWell := (goodIn_ca (goodIn_ca zbX10_read_X8_endsWell (goodIn_sub in_X10_read_X8 zgw_X8)) (goodIn_sub in_X10_read_X7 zgw_X7))
set_option maxRecDepth 20000 in
theorem gX10_read_X8_endsWell : GoodIn wsX10_read (wsV RX10 40 RX8 yX8_endsWell wsX8_endsWell) := goodIn_app (goodIn_of _ (by decide +kernel)) ggX10_read_X8_endsWell
theorem in_X10_read_X10 : ∀ w ∈ wsX100, w ∈ wsX10_read := fun _ h => List.mem_cons_of_mem _ (List.mem_append_left _ (List.mem_append_left _ (List.mem_append_left _ (List.mem_append_right _ h))))
set_option maxRecDepth 20000 in
theorem zbX10_read_X10_takeToken_0 : GoodIn wsX10_read [Cond.code yX10_takeToken cX10_takeToken 2 (some .boolean)] := goodIn_k _ cks_X10_read ck_X10_read [(3, 21)] rfl (by decide +kernel)
set_option maxRecDepth 20000 in
theorem zbX10_read_X10_takeToken_1 : GoodIn wsX10_read wsX10_takeToken_r1 := goodIn_k _ cks_X10_read ck_X10_read [(0, 1), (3, 22), (0, 0), (0, 2), (3, 23), (4, 0), (4, 1), (3, 20), (4, 2), (0, 3), (4, 3), (4, 4), (4, 5), (4, 6), (0, 23), (4, 7), (1, 16), (1, 5), (1, 17), (1, 6), (4, 8), (3, 14), (3, 15), (3, 16)] rfl (by decide +kernel)
set_option maxRecDepth 20000 in
theorem zbX10_read_X10_takeToken_2 : GoodIn wsX10_read wsX10_takeToken_r2 := goodIn_k _ cks_X10_read ck_X10_read [(4, 9), (4, 10), (4, 11), (4, 12), (4, 13), (4, 14), (4, 15), (4, 16), (4, 17), (4, 18), (4, 19), (4, 20), (0, 7), (4, 21), (0, 10), (4, 22), (4, 23), (5, 0), (5, 1), (0, 12), (5, 2), (5, 3), (5, 4), (5, 5)] rfl (by decide +kernel)
set_option maxRecDepth 20000 in
theorem zbX10_read_X10_takeToken_3 : GoodIn wsX10_read wsX10_takeToken_r3 := goodIn_k _ cks_X10_read ck_X10_read [(0, 9), (5, 6), (5, 7), (5, 8), (5, 9), (5, 10), (5, 11), (5, 12), (5, 13), (0, 11), (5, 14), (5, 15), (5, 16), (5, 17), (5, 18), (5, 19), (5, 20), (5, 21), (5, 22), (5, 23), (6, 0), (6, 1), (6, 2), (6, 3)] rfl (by decide +kernel)
set_option maxRecDepth 20000 in
theorem zbX10_read_X10_takeToken_4 : GoodIn wsX10_read wsX10_takeToken_r4 := goodIn_k _ cks_X10_read ck_X10_read [(6, 4), (6, 5), (6, 6), (6, 7), (3, 3), (3, 4), (6, 8), (6, 9), (6, 10), (6, 11), (6, 12)] rfl (by decide +kernel)
set_option maxRecDepth 20000 in
theorem ggX10_read_X10_takeToken : GoodIn wsX10_read wsX10_takeToken := (goodIn_ca (goodIn_ca (goodIn_ca (goodIn_cc zbX10_read_X10_takeToken_0 (goodIn_app zbX10_read_X10_takeToken_1 (goodIn_app zbX10_read_X10_takeToken_2 (goodIn_app zbX10_read_X10_takeToken_3 zbX10_read_X10_takeToken_4)))) (goodIn_sub in_X10_read_X10 zgw_X10)) (goodIn_sub in_X10_read_X8 zgw_X8)) (goodIn_sub in_X10_read_X9 zgw_X9))
set_option maxRecDepth 20000 in
theorem gX10_read_X10_takeToken : GoodIn wsX10_read (wsV RX10 44 RX10 yX10_takeToken wsX10_takeToken) := goodIn_app (goodIn_of _ (by decide +kernel)) ggX10_read_X10_takeToken
theorem in_X10_takeToken_X10 : ∀ w ∈ wsX100, w ∈ wsX10_takeToken := fun _ h => List.mem_cons_of_mem _ (List.mem_append_left _ (List.mem_append_left _ (List.mem_append_right _ h)))
theorem in_X10_takeToken_X8 : ∀ w ∈ wsX80, w ∈ wsX10_takeToken := fun _ h => List.mem_cons_of_mem _ (List.mem_append_left _ (List.mem_append_right _ h))
theorem in_X10_takeToken_X9 : ∀ w ∈ wsX90, w ∈ wsX10_takeToken := fun _ h => List.mem_cons_of_mem _ (List.mem_append_right _ h)
def cks_X10_takeToken : List (List Cond) := [wsX10_takeToken_r1, wsX10_takeToken_r2, wsX10_takeToken_r3, wsX10_takeToken_r4]
theorem ck_X10_takeToken : ∀ c ∈ cks_X10_takeToken, ∀ w ∈ c, w ∈ wsX10_takeToken := fun c hc w hw => List.mem_cons_of_mem _ (List.mem_append_left _ (List.mem_append_left _ (List.mem_append_left _ (goodIn_cat [wsX10_takeToken_r1, wsX10_takeToken_r2, wsX10_takeToken_r3] wsX10_takeToken_r4 c hc w hw))))
set_option maxRecDepth 20000 in
theorem zbX10_takeToken_X10_beginSystem : GoodIn wsX10_takeToken (Cond.code yX10_beginSystem cX10_beginSystem 2 (some .boolean) :: [.fieldLink RX10 12 "ClayAccounts$UnitsReader" "tokens" "LClayAccounts$Tokens;", .fieldLink RX10 27 "ClayAccounts$UnitsReader" "state" "I", .fieldLink RX10 37 "ClayAccounts$Units" "systemCount" "I", .fieldLink RX10 70 "ClayAccounts$Tokens" "place" "I", .methodLink RX10 57 yX8_demand, .instanceMethod yX8_demand, .selects RX8 yX8_demand yX8_demand, .initialized RX8, .code yX8_demand cX8_demand 2 (some .boolean), .fieldLink RX8 37 "ClayAccounts$Tokens" "kind" "I", .fieldLink RX8 31 "ClayAccounts$Tokens" "fault" "I", .fieldLink RX8 40 "ClayAccounts$Tokens" "place" "I", .fieldLink RX8 34 "ClayAccounts$Tokens" "faultPlace" "I", .methodLink RX10 73 yX8_refuse, .instanceMethod yX8_refuse, .selects RX8 yX8_refuse yX8_refuse, .code yX8_refuse cX8_refuse 3 (some .boolean)]) := goodIn_k _ cks_X10_takeToken ck_X10_takeToken [(0, 8), (0, 2), (0, 0), (0, 9), (0, 10), (0, 11), (0, 12), (0, 13), (0, 14), (0, 15), (0, 16), (0, 17), (0, 18), (0, 19), (0, 20), (0, 21), (0, 22), (0, 23)] rfl (by decide +kernel)
set_option maxRecDepth 20000 in
theorem ggX10_takeToken_X10_beginSystem : GoodIn wsX10_takeToken wsX10_beginSystem := (goodIn_ca (goodIn_ca (goodIn_ca zbX10_takeToken_X10_beginSystem (goodIn_sub in_X10_takeToken_X10 zgw_X10)) (goodIn_sub in_X10_takeToken_X9 zgw_X9)) (goodIn_sub in_X10_takeToken_X8 zgw_X8))
set_option maxRecDepth 20000 in
theorem gX10_takeToken_X10_beginSystem : GoodIn wsX10_takeToken (wsV RX10 48 RX10 yX10_beginSystem wsX10_beginSystem) := goodIn_app (goodIn_of _ (by decide +kernel)) ggX10_takeToken_X10_beginSystem
set_option maxRecDepth 20000 in
theorem zbX10_takeToken_X10_takeSystemName_0 : GoodIn wsX10_takeToken [Cond.code yX10_takeSystemName cX10_takeSystemName 2 (some .boolean)] := goodIn_k _ cks_X10_takeToken ck_X10_takeToken [(1, 3)] rfl (by decide +kernel)
set_option maxRecDepth 20000 in
theorem zbX10_takeToken_X10_takeSystemName_1 : GoodIn wsX10_takeToken wsX10_takeSystemName_r1 := goodIn_k _ cks_X10_takeToken ck_X10_takeToken [(0, 2), (1, 4), (0, 0), (1, 5), (1, 6), (1, 7), (0, 7), (1, 8), (0, 10), (0, 11), (0, 12), (0, 13), (0, 14), (0, 15), (0, 16), (0, 17), (0, 18), (0, 19), (1, 9), (1, 10), (1, 11), (1, 12), (1, 13), (1, 14)] rfl (by decide +kernel)
set_option maxRecDepth 20000 in
theorem zbX10_takeToken_X10_takeSystemName_2 : GoodIn wsX10_takeToken wsX10_takeSystemName_r2 := goodIn_k _ cks_X10_takeToken ck_X10_takeToken [(1, 15), (1, 16), (1, 17), (1, 18), (1, 19), (0, 20), (0, 21), (0, 22), (0, 23), (1, 20), (1, 21), (1, 22), (1, 23), (2, 0)] rfl (by decide +kernel)
set_option maxRecDepth 20000 in
theorem ggX10_takeToken_X10_takeSystemName : GoodIn wsX10_takeToken wsX10_takeSystemName := (goodIn_ca (goodIn_ca (goodIn_ca (goodIn_cc zbX10_takeToken_X10_takeSystemName_0 (goodIn_app zbX10_takeToken_X10_takeSystemName_1 zbX10_takeToken_X10_takeSystemName_2)) (goodIn_sub in_X10_takeToken_X10 zgw_X10)) (goodIn_sub in_X10_takeToken_X8 zgw_X8)) (goodIn_sub in_X10_takeToken_X9 zgw_X9))
set_option maxRecDepth 20000 in
theorem gX10_takeToken_X10_takeSystemName : GoodIn wsX10_takeToken (wsV RX10 51 RX10 yX10_takeSystemName wsX10_takeSystemName) := goodIn_app (goodIn_of _ (by decide +kernel)) ggX10_takeToken_X10_takeSystemName
set_option maxRecDepth 20000 in
theorem zbX10_takeToken_X8_demand : GoodIn wsX10_takeToken (Cond.code yX8_demand cX8_demand 2 (some .boolean) :: [.fieldLink RX8 37 "ClayAccounts$Tokens" "kind" "I", .fieldLink RX8 31 "ClayAccounts$Tokens" "fault" "I", .fieldLink RX8 40 "ClayAccounts$Tokens" "place" "I", .fieldLink RX8 34 "ClayAccounts$Tokens" "faultPlace" "I"]) := goodIn_k _ cks_X10_takeToken ck_X10_takeToken [(0, 15), (0, 16), (0, 17), (0, 18), (0, 19)] rfl (by decide +kernel)
set_option maxRecDepth 20000 in
theorem ggX10_takeToken_X8_demand : GoodIn wsX10_takeToken wsX8_demand := (goodIn_ca zbX10_takeToken_X8_demand (goodIn_sub in_X10_takeToken_X8 zgw_X8))
set_option maxRecDepth 20000 in
theorem gX10_takeToken_X8_demand : GoodIn wsX10_takeToken (wsV RX10 57 RX8 yX8_demand wsX8_demand) := goodIn_app (goodIn_of _ (by decide +kernel)) ggX10_takeToken_X8_demand
set_option maxRecDepth 20000 in
theorem zbX10_takeToken_X10_takeUnitName_0 : GoodIn wsX10_takeToken [Cond.code yX10_takeUnitName cX10_takeUnitName 2 (some .boolean)] := goodIn_k _ cks_X10_takeToken ck_X10_takeToken [(2, 4)] rfl (by decide +kernel)
set_option maxRecDepth 20000 in
theorem zbX10_takeToken_X10_takeUnitName_1 : GoodIn wsX10_takeToken wsX10_takeUnitName_r1 := goodIn_k _ cks_X10_takeToken ck_X10_takeToken [(0, 2), (1, 4), (0, 1), (0, 0), (1, 5), (1, 6), (1, 7), (0, 7), (1, 8), (0, 10), (0, 11), (0, 12), (0, 13), (0, 14), (0, 15), (0, 16), (0, 17), (0, 18), (0, 19), (1, 9), (1, 10), (1, 11), (1, 12), (1, 13)] rfl (by decide +kernel)
set_option maxRecDepth 20000 in
theorem zbX10_takeToken_X10_takeUnitName_2 : GoodIn wsX10_takeToken wsX10_takeUnitName_r2 := goodIn_k _ cks_X10_takeToken ck_X10_takeToken [(1, 14), (1, 15), (1, 16), (1, 17), (1, 18), (1, 19), (0, 20), (0, 21), (0, 22), (0, 23), (2, 5), (2, 6), (2, 7), (2, 8), (2, 0), (2, 9), (2, 10), (2, 11), (2, 12), (2, 13), (2, 14), (2, 15), (2, 16), (2, 17)] rfl (by decide +kernel)
set_option maxRecDepth 20000 in
theorem zbX10_takeToken_X10_takeUnitName_3 : GoodIn wsX10_takeToken wsX10_takeUnitName_r3 := goodIn_k _ cks_X10_takeToken ck_X10_takeToken [(2, 18), (2, 19)] rfl (by decide +kernel)
set_option maxRecDepth 20000 in
theorem ggX10_takeToken_X10_takeUnitName : GoodIn wsX10_takeToken wsX10_takeUnitName := (goodIn_ca (goodIn_ca (goodIn_ca (goodIn_cc zbX10_takeToken_X10_takeUnitName_0 (goodIn_app zbX10_takeToken_X10_takeUnitName_1 (goodIn_app zbX10_takeToken_X10_takeUnitName_2 zbX10_takeToken_X10_takeUnitName_3))) (goodIn_sub in_X10_takeToken_X10 zgw_X10)) (goodIn_sub in_X10_takeToken_X8 zgw_X8)) (goodIn_sub in_X10_takeToken_X9 zgw_X9))
set_option maxRecDepth 20000 in
theorem gX10_takeToken_X10_takeUnitName : GoodIn wsX10_takeToken (wsV RX10 60 RX10 yX10_takeUnitName wsX10_takeUnitName) := goodIn_app (goodIn_of _ (by decide +kernel)) ggX10_takeToken_X10_takeUnitName
set_option maxRecDepth 20000 in
theorem zbX10_takeToken_X10_takeFactor : GoodIn wsX10_takeToken (Cond.code yX10_takeFactor cX10_takeFactor 2 (some .boolean) :: [.fieldLink RX10 12 "ClayAccounts$UnitsReader" "tokens" "LClayAccounts$Tokens;", .fieldLink RX10 54 "ClayAccounts$UnitsReader" "factor" "I", .fieldLink RX10 70 "ClayAccounts$Tokens" "place" "I", .fieldLink RX10 27 "ClayAccounts$UnitsReader" "state" "I", .methodLink RX10 96 yX8_number, .instanceMethod yX8_number, .selects RX8 yX8_number yX8_number, .initialized RX8, .code yX8_number cX8_number 1 (some .int), .fieldLink RX8 79 "ClayAccounts$Tokens" "tens" "I", .fieldLink RX8 82 "ClayAccounts$Tokens" "ones" "I", .methodLink RX10 73 yX8_refuse, .instanceMethod yX8_refuse, .selects RX8 yX8_refuse yX8_refuse, .code yX8_refuse cX8_refuse 3 (some .boolean), .fieldLink RX8 31 "ClayAccounts$Tokens" "fault" "I", .fieldLink RX8 34 "ClayAccounts$Tokens" "faultPlace" "I", .methodLink RX10 100 yX9_isFull, .instanceMethod yX9_isFull, .selects RX9 yX9_isFull yX9_isFull, .initialized RX9, .code yX9_isFull cX9_isFull 1 (some .boolean), .fieldLink RX9 31 "ClayAccounts$Units" "systemCount" "I", .fieldLink RX9 15 "ClayAccounts$Units" "unitCounts" "[I"]) := goodIn_k _ cks_X10_takeToken ck_X10_takeToken [(2, 23), (0, 2), (0, 1), (0, 10), (0, 0), (3, 0), (3, 1), (3, 2), (0, 14), (3, 3), (3, 4), (3, 5), (0, 20), (0, 21), (0, 22), (0, 23), (0, 17), (0, 19), (3, 6), (2, 14), (2, 15), (1, 12), (2, 16), (2, 0), (2, 9)] rfl (by decide +kernel)
set_option maxRecDepth 20000 in
theorem ggX10_takeToken_X10_takeFactor : GoodIn wsX10_takeToken wsX10_takeFactor := (goodIn_ca (goodIn_ca (goodIn_ca zbX10_takeToken_X10_takeFactor (goodIn_sub in_X10_takeToken_X10 zgw_X10)) (goodIn_sub in_X10_takeToken_X8 zgw_X8)) (goodIn_sub in_X10_takeToken_X9 zgw_X9))
set_option maxRecDepth 20000 in
theorem gX10_takeToken_X10_takeFactor : GoodIn wsX10_takeToken (wsV RX10 63 RX10 yX10_takeFactor wsX10_takeFactor) := goodIn_app (goodIn_of _ (by decide +kernel)) ggX10_takeToken_X10_takeFactor
set_option maxRecDepth 20000 in
theorem zbX10_takeToken_X10_endSystem : GoodIn wsX10_takeToken (Cond.code yX10_endSystem cX10_endSystem 1 (some .boolean) :: [.fieldLink RX10 27 "ClayAccounts$UnitsReader" "state" "I", .fieldLink RX10 12 "ClayAccounts$UnitsReader" "tokens" "LClayAccounts$Tokens;", .methodLink RX10 57 yX8_demand, .instanceMethod yX8_demand, .selects RX8 yX8_demand yX8_demand, .initialized RX8, .code yX8_demand cX8_demand 2 (some .boolean), .fieldLink RX8 37 "ClayAccounts$Tokens" "kind" "I", .fieldLink RX8 31 "ClayAccounts$Tokens" "fault" "I", .fieldLink RX8 40 "ClayAccounts$Tokens" "place" "I", .fieldLink RX8 34 "ClayAccounts$Tokens" "faultPlace" "I"]) := goodIn_k _ cks_X10_takeToken ck_X10_takeToken [(3, 10), (0, 0), (0, 2), (0, 11), (0, 12), (0, 13), (0, 14), (0, 15), (0, 16), (0, 17), (0, 18), (0, 19)] rfl (by decide +kernel)
set_option maxRecDepth 20000 in
theorem ggX10_takeToken_X10_endSystem : GoodIn wsX10_takeToken wsX10_endSystem := (goodIn_ca (goodIn_ca zbX10_takeToken_X10_endSystem (goodIn_sub in_X10_takeToken_X10 zgw_X10)) (goodIn_sub in_X10_takeToken_X8 zgw_X8))
set_option maxRecDepth 20000 in
theorem gX10_takeToken_X10_endSystem : GoodIn wsX10_takeToken (wsV RX10 66 RX10 yX10_endSystem wsX10_endSystem) := goodIn_app (goodIn_of _ (by decide +kernel)) ggX10_takeToken_X10_endSystem
theorem in_X10_beginSystem_X8 : ∀ w ∈ wsX80, w ∈ wsX10_beginSystem := fun _ h => List.mem_cons_of_mem _ (List.mem_append_right _ h)
set_option maxRecDepth 20000 in
theorem zbX10_beginSystem_X8_demand : GoodIn wsX10_beginSystem (Cond.code yX8_demand cX8_demand 2 (some .boolean) :: [.fieldLink RX8 37 "ClayAccounts$Tokens" "kind" "I", .fieldLink RX8 31 "ClayAccounts$Tokens" "fault" "I", .fieldLink RX8 40 "ClayAccounts$Tokens" "place" "I", .fieldLink RX8 34 "ClayAccounts$Tokens" "faultPlace" "I"]) := goodIn_r _ [9, 10, 11, 12, 13] rfl (by decide +kernel)
set_option maxRecDepth 20000 in
theorem ggX10_beginSystem_X8_demand : GoodIn wsX10_beginSystem wsX8_demand := (goodIn_ca zbX10_beginSystem_X8_demand (goodIn_sub in_X10_beginSystem_X8 zgw_X8))
set_option maxRecDepth 20000 in
theorem gX10_beginSystem_X8_demand : GoodIn wsX10_beginSystem (wsV RX10 57 RX8 yX8_demand wsX8_demand) := goodIn_app (goodIn_of _ (by decide +kernel)) ggX10_beginSystem_X8_demand
set_option maxRecDepth 20000 in
theorem zbX10_beginSystem_X8_refuse : GoodIn wsX10_beginSystem (Cond.code yX8_refuse cX8_refuse 3 (some .boolean) :: [.fieldLink RX8 31 "ClayAccounts$Tokens" "fault" "I", .fieldLink RX8 34 "ClayAccounts$Tokens" "faultPlace" "I"]) := goodIn_r _ [17, 11, 13] rfl (by decide +kernel)
set_option maxRecDepth 20000 in
theorem ggX10_beginSystem_X8_refuse : GoodIn wsX10_beginSystem wsX8_refuse := (goodIn_ca zbX10_beginSystem_X8_refuse (goodIn_sub in_X10_beginSystem_X8 zgw_X8))
set_option maxRecDepth 20000 in
theorem gX10_beginSystem_X8_refuse : GoodIn wsX10_beginSystem (wsV RX10 73 RX8 yX8_refuse wsX8_refuse) := goodIn_app (goodIn_of _ (by decide +kernel)) ggX10_beginSystem_X8_refuse
theorem in_X10_takeSystemName_X10 : ∀ w ∈ wsX100, w ∈ wsX10_takeSystemName := fun _ h => List.mem_cons_of_mem _ (List.mem_append_left _ (List.mem_append_left _ (List.mem_append_right _ h)))
theorem in_X10_takeSystemName_X8 : ∀ w ∈ wsX80, w ∈ wsX10_takeSystemName := fun _ h => List.mem_cons_of_mem _ (List.mem_append_left _ (List.mem_append_right _ h))
theorem in_X10_takeSystemName_X9 : ∀ w ∈ wsX90, w ∈ wsX10_takeSystemName := fun _ h => List.mem_cons_of_mem _ (List.mem_append_right _ h)
def cks_X10_takeSystemName : List (List Cond) := [wsX10_takeSystemName_r1, wsX10_takeSystemName_r2]
theorem ck_X10_takeSystemName : ∀ c ∈ cks_X10_takeSystemName, ∀ w ∈ c, w ∈ wsX10_takeSystemName := fun c hc w hw => List.mem_cons_of_mem _ (List.mem_append_left _ (List.mem_append_left _ (List.mem_append_left _ (goodIn_cat [wsX10_takeSystemName_r1] wsX10_takeSystemName_r2 c hc w hw))))
set_option maxRecDepth 20000 in
theorem zbX10_takeSystemName_X10_isNewName_0 : GoodIn wsX10_takeSystemName [Cond.code yX10_isNewName cX10_isNewName 2 (some .boolean)] := goodIn_k _ cks_X10_takeSystemName ck_X10_takeSystemName [(0, 7)] rfl (by decide +kernel)
set_option maxRecDepth 20000 in
theorem zbX10_takeSystemName_X10_isNewName_1 : GoodIn wsX10_takeSystemName wsX10_isNewName_r1 := goodIn_k _ cks_X10_takeSystemName ck_X10_takeSystemName [(0, 0), (0, 1), (0, 8), (0, 9), (0, 10), (0, 11), (0, 12), (0, 13), (0, 14), (0, 15), (0, 16), (0, 17), (0, 18), (0, 19), (0, 20), (0, 21), (0, 22), (0, 23), (1, 0), (1, 1), (1, 2), (1, 3), (1, 4), (1, 5)] rfl (by decide +kernel)
set_option maxRecDepth 20000 in
theorem zbX10_takeSystemName_X10_isNewName_2 : GoodIn wsX10_takeSystemName wsX10_isNewName_r2 := goodIn_k _ cks_X10_takeSystemName ck_X10_takeSystemName [(1, 6), (1, 7), (1, 8)] rfl (by decide +kernel)
set_option maxRecDepth 20000 in
theorem ggX10_takeSystemName_X10_isNewName : GoodIn wsX10_takeSystemName wsX10_isNewName := (goodIn_ca (goodIn_ca (goodIn_ca (goodIn_cc zbX10_takeSystemName_X10_isNewName_0 (goodIn_app zbX10_takeSystemName_X10_isNewName_1 zbX10_takeSystemName_X10_isNewName_2)) (goodIn_sub in_X10_takeSystemName_X10 zgw_X10)) (goodIn_sub in_X10_takeSystemName_X8 zgw_X8)) (goodIn_sub in_X10_takeSystemName_X9 zgw_X9))
set_option maxRecDepth 20000 in
theorem gX10_takeSystemName_X10_isNewName : GoodIn wsX10_takeSystemName (wsV RX10 77 RX10 yX10_isNewName wsX10_isNewName) := goodIn_app (goodIn_of _ (by decide +kernel)) ggX10_takeSystemName_X10_isNewName
set_option maxRecDepth 20000 in
theorem zbX10_takeSystemName_X9_addSystem : GoodIn wsX10_takeSystemName (Cond.code yX9_addSystem cX9_addSystem 3 none :: [.fieldLink RX9 31 "ClayAccounts$Units" "systemCount" "I", .fieldLink RX9 9 "ClayAccounts$Units" "systemNames" "[J"]) := goodIn_k _ cks_X10_takeSystemName ck_X10_takeSystemName [(1, 12), (1, 13), (0, 23)] rfl (by decide +kernel)
set_option maxRecDepth 20000 in
theorem ggX10_takeSystemName_X9_addSystem : GoodIn wsX10_takeSystemName wsX9_addSystem := (goodIn_ca zbX10_takeSystemName_X9_addSystem (goodIn_sub in_X10_takeSystemName_X9 zgw_X9))
set_option maxRecDepth 20000 in
theorem gX10_takeSystemName_X9_addSystem : GoodIn wsX10_takeSystemName (wsV RX10 84 RX9 yX9_addSystem wsX9_addSystem) := goodIn_app (goodIn_of _ (by decide +kernel)) ggX10_takeSystemName_X9_addSystem
theorem in_X10_takeUnitName_X10 : ∀ w ∈ wsX100, w ∈ wsX10_takeUnitName := fun _ h => List.mem_cons_of_mem _ (List.mem_append_left _ (List.mem_append_left _ (List.mem_append_right _ h)))
theorem in_X10_takeUnitName_X8 : ∀ w ∈ wsX80, w ∈ wsX10_takeUnitName := fun _ h => List.mem_cons_of_mem _ (List.mem_append_left _ (List.mem_append_right _ h))
theorem in_X10_takeUnitName_X9 : ∀ w ∈ wsX90, w ∈ wsX10_takeUnitName := fun _ h => List.mem_cons_of_mem _ (List.mem_append_right _ h)
def cks_X10_takeUnitName : List (List Cond) := [wsX10_takeUnitName_r1, wsX10_takeUnitName_r2, wsX10_takeUnitName_r3]
theorem ck_X10_takeUnitName : ∀ c ∈ cks_X10_takeUnitName, ∀ w ∈ c, w ∈ wsX10_takeUnitName := fun c hc w hw => List.mem_cons_of_mem _ (List.mem_append_left _ (List.mem_append_left _ (List.mem_append_left _ (goodIn_cat [wsX10_takeUnitName_r1, wsX10_takeUnitName_r2] wsX10_takeUnitName_r3 c hc w hw))))
set_option maxRecDepth 20000 in
theorem zbX10_takeUnitName_X10_isNewName_0 : GoodIn wsX10_takeUnitName [Cond.code yX10_isNewName cX10_isNewName 2 (some .boolean)] := goodIn_k _ cks_X10_takeUnitName ck_X10_takeUnitName [(0, 8)] rfl (by decide +kernel)
set_option maxRecDepth 20000 in
theorem zbX10_takeUnitName_X10_isNewName_1 : GoodIn wsX10_takeUnitName wsX10_isNewName_r1 := goodIn_k _ cks_X10_takeUnitName ck_X10_takeUnitName [(0, 0), (0, 1), (0, 9), (0, 10), (0, 11), (0, 12), (0, 13), (0, 14), (0, 15), (0, 16), (0, 17), (0, 18), (0, 19), (0, 20), (0, 21), (0, 22), (0, 23), (1, 0), (1, 1), (1, 2), (1, 3), (1, 4), (1, 5), (1, 6)] rfl (by decide +kernel)
set_option maxRecDepth 20000 in
theorem zbX10_takeUnitName_X10_isNewName_2 : GoodIn wsX10_takeUnitName wsX10_isNewName_r2 := goodIn_k _ cks_X10_takeUnitName ck_X10_takeUnitName [(1, 7), (1, 8), (1, 9)] rfl (by decide +kernel)
set_option maxRecDepth 20000 in
theorem ggX10_takeUnitName_X10_isNewName : GoodIn wsX10_takeUnitName wsX10_isNewName := (goodIn_ca (goodIn_ca (goodIn_ca (goodIn_cc zbX10_takeUnitName_X10_isNewName_0 (goodIn_app zbX10_takeUnitName_X10_isNewName_1 zbX10_takeUnitName_X10_isNewName_2)) (goodIn_sub in_X10_takeUnitName_X10 zgw_X10)) (goodIn_sub in_X10_takeUnitName_X8 zgw_X8)) (goodIn_sub in_X10_takeUnitName_X9 zgw_X9))
set_option maxRecDepth 20000 in
theorem gX10_takeUnitName_X10_isNewName : GoodIn wsX10_takeUnitName (wsV RX10 77 RX10 yX10_isNewName wsX10_isNewName) := goodIn_app (goodIn_of _ (by decide +kernel)) ggX10_takeUnitName_X10_isNewName
set_option maxRecDepth 20000 in
theorem zbX10_takeUnitName_X9_addUnit : GoodIn wsX10_takeUnitName (Cond.code yX9_addUnit cX9_addUnit 6 none :: [.fieldLink RX9 31 "ClayAccounts$Units" "systemCount" "I", .fieldLink RX9 15 "ClayAccounts$Units" "unitCounts" "[I", .fieldLink RX9 19 "ClayAccounts$Units" "names" "[J", .fieldLink RX9 22 "ClayAccounts$Units" "factors" "[I", .fieldLink RX9 25 "ClayAccounts$Units" "worths" "[I", .fieldLink RX9 28 "ClayAccounts$Units" "mosts" "[I", .methodLink RX9 44 yX9_isFull, .instanceMethod yX9_isFull, .selects RX9 yX9_isFull yX9_isFull, .initialized RX9, .code yX9_isFull cX9_isFull 1 (some .boolean), .methodLink RX9 48 yX9_slot, .static yX9_slot, .code yX9_slot cX9_slot 2 (some .int)]) := goodIn_k _ cks_X10_takeUnitName ck_X10_takeUnitName [(1, 13), (1, 14), (1, 15), (1, 5), (1, 16), (1, 17), (1, 18), (1, 19), (1, 20), (1, 21), (0, 22), (1, 22), (1, 23), (2, 0), (2, 1)] rfl (by decide +kernel)
set_option maxRecDepth 20000 in
theorem ggX10_takeUnitName_X9_addUnit : GoodIn wsX10_takeUnitName wsX9_addUnit := (goodIn_ca zbX10_takeUnitName_X9_addUnit (goodIn_sub in_X10_takeUnitName_X9 zgw_X9))
set_option maxRecDepth 20000 in
theorem gX10_takeUnitName_X9_addUnit : GoodIn wsX10_takeUnitName (wsV RX10 88 RX9 yX9_addUnit wsX9_addUnit) := goodIn_app (goodIn_of _ (by decide +kernel)) ggX10_takeUnitName_X9_addUnit
theorem in_X10_isNewName_X8 : ∀ w ∈ wsX80, w ∈ wsX10_isNewName := fun _ h => List.mem_cons_of_mem _ (List.mem_append_left _ (List.mem_append_right _ h))
def cks_X10_isNewName : List (List Cond) := [wsX10_isNewName_r1, wsX10_isNewName_r2]
theorem ck_X10_isNewName : ∀ c ∈ cks_X10_isNewName, ∀ w ∈ c, w ∈ wsX10_isNewName := fun c hc w hw => List.mem_cons_of_mem _ (List.mem_append_left _ (List.mem_append_left _ (List.mem_append_left _ (goodIn_cat [wsX10_isNewName_r1] wsX10_isNewName_r2 c hc w hw))))
set_option maxRecDepth 20000 in
theorem zbX10_isNewName_X8_demand : GoodIn wsX10_isNewName (Cond.code yX8_demand cX8_demand 2 (some .boolean) :: [.fieldLink RX8 37 "ClayAccounts$Tokens" "kind" "I", .fieldLink RX8 31 "ClayAccounts$Tokens" "fault" "I", .fieldLink RX8 40 "ClayAccounts$Tokens" "place" "I", .fieldLink RX8 34 "ClayAccounts$Tokens" "faultPlace" "I"]) := goodIn_k _ cks_X10_isNewName ck_X10_isNewName [(0, 7), (0, 8), (0, 9), (0, 10), (0, 11)] rfl (by decide +kernel)
set_option maxRecDepth 20000 in
theorem ggX10_isNewName_X8_demand : GoodIn wsX10_isNewName wsX8_demand := (goodIn_ca zbX10_isNewName_X8_demand (goodIn_sub in_X10_isNewName_X8 zgw_X8))
set_option maxRecDepth 20000 in
theorem gX10_isNewName_X8_demand : GoodIn wsX10_isNewName (wsV RX10 57 RX8 yX8_demand wsX8_demand) := goodIn_app (goodIn_of _ (by decide +kernel)) ggX10_isNewName_X8_demand
theorem in_X10_isNewName_X9 : ∀ w ∈ wsX90, w ∈ wsX10_isNewName := fun _ h => List.mem_cons_of_mem _ (List.mem_append_right _ h)
set_option maxRecDepth 20000 in
theorem zbX10_isNewName_X9_isTaken : GoodIn wsX10_isNewName (Cond.code yX9_isTaken cX9_isTaken 4 (some .boolean) :: [.fieldLink RX9 9 "ClayAccounts$Units" "systemNames" "[J", .methodLink RX9 52 yX9_find, .instanceMethod yX9_find, .selects RX9 yX9_find yX9_find, .initialized RX9, .code yX9_find cX9_find 4 (some .int), .fieldLink RX9 19 "ClayAccounts$Units" "names" "[J"]) := goodIn_k _ cks_X10_isNewName ck_X10_isNewName [(0, 16), (0, 17), (0, 18), (0, 19), (0, 20), (0, 15), (0, 21), (0, 22)] rfl (by decide +kernel)
set_option maxRecDepth 20000 in
theorem ggX10_isNewName_X9_isTaken : GoodIn wsX10_isNewName wsX9_isTaken := (goodIn_ca zbX10_isNewName_X9_isTaken (goodIn_sub in_X10_isNewName_X9 zgw_X9))
set_option maxRecDepth 20000 in
theorem gX10_isNewName_X9_isTaken : GoodIn wsX10_isNewName (wsV RX10 92 RX9 yX9_isTaken wsX9_isTaken) := goodIn_app (goodIn_of _ (by decide +kernel)) ggX10_isNewName_X9_isTaken
set_option maxRecDepth 20000 in
theorem zbX10_isNewName_X8_refuse : GoodIn wsX10_isNewName (Cond.code yX8_refuse cX8_refuse 3 (some .boolean) :: [.fieldLink RX8 31 "ClayAccounts$Tokens" "fault" "I", .fieldLink RX8 34 "ClayAccounts$Tokens" "faultPlace" "I"]) := goodIn_k _ cks_X10_isNewName ck_X10_isNewName [(1, 2), (0, 9), (0, 11)] rfl (by decide +kernel)
set_option maxRecDepth 20000 in
theorem ggX10_isNewName_X8_refuse : GoodIn wsX10_isNewName wsX8_refuse := (goodIn_ca zbX10_isNewName_X8_refuse (goodIn_sub in_X10_isNewName_X8 zgw_X8))
set_option maxRecDepth 20000 in
theorem gX10_isNewName_X8_refuse : GoodIn wsX10_isNewName (wsV RX10 73 RX8 yX8_refuse wsX8_refuse) := goodIn_app (goodIn_of _ (by decide +kernel)) ggX10_isNewName_X8_refuse
theorem in_X10_takeFactor_X8 : ∀ w ∈ wsX80, w ∈ wsX10_takeFactor := fun _ h => List.mem_cons_of_mem _ (List.mem_append_left _ (List.mem_append_right _ h))
set_option maxRecDepth 20000 in
theorem zbX10_takeFactor_X8_number : GoodIn wsX10_takeFactor (Cond.code yX8_number cX8_number 1 (some .int) :: [.fieldLink RX8 79 "ClayAccounts$Tokens" "tens" "I", .fieldLink RX8 82 "ClayAccounts$Tokens" "ones" "I"]) := goodIn_r _ [9, 10, 11] rfl (by decide +kernel)
set_option maxRecDepth 20000 in
theorem ggX10_takeFactor_X8_number : GoodIn wsX10_takeFactor wsX8_number := (goodIn_ca zbX10_takeFactor_X8_number (goodIn_sub in_X10_takeFactor_X8 zgw_X8))
set_option maxRecDepth 20000 in
theorem gX10_takeFactor_X8_number : GoodIn wsX10_takeFactor (wsV RX10 96 RX8 yX8_number wsX8_number) := goodIn_app (goodIn_of _ (by decide +kernel)) ggX10_takeFactor_X8_number
set_option maxRecDepth 20000 in
theorem zbX10_takeFactor_X8_refuse : GoodIn wsX10_takeFactor (Cond.code yX8_refuse cX8_refuse 3 (some .boolean) :: [.fieldLink RX8 31 "ClayAccounts$Tokens" "fault" "I", .fieldLink RX8 34 "ClayAccounts$Tokens" "faultPlace" "I"]) := goodIn_r _ [15, 16, 17] rfl (by decide +kernel)
set_option maxRecDepth 20000 in
theorem ggX10_takeFactor_X8_refuse : GoodIn wsX10_takeFactor wsX8_refuse := (goodIn_ca zbX10_takeFactor_X8_refuse (goodIn_sub in_X10_takeFactor_X8 zgw_X8))
set_option maxRecDepth 20000 in
theorem gX10_takeFactor_X8_refuse : GoodIn wsX10_takeFactor (wsV RX10 73 RX8 yX8_refuse wsX8_refuse) := goodIn_app (goodIn_of _ (by decide +kernel)) ggX10_takeFactor_X8_refuse
theorem in_X10_takeFactor_X9 : ∀ w ∈ wsX90, w ∈ wsX10_takeFactor := fun _ h => List.mem_cons_of_mem _ (List.mem_append_right _ h)
set_option maxRecDepth 20000 in
theorem zbX10_takeFactor_X9_isFull : GoodIn wsX10_takeFactor (Cond.code yX9_isFull cX9_isFull 1 (some .boolean) :: [.fieldLink RX9 31 "ClayAccounts$Units" "systemCount" "I", .fieldLink RX9 15 "ClayAccounts$Units" "unitCounts" "[I"]) := goodIn_r _ [22, 23, 24] rfl (by decide +kernel)
set_option maxRecDepth 20000 in
theorem ggX10_takeFactor_X9_isFull : GoodIn wsX10_takeFactor wsX9_isFull := (goodIn_ca zbX10_takeFactor_X9_isFull (goodIn_sub in_X10_takeFactor_X9 zgw_X9))
set_option maxRecDepth 20000 in
theorem gX10_takeFactor_X9_isFull : GoodIn wsX10_takeFactor (wsV RX10 100 RX9 yX9_isFull wsX9_isFull) := goodIn_app (goodIn_of _ (by decide +kernel)) ggX10_takeFactor_X9_isFull
theorem in_X10_endSystem_X8 : ∀ w ∈ wsX80, w ∈ wsX10_endSystem := fun _ h => List.mem_cons_of_mem _ (List.mem_append_right _ h)
set_option maxRecDepth 20000 in
theorem zbX10_endSystem_X8_demand : GoodIn wsX10_endSystem (Cond.code yX8_demand cX8_demand 2 (some .boolean) :: [.fieldLink RX8 37 "ClayAccounts$Tokens" "kind" "I", .fieldLink RX8 31 "ClayAccounts$Tokens" "fault" "I", .fieldLink RX8 40 "ClayAccounts$Tokens" "place" "I", .fieldLink RX8 34 "ClayAccounts$Tokens" "faultPlace" "I"]) := goodIn_r _ [7, 8, 9, 10, 11] rfl (by decide +kernel)
set_option maxRecDepth 20000 in
theorem ggX10_endSystem_X8_demand : GoodIn wsX10_endSystem wsX8_demand := (goodIn_ca zbX10_endSystem_X8_demand (goodIn_sub in_X10_endSystem_X8 zgw_X8))
set_option maxRecDepth 20000 in
theorem gX10_endSystem_X8_demand : GoodIn wsX10_endSystem (wsV RX10 57 RX8 yX8_demand wsX8_demand) := goodIn_app (goodIn_of _ (by decide +kernel)) ggX10_endSystem_X8_demand
