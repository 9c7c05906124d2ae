def cks_L_law : List (List Cond) := [wsL_law0_r1, wsL_law0_r2, wsL_law0_r3, wsL_law0_r4, wsL_law0_r5, wsL_law0_r6, wsL_law0_r7, wsL_law0_r8, wsL_law0_r9, wsL_law0_r10, wsL_law0_r11, wsL_law0_r12, wsL_law0_r13, wsL_law0_r14, wsL_law0_r15, wsL_law0_r16, wsL_law0_r17, wsL_law0_r18, wsL_law0_r19, wsL_law0_r20, wsL_law0_r21, wsL_law0_r22, wsL_law0_r23, wsL_law0_r24, wsL_law0_r25, wsL_law0_r26, wsL_law0_r27, wsL_law0_r28, wsL_law0_r29, wsL_law0_r30, wsL_law0_r31, wsL_law0_r32, wsL_law0_r33, wsL_law0_r34, wsL_law0_r35, wsL_law0_r36, wsL_law0_r37, wsL_law0_r38, wsL_law0_r39, wsL_law0_r40, wsL_law0_r41, wsL_law0_r42]
theorem ck_L_law : ∀ c ∈ cks_L_law, ∀ w ∈ c, w ∈ wsL_law := fun c hc w hw => List.mem_append_left _ (List.mem_append_left _ (List.mem_append_left _ (List.mem_append_left _ (List.mem_append_left _ (List.mem_append_left _ (List.mem_append_left _ (List.mem_append_left _ (List.mem_append_left _ (List.mem_append_left _ (List.mem_append_left _ (List.mem_append_left _ (List.mem_append_left _ (List.mem_append_left _ (List.mem_append_left _ (goodIn_cat [wsL_law0_r1, wsL_law0_r2, wsL_law0_r3, wsL_law0_r4, wsL_law0_r5, wsL_law0_r6, wsL_law0_r7, wsL_law0_r8, wsL_law0_r9, wsL_law0_r10, wsL_law0_r11, wsL_law0_r12, wsL_law0_r13, wsL_law0_r14, wsL_law0_r15, wsL_law0_r16, wsL_law0_r17, wsL_law0_r18, wsL_law0_r19, wsL_law0_r20, wsL_law0_r21, wsL_law0_r22, wsL_law0_r23, wsL_law0_r24, wsL_law0_r25, wsL_law0_r26, wsL_law0_r27, wsL_law0_r28, wsL_law0_r29, wsL_law0_r30, wsL_law0_r31, wsL_law0_r32, wsL_law0_r33, wsL_law0_r34, wsL_law0_r35, wsL_law0_r36, wsL_law0_r37, wsL_law0_r38, wsL_law0_r39, wsL_law0_r40, wsL_law0_r41] wsL_law0_r42 c hc w hw)))))))))))))))
set_option maxRecDepth 20000 in
theorem zbL_law_X11_init_0 : GoodIn wsL_law [Cond.code yX11_init cX11_init 2 none] := goodIn_k _ cks_L_law ck_L_law [(0, 9)] rfl (by decide +kernel)
set_option maxRecDepth 20000 in
theorem zbL_law_X11_init_1 : GoodIn wsL_law wsX11_init_r1 := goodIn_k _ cks_L_law ck_L_law [(0, 10), (0, 11), (0, 12), (0, 13), (0, 14), (0, 15), (0, 16), (0, 17), (0, 18), (0, 19), (0, 20), (0, 21), (0, 22), (0, 23), (1, 0), (1, 1), (1, 2), (1, 3), (1, 4), (1, 5), (1, 6), (1, 7), (1, 8), (1, 9)] rfl (by decide +kernel)
set_option maxRecDepth 20000 in
theorem zbL_law_X11_init_2 : GoodIn wsL_law wsX11_init_r2 := goodIn_k _ cks_L_law ck_L_law [(1, 10), (1, 11), (1, 12), (1, 13), (1, 14), (1, 15), (1, 16), (1, 17), (1, 18), (1, 19), (1, 20), (1, 21), (1, 22), (1, 23), (2, 0), (2, 1), (2, 2), (2, 3), (2, 4), (2, 5), (2, 6), (2, 7), (2, 8), (2, 9)] rfl (by decide +kernel)
set_option maxRecDepth 20000 in
theorem zbL_law_X11_init_3 : GoodIn wsL_law wsX11_init_r3 := goodIn_k _ cks_L_law ck_L_law [(2, 10), (2, 11), (2, 12), (2, 13), (2, 14), (2, 15), (2, 16), (2, 17), (2, 18), (2, 19), (2, 20), (2, 21), (2, 22), (2, 23), (3, 0), (3, 1), (3, 2), (3, 3), (3, 4), (3, 5), (3, 6), (3, 7), (3, 8), (3, 9)] rfl (by decide +kernel)
set_option maxRecDepth 20000 in
theorem zbL_law_X11_init_4 : GoodIn wsL_law wsX11_init_r4 := goodIn_k _ cks_L_law ck_L_law [(3, 10), (3, 11), (3, 12), (3, 13), (3, 14), (0, 6), (3, 15), (3, 16), (3, 17), (3, 18), (3, 19), (3, 20), (3, 21), (3, 22), (3, 23), (4, 0), (4, 1), (4, 2), (4, 3), (4, 4), (4, 5), (4, 6), (4, 7), (4, 8)] rfl (by decide +kernel)
set_option maxRecDepth 20000 in
theorem zbL_law_X11_init_5 : GoodIn wsL_law wsX11_init_r5 := goodIn_k _ cks_L_law ck_L_law [(4, 9), (4, 10), (4, 11), (4, 12), (4, 13), (4, 14), (4, 15), (4, 16), (4, 17), (4, 18), (4, 19), (4, 20), (4, 21), (4, 22), (4, 23), (5, 0), (5, 1), (5, 2), (5, 3), (5, 4), (5, 5), (5, 6), (5, 7), (5, 8)] rfl (by decide +kernel)
set_option maxRecDepth 20000 in
theorem zbL_law_X11_init_6 : GoodIn wsL_law wsX11_init_r6 := goodIn_k _ cks_L_law ck_L_law [(5, 9), (5, 10), (5, 11), (5, 12), (5, 13), (5, 14), (5, 15), (5, 16)] rfl (by decide +kernel)
set_option maxRecDepth 20000 in
theorem ggL_law_X11_init : GoodIn wsL_law wsX11_init := (goodIn_ca (goodIn_ca (goodIn_ca (goodIn_ca (goodIn_ca (goodIn_ca (goodIn_ca (goodIn_ca (goodIn_ca (goodIn_ca (goodIn_ca (goodIn_ca (goodIn_cc zbL_law_X11_init_0 (goodIn_app zbL_law_X11_init_1 (goodIn_app zbL_law_X11_init_2 (goodIn_app zbL_law_X11_init_3 (goodIn_app zbL_law_X11_init_4 (goodIn_app zbL_law_X11_init_5 zbL_law_X11_init_6)))))) (goodIn_sub inlX7 zgw_X7)) (goodIn_sub inlX11 zgw_X11)) (goodIn_sub inlX10 zgw_X10)) (goodIn_sub inlX6 zgw_X6)) (goodIn_sub inlX4 zgw_X4)) (goodIn_sub inlX3 zgw_X3)) (goodIn_sub inlX5 zgw_X5)) (goodIn_sub inlX9 zgw_X9)) (goodIn_sub inlX0 zgw_X0)) (goodIn_sub inlX8 zgw_X8)) (goodIn_sub inlX2 zgw_X2)) (goodIn_sub inlX1 zgw_X1))
set_option maxRecDepth 20000 in
theorem gL_law_X11_init : GoodIn wsL_law (wsX11_init) := ggL_law_X11_init
set_option maxRecDepth 20000 in
theorem zbL_law_X12_init_0 : GoodIn wsL_law [Cond.code yX12_init cX12_init 1 none] := goodIn_k _ cks_L_law ck_L_law [(5, 19)] rfl (by decide +kernel)
set_option maxRecDepth 20000 in
theorem zbL_law_X12_init_1 : GoodIn wsL_law wsX12_init_r1 := goodIn_k _ cks_L_law ck_L_law [(5, 20), (0, 11), (0, 12), (1, 18), (5, 21), (5, 22), (0, 6), (5, 23), (6, 0), (6, 1), (6, 2), (6, 3), (6, 4), (6, 5), (6, 6), (6, 7), (6, 8), (6, 9), (6, 10), (6, 11), (6, 12), (6, 13), (6, 14), (6, 15)] rfl (by decide +kernel)
set_option maxRecDepth 20000 in
theorem zbL_law_X12_init_2 : GoodIn wsL_law wsX12_init_r2 := goodIn_k _ cks_L_law ck_L_law [(6, 16), (6, 17), (6, 18), (6, 19), (6, 20), (6, 21)] rfl (by decide +kernel)
set_option maxRecDepth 20000 in
theorem ggL_law_X12_init : GoodIn wsL_law wsX12_init := (goodIn_ca (goodIn_cc zbL_law_X12_init_0 (goodIn_app zbL_law_X12_init_1 zbL_law_X12_init_2)) (goodIn_sub inlX12 zgw_X12))
set_option maxRecDepth 20000 in
theorem gL_law_X12_init : GoodIn wsL_law (wsX12_init) := ggL_law_X12_init
set_option maxRecDepth 20000 in
theorem zbL_law_X11_feed : GoodIn wsL_law (Cond.code yX11_feed cX11_feed 6 (some .int) :: [.fieldLink RX11 14 "ClayAccounts" "tape" "LClayAccounts$Text;", .fieldLink RX11 100 "ClayAccounts$Text" "size" "I", .methodLink RX11 103 yX7_putFour, .instanceMethod yX7_putFour, .selects RX7 yX7_putFour yX7_putFour, .initialized RX7, .code yX7_putFour cX7_putFour 2 none, .methodLink RX7 25 yX7_put, .instanceMethod yX7_put, .selects RX7 yX7_put yX7_put, .code yX7_put cX7_put 2 none, .fieldLink RX7 21 "ClayAccounts$Text" "size" "I", .fieldLink RX7 15 "ClayAccounts$Text" "bytes" "[B"]) := goodIn_k _ cks_L_law ck_L_law [(7, 1), (0, 16), (7, 2), (7, 3), (7, 4), (7, 5), (0, 15), (7, 6), (7, 7), (7, 8), (7, 9), (7, 10), (2, 16), (2, 15)] rfl (by decide +kernel)
set_option maxRecDepth 20000 in
theorem ggL_law_X11_feed : GoodIn wsL_law wsX11_feed := (goodIn_ca (goodIn_ca zbL_law_X11_feed (goodIn_sub inlX11 zgw_X11)) (goodIn_sub inlX7 zgw_X7))
set_option maxRecDepth 20000 in
theorem gL_law_X11_feed : GoodIn wsL_law (wsV RL 34 RX11 yX11_feed wsX11_feed) := goodIn_app (goodIn_of _ (by decide +kernel)) ggL_law_X11_feed
set_option maxRecDepth 20000 in
theorem zbL_law_X12_feed : GoodIn wsL_law (Cond.code yX12_feed cX12_feed 6 (some .int) :: [.fieldLink RX12 86 "ClayAccountsModel" "thrown" "I", .fieldLink RX12 90 "ClayAccountsModel" "taped" "I", .methodLink RX12 93 yX12_come, .instanceMethod yX12_come, .selects RX12 yX12_come yX12_come, .initialized RX12, .code yX12_come cX12_come 3 none, .fieldLink RX12 7 "ClayAccountsModel" "tape" "[I"]) := goodIn_k _ cks_L_law ck_L_law [(7, 14), (7, 15), (7, 16), (7, 17), (7, 18), (7, 19), (0, 5), (7, 20), (5, 21)] rfl (by decide +kernel)
set_option maxRecDepth 20000 in
theorem ggL_law_X12_feed : GoodIn wsL_law wsX12_feed := (goodIn_ca zbL_law_X12_feed (goodIn_sub inlX12 zgw_X12))
set_option maxRecDepth 20000 in
theorem gL_law_X12_feed : GoodIn wsL_law (wsV RL 38 RX12 yX12_feed wsX12_feed) := goodIn_app (goodIn_of _ (by decide +kernel)) ggL_law_X12_feed
set_option maxRecDepth 20000 in
theorem zbL_law_X11_end : GoodIn wsL_law (Cond.code yX11_end cX11_end 2 (some .boolean) :: [.fieldLink RX11 14 "ClayAccounts" "tape" "LClayAccounts$Text;", .fieldLink RX11 100 "ClayAccounts$Text" "size" "I"]) := goodIn_k _ cks_L_law ck_L_law [(8, 0), (0, 16), (7, 2)] rfl (by decide +kernel)
set_option maxRecDepth 20000 in
theorem ggL_law_X11_end : GoodIn wsL_law wsX11_end := (goodIn_ca (goodIn_ca zbL_law_X11_end (goodIn_sub inlX11 zgw_X11)) (goodIn_sub inlX7 zgw_X7))
set_option maxRecDepth 20000 in
theorem gL_law_X11_end : GoodIn wsL_law (wsV RL 39 RX11 yX11_end wsX11_end) := goodIn_app (goodIn_of _ (by decide +kernel)) ggL_law_X11_end
set_option maxRecDepth 20000 in
theorem zbL_law_X12_end : GoodIn wsL_law (Cond.code yX12_end cX12_end 2 (some .boolean) :: [.fieldLink RX12 86 "ClayAccountsModel" "thrown" "I", .fieldLink RX12 90 "ClayAccountsModel" "taped" "I"]) := goodIn_k _ cks_L_law ck_L_law [(8, 4), (7, 15), (7, 16)] rfl (by decide +kernel)
set_option maxRecDepth 20000 in
theorem ggL_law_X12_end : GoodIn wsL_law wsX12_end := (goodIn_ca zbL_law_X12_end (goodIn_sub inlX12 zgw_X12))
set_option maxRecDepth 20000 in
theorem gL_law_X12_end : GoodIn wsL_law (wsV RL 43 RX12 yX12_end wsX12_end) := goodIn_app (goodIn_of _ (by decide +kernel)) ggL_law_X12_end
set_option maxRecDepth 20000 in
theorem zbL_law_X11_systems_0 : GoodIn wsL_law [Cond.code yX11_systems cX11_systems 3 (some .int)] := goodIn_k _ cks_L_law ck_L_law [(8, 8)] rfl (by decide +kernel)
set_option maxRecDepth 20000 in
theorem zbL_law_X11_systems_1 : GoodIn wsL_law wsX11_systems_r1 := goodIn_k _ cks_L_law ck_L_law [(0, 22), (0, 16), (2, 0), (8, 9), (8, 10), (2, 5), (8, 11), (1, 23), (2, 3), (1, 10), (1, 19), (8, 12), (8, 13), (8, 14), (8, 15), (0, 21), (8, 16), (2, 23), (8, 17), (8, 18), (8, 19), (8, 20), (8, 21), (8, 22)] rfl (by decide +kernel)
set_option maxRecDepth 20000 in
theorem zbL_law_X11_systems_2 : GoodIn wsL_law wsX11_systems_r2 := goodIn_k _ cks_L_law ck_L_law [(1, 22), (8, 23), (9, 0), (5, 4), (5, 5), (5, 6), (9, 1), (9, 2), (4, 5), (9, 3), (9, 4), (4, 4), (4, 6), (9, 5), (9, 6), (9, 7), (2, 22), (9, 8), (3, 4), (9, 9), (9, 10), (9, 11), (9, 12), (9, 13)] rfl (by decide +kernel)
set_option maxRecDepth 20000 in
theorem zbL_law_X11_systems_3 : GoodIn wsL_law wsX11_systems_r3 := goodIn_k _ cks_L_law ck_L_law [(9, 14), (9, 15), (9, 16), (9, 17), (9, 18), (9, 19), (9, 20), (2, 12), (9, 21), (9, 22), (9, 23), (10, 0), (10, 1), (10, 2), (0, 15), (10, 3), (2, 16), (2, 15), (10, 4), (10, 5), (10, 6), (10, 7), (10, 8), (10, 9)] rfl (by decide +kernel)
set_option maxRecDepth 20000 in
theorem zbL_law_X11_systems_4 : GoodIn wsL_law wsX11_systems_r4 := goodIn_k _ cks_L_law ck_L_law [(10, 10), (10, 11), (10, 12), (10, 13), (10, 14), (10, 15), (10, 16), (10, 17), (10, 18), (10, 19), (10, 20), (10, 21), (10, 22), (10, 23), (11, 0), (11, 1), (11, 2), (11, 3), (11, 4), (11, 5), (11, 6), (11, 7), (11, 8), (11, 9)] rfl (by decide +kernel)
set_option maxRecDepth 20000 in
theorem zbL_law_X11_systems_5 : GoodIn wsL_law wsX11_systems_r5 := goodIn_k _ cks_L_law ck_L_law [(11, 10), (11, 11), (11, 12), (11, 13), (11, 14), (11, 15), (11, 16), (11, 17), (11, 18), (11, 19), (11, 20), (11, 21), (11, 22), (11, 23), (12, 0), (12, 1), (12, 2), (12, 3), (12, 4), (12, 5), (12, 6), (12, 7), (12, 8), (12, 9)] rfl (by decide +kernel)
set_option maxRecDepth 20000 in
theorem zbL_law_X11_systems_6 : GoodIn wsL_law wsX11_systems_r6 := goodIn_k _ cks_L_law ck_L_law [(12, 10), (12, 11), (12, 12), (12, 13), (12, 14), (12, 15), (12, 16), (12, 17), (12, 18), (12, 19), (12, 20), (12, 21), (12, 22), (12, 23), (13, 0), (13, 1), (13, 2), (13, 3), (13, 4), (13, 5), (13, 6), (13, 7), (13, 8), (13, 9)] rfl (by decide +kernel)
set_option maxRecDepth 20000 in
theorem zbL_law_X11_systems_7 : GoodIn wsL_law wsX11_systems_r7 := goodIn_k _ cks_L_law ck_L_law [(13, 10), (13, 11), (13, 12), (13, 13), (13, 14), (13, 15), (5, 7), (5, 8), (5, 9), (13, 16), (13, 17), (13, 18), (13, 19), (13, 20), (13, 21), (13, 22), (13, 23), (14, 0), (14, 1), (14, 2), (14, 3), (14, 4), (14, 5), (14, 6)] rfl (by decide +kernel)
set_option maxRecDepth 20000 in
theorem zbL_law_X11_systems_8 : GoodIn wsL_law wsX11_systems_r8 := goodIn_k _ cks_L_law ck_L_law [(14, 7), (14, 8), (14, 9), (14, 10), (14, 11), (14, 12), (14, 13), (14, 14), (14, 15), (14, 16), (14, 17), (14, 18), (1, 9), (14, 19), (4, 0), (14, 20), (14, 21), (4, 3), (5, 16)] rfl (by decide +kernel)
set_option maxRecDepth 20000 in
theorem ggL_law_X11_systems : GoodIn wsL_law wsX11_systems := (goodIn_ca (goodIn_ca (goodIn_ca (goodIn_ca (goodIn_ca (goodIn_ca (goodIn_cc zbL_law_X11_systems_0 (goodIn_app zbL_law_X11_systems_1 (goodIn_app zbL_law_X11_systems_2 (goodIn_app zbL_law_X11_systems_3 (goodIn_app zbL_law_X11_systems_4 (goodIn_app zbL_law_X11_systems_5 (goodIn_app zbL_law_X11_systems_6 (goodIn_app zbL_law_X11_systems_7 zbL_law_X11_systems_8)))))))) (goodIn_sub inlX11 zgw_X11)) (goodIn_sub inlX10 zgw_X10)) (goodIn_sub inlX8 zgw_X8)) (goodIn_sub inlX9 zgw_X9)) (goodIn_sub inlX7 zgw_X7)) (goodIn_sub inlX3 zgw_X3))
set_option maxRecDepth 20000 in
theorem gL_law_X11_systems : GoodIn wsL_law (wsV RL 44 RX11 yX11_systems wsX11_systems) := goodIn_app (goodIn_of _ (by decide +kernel)) ggL_law_X11_systems
set_option maxRecDepth 20000 in
theorem zbL_law_X12_systems_0 : GoodIn wsL_law [Cond.code yX12_systems cX12_systems 4 (some .int)] := goodIn_k _ cks_L_law ck_L_law [(15, 1)] rfl (by decide +kernel)
set_option maxRecDepth 20000 in
theorem zbL_law_X12_systems_1 : GoodIn wsL_law wsX12_systems_r1 := goodIn_k _ cks_L_law ck_L_law [(7, 15), (15, 2), (15, 3), (15, 4), (15, 5), (15, 6), (6, 1), (6, 0), (6, 2), (15, 7), (15, 8), (15, 9), (15, 10), (0, 5), (15, 11), (7, 16), (15, 12), (5, 22), (5, 21), (15, 13), (15, 14), (15, 15), (15, 16), (15, 17)] rfl (by decide +kernel)
set_option maxRecDepth 20000 in
theorem zbL_law_X12_systems_2 : GoodIn wsL_law wsX12_systems_r2 := goodIn_k _ cks_L_law ck_L_law [(15, 18), (15, 19), (15, 20), (15, 21), (15, 22), (15, 23), (16, 0), (16, 1), (16, 2), (16, 3), (16, 4), (16, 5), (16, 6), (16, 7), (16, 8), (16, 9), (16, 10), (16, 11), (16, 12), (16, 13), (16, 14), (16, 15), (16, 16), (16, 17)] rfl (by decide +kernel)
set_option maxRecDepth 20000 in
theorem zbL_law_X12_systems_3 : GoodIn wsL_law wsX12_systems_r3 := goodIn_k _ cks_L_law ck_L_law [(16, 18), (16, 19), (16, 20), (16, 21), (16, 22), (16, 23), (17, 0), (17, 1), (17, 2), (17, 3), (17, 4), (17, 5), (17, 6), (17, 7), (17, 8), (17, 9), (17, 10), (17, 11), (5, 23), (17, 12), (17, 13), (17, 14), (17, 15), (17, 16)] rfl (by decide +kernel)
set_option maxRecDepth 20000 in
theorem zbL_law_X12_systems_4 : GoodIn wsL_law wsX12_systems_r4 := goodIn_k _ cks_L_law ck_L_law [(17, 17), (17, 18), (17, 19), (17, 20), (17, 21), (17, 22), (17, 23), (18, 0), (18, 1), (18, 2), (18, 3), (18, 4), (18, 5), (18, 6), (18, 7), (18, 8), (18, 9), (18, 10), (18, 11), (18, 12), (18, 13), (18, 14), (18, 15)] rfl (by decide +kernel)
set_option maxRecDepth 20000 in
theorem ggL_law_X12_systems : GoodIn wsL_law wsX12_systems := (goodIn_ca (goodIn_cc zbL_law_X12_systems_0 (goodIn_app zbL_law_X12_systems_1 (goodIn_app zbL_law_X12_systems_2 (goodIn_app zbL_law_X12_systems_3 zbL_law_X12_systems_4)))) (goodIn_sub inlX12 zgw_X12))
set_option maxRecDepth 20000 in
theorem gL_law_X12_systems : GoodIn wsL_law (wsV RL 48 RX12 yX12_systems wsX12_systems) := goodIn_app (goodIn_of _ (by decide +kernel)) ggL_law_X12_systems
set_option maxRecDepth 20000 in
theorem zbL_law_X11_fault : GoodIn wsL_law (Cond.code yX11_fault cX11_fault 1 (some .int) :: [.fieldLink RX11 97 "ClayAccounts" "faultKind" "I"]) := goodIn_k _ cks_L_law ck_L_law [(18, 19), (2, 5)] rfl (by decide +kernel)
set_option maxRecDepth 20000 in
theorem ggL_law_X11_fault : GoodIn wsL_law wsX11_fault := (goodIn_ca zbL_law_X11_fault (goodIn_sub inlX11 zgw_X11))
set_option maxRecDepth 20000 in
theorem gL_law_X11_fault : GoodIn wsL_law (wsV RL 49 RX11 yX11_fault wsX11_fault) := goodIn_app (goodIn_of _ (by decide +kernel)) ggL_law_X11_fault
set_option maxRecDepth 20000 in
theorem zbL_law_X12_fault : GoodIn wsL_law (Cond.code yX12_fault cX12_fault 1 (some .int) :: [.fieldLink RX12 86 "ClayAccountsModel" "thrown" "I", .fieldLink RX12 150 "ClayAccountsModel" "fault" "I"]) := goodIn_k _ cks_L_law ck_L_law [(18, 23), (7, 15), (15, 2)] rfl (by decide +kernel)
set_option maxRecDepth 20000 in
theorem ggL_law_X12_fault : GoodIn wsL_law wsX12_fault := (goodIn_ca zbL_law_X12_fault (goodIn_sub inlX12 zgw_X12))
set_option maxRecDepth 20000 in
theorem gL_law_X12_fault : GoodIn wsL_law (wsV RL 52 RX12 yX12_fault wsX12_fault) := goodIn_app (goodIn_of _ (by decide +kernel)) ggL_law_X12_fault
set_option maxRecDepth 20000 in
theorem zbL_law_L_system : GoodIn wsL_law (Cond.codeWith yL_system cL_system 5 (some .int) [(0, 10, 13, 13)] :: [.classLink RL 13 "java/util/NoSuchElementException", .methodLink RL 7 yX11_system, .instanceMethod yX11_system, .selects RX11 yX11_system yX11_system, .initialized RX11, .code yX11_system cX11_system 3 (some .int), .classLink RX11 135 "java/util/NoSuchElementException", .initialized "java/util/NoSuchElementException", .fieldLink RX11 76 "ClayAccounts" "units" "LClayAccounts$Units;", .fieldLink RX11 142 "ClayAccounts$Units" "unitCounts" "[I", .fieldLink RX11 145 "ClayAccounts$Units" "factors" "[I", .methodLink RX11 131 yX11_isSystem, .instanceMethod yX11_isSystem, .selects RX11 yX11_isSystem yX11_isSystem, .code yX11_isSystem cX11_isSystem 2 (some .boolean), .fieldLink RX11 128 "ClayAccounts$Units" "systemCount" "I", .methodLink RX11 148 yX9_slot, .static yX9_slot, .initialized RX9, .code yX9_slot cX9_slot 2 (some .int)]) := goodIn_k _ cks_L_law ck_L_law [(19, 3), (19, 4), (19, 5), (19, 6), (19, 7), (0, 2), (19, 8), (19, 9), (19, 10), (1, 23), (19, 11), (19, 12), (19, 13), (19, 14), (19, 15), (19, 16), (8, 12), (19, 17), (13, 21), (1, 22), (13, 22)] rfl (by decide +kernel)
set_option maxRecDepth 20000 in
theorem ggL_law_L_system : GoodIn wsL_law wsL_system := (goodIn_ca (goodIn_ca (goodIn_ca zbL_law_L_system (goodIn_sub inlX11 zgw_X11)) (goodIn_sub inlX9 zgw_X9)) (goodIn_sub (fun _ h => List.mem_append_right _ h) (by decide +kernel)))
set_option maxRecDepth 20000 in
theorem gL_law_L_system : GoodIn wsL_law (va_wsS RL 53 yL_system wsL_system) := goodIn_app (goodIn_of _ (by decide +kernel)) ggL_law_L_system
set_option maxRecDepth 20000 in
theorem zbL_law_X12_system : GoodIn wsL_law (Cond.code yX12_system cX12_system 3 (some .int) :: [.fieldLink RX12 201 "ClayAccountsModel" "systems" "I", .fieldLink RX12 86 "ClayAccountsModel" "thrown" "I", .fieldLink RX12 23 "ClayAccountsModel" "units" "[I", .fieldLink RX12 26 "ClayAccountsModel" "factor" "[I", .methodLink RX12 210 yX12_refuse, .instanceMethod yX12_refuse, .selects RX12 yX12_refuse yX12_refuse, .initialized RX12, .code yX12_refuse cX12_refuse 1 (some .int)]) := goodIn_k _ cks_L_law ck_L_law [(19, 21), (15, 6), (7, 15), (6, 1), (6, 2), (19, 22), (19, 23), (20, 0), (0, 5), (20, 1)] rfl (by decide +kernel)
set_option maxRecDepth 20000 in
theorem ggL_law_X12_system : GoodIn wsL_law wsX12_system := (goodIn_ca zbL_law_X12_system (goodIn_sub inlX12 zgw_X12))
set_option maxRecDepth 20000 in
theorem gL_law_X12_system : GoodIn wsL_law (wsV RL 58 RX12 yX12_system wsX12_system) := goodIn_app (goodIn_of _ (by decide +kernel)) ggL_law_X12_system
set_option maxRecDepth 20000 in
theorem zbL_law_X11_write_0 : GoodIn wsL_law [Cond.code yX11_write cX11_write 3 (some .int)] := goodIn_k _ cks_L_law ck_L_law [(20, 5)] rfl (by decide +kernel)
set_option maxRecDepth 20000 in
theorem zbL_law_X11_write_1 : GoodIn wsL_law wsX11_write_r1 := goodIn_k _ cks_L_law ck_L_law [(1, 23), (0, 17), (7, 2), (19, 13), (19, 14), (19, 15), (0, 2), (19, 16), (8, 12), (20, 6), (20, 7), (20, 8), (1, 22), (20, 9), (5, 5), (5, 8), (13, 20), (13, 21), (13, 22), (14, 12), (14, 13), (14, 14), (0, 15), (14, 15)] rfl (by decide +kernel)
set_option maxRecDepth 20000 in
theorem zbL_law_X11_write_2 : GoodIn wsL_law wsX11_write_r2 := goodIn_k _ cks_L_law ck_L_law [(2, 16), (20, 10), (20, 11), (20, 12), (20, 13), (5, 6), (20, 14), (20, 15), (20, 16), (20, 17), (20, 18), (7, 8), (7, 9), (7, 10), (2, 15)] rfl (by decide +kernel)
set_option maxRecDepth 20000 in
theorem ggL_law_X11_write : GoodIn wsL_law wsX11_write := (goodIn_ca (goodIn_ca (goodIn_ca (goodIn_cc zbL_law_X11_write_0 (goodIn_app zbL_law_X11_write_1 zbL_law_X11_write_2)) (goodIn_sub inlX11 zgw_X11)) (goodIn_sub inlX7 zgw_X7)) (goodIn_sub inlX9 zgw_X9))
set_option maxRecDepth 20000 in
theorem gL_law_X11_write : GoodIn wsL_law (wsV RL 59 RX11 yX11_write wsX11_write) := goodIn_app (goodIn_of _ (by decide +kernel)) ggL_law_X11_write
set_option maxRecDepth 20000 in
theorem zbL_law_X12_write : GoodIn wsL_law (Cond.code yX12_write cX12_write 6 (some .int) :: [.fieldLink RX12 86 "ClayAccountsModel" "thrown" "I", .fieldLink RX12 201 "ClayAccountsModel" "systems" "I", .fieldLink RX12 23 "ClayAccountsModel" "units" "[I", .fieldLink RX12 214 "ClayAccountsModel" "outs" "I", .fieldLink RX12 20 "ClayAccountsModel" "unitName" "[J", .methodLink RX12 220 yX12_worth, .instanceMethod yX12_worth, .selects RX12 yX12_worth yX12_worth, .initialized RX12, .code yX12_worth cX12_worth 5 (some .int), .fieldLink RX12 26 "ClayAccountsModel" "factor" "[I", .methodLink RX12 217 yX12_outByte, .instanceMethod yX12_outByte, .selects RX12 yX12_outByte yX12_outByte, .code yX12_outByte cX12_outByte 2 none, .fieldLink RX12 29 "ClayAccountsModel" "out" "[I", .methodLink RX12 224 yX12_outName, .instanceMethod yX12_outName, .selects RX12 yX12_outName yX12_outName, .code yX12_outName cX12_outName 5 none, .constantLong RX12 137 (27)]) := goodIn_k _ cks_L_law ck_L_law [(20, 22), (7, 15), (15, 6), (6, 1), (20, 23), (6, 0), (21, 0), (21, 1), (21, 2), (0, 5), (21, 3), (6, 2), (21, 4), (21, 5), (21, 6), (21, 7), (6, 3), (21, 8), (21, 9), (21, 10), (21, 11), (16, 3)] rfl (by decide +kernel)
set_option maxRecDepth 20000 in
theorem ggL_law_X12_write : GoodIn wsL_law wsX12_write := (goodIn_ca zbL_law_X12_write (goodIn_sub inlX12 zgw_X12))
set_option maxRecDepth 20000 in
theorem gL_law_X12_write : GoodIn wsL_law (wsV RL 62 RX12 yX12_write wsX12_write) := goodIn_app (goodIn_of _ (by decide +kernel)) ggL_law_X12_write
set_option maxRecDepth 20000 in
theorem zbL_law_L_octet : GoodIn wsL_law (Cond.codeWith yL_octet cL_octet 4 (some .int) [(0, 9, 12, 13)] :: [.classLink RL 13 "java/util/NoSuchElementException", .methodLink RL 15 yX11_octet, .instanceMethod yX11_octet, .selects RX11 yX11_octet yX11_octet, .initialized RX11, .code yX11_octet cX11_octet 2 (some .int), .classLink RX11 135 "java/util/NoSuchElementException", .initialized "java/util/NoSuchElementException", .fieldLink RX11 18 "ClayAccounts" "out" "LClayAccounts$Text;", .fieldLink RX11 100 "ClayAccounts$Text" "size" "I", .methodLink RX11 162 yX7_byteAt, .instanceMethod yX7_byteAt, .selects RX7 yX7_byteAt yX7_byteAt, .initialized RX7, .code yX7_byteAt cX7_byteAt 2 (some .int), .fieldLink RX7 21 "ClayAccounts$Text" "size" "I", .fieldLink RX7 15 "ClayAccounts$Text" "bytes" "[B"]) := goodIn_k _ cks_L_law ck_L_law [(21, 14), (19, 4), (21, 15), (21, 16), (21, 17), (0, 2), (21, 18), (19, 9), (19, 10), (0, 17), (7, 2), (21, 19), (10, 1), (10, 2), (0, 15), (10, 3), (2, 16), (2, 15)] rfl (by decide +kernel)
set_option maxRecDepth 20000 in
theorem ggL_law_L_octet : GoodIn wsL_law wsL_octet := (goodIn_ca (goodIn_ca (goodIn_ca zbL_law_L_octet (goodIn_sub inlX11 zgw_X11)) (goodIn_sub inlX7 zgw_X7)) (goodIn_sub (fun _ h => List.mem_append_right _ h) (by decide +kernel)))
set_option maxRecDepth 20000 in
theorem gL_law_L_octet : GoodIn wsL_law (va_wsS RL 63 yL_octet wsL_octet) := goodIn_app (goodIn_of _ (by decide +kernel)) ggL_law_L_octet
set_option maxRecDepth 20000 in
theorem zbL_law_X12_octet : GoodIn wsL_law (Cond.code yX12_octet cX12_octet 2 (some .int) :: [.fieldLink RX12 214 "ClayAccountsModel" "outs" "I", .fieldLink RX12 86 "ClayAccountsModel" "thrown" "I", .fieldLink RX12 29 "ClayAccountsModel" "out" "[I", .methodLink RX12 210 yX12_refuse, .instanceMethod yX12_refuse, .selects RX12 yX12_refuse yX12_refuse, .initialized RX12, .code yX12_refuse cX12_refuse 1 (some .int)]) := goodIn_k _ cks_L_law ck_L_law [(21, 23), (20, 23), (7, 15), (6, 3), (19, 22), (19, 23), (20, 0), (0, 5), (20, 1)] rfl (by decide +kernel)
set_option maxRecDepth 20000 in
theorem ggL_law_X12_octet : GoodIn wsL_law wsX12_octet := (goodIn_ca zbL_law_X12_octet (goodIn_sub inlX12 zgw_X12))
set_option maxRecDepth 20000 in
theorem gL_law_X12_octet : GoodIn wsL_law (wsV RL 66 RX12 yX12_octet wsX12_octet) := goodIn_app (goodIn_of _ (by decide +kernel)) ggL_law_X12_octet
set_option maxRecDepth 20000 in
theorem zbL_law_X11_tablet_0 : GoodIn wsL_law [Cond.code yX11_tablet cX11_tablet 3 (some .int)] := goodIn_k _ cks_L_law ck_L_law [(22, 3)] rfl (by decide +kernel)
set_option maxRecDepth 20000 in
theorem zbL_law_X11_tablet_1 : GoodIn wsL_law wsX11_tablet_r1 := goodIn_k _ cks_L_law ck_L_law [(2, 3), (1, 23), (8, 12), (1, 2), (0, 16), (1, 12), (22, 4), (8, 10), (2, 5), (8, 11), (22, 5), (22, 6), (22, 7), (1, 1), (22, 8), (3, 10), (22, 9), (22, 10), (22, 11), (22, 12), (22, 13), (22, 14), (1, 14), (22, 15)] rfl (by decide +kernel)
set_option maxRecDepth 20000 in
theorem zbL_law_X11_tablet_2 : GoodIn wsL_law wsX11_tablet_r2 := goodIn_k _ cks_L_law ck_L_law [(22, 16), (22, 17), (22, 18), (22, 19), (22, 20), (22, 21), (9, 6), (9, 7), (2, 22), (9, 8), (3, 4), (9, 9), (9, 10), (9, 11), (9, 12), (9, 13), (22, 22), (9, 15), (9, 16), (9, 17), (9, 18), (9, 19), (9, 20), (2, 12)] rfl (by decide +kernel)
set_option maxRecDepth 20000 in
theorem zbL_law_X11_tablet_3 : GoodIn wsL_law wsX11_tablet_r3 := goodIn_k _ cks_L_law ck_L_law [(9, 21), (9, 22), (9, 23), (10, 0), (10, 1), (10, 2), (0, 15), (10, 3), (2, 16), (2, 15), (10, 4), (10, 5), (10, 6), (10, 7), (10, 8), (10, 9), (10, 10), (10, 11), (10, 12), (10, 13), (10, 14), (10, 15), (10, 16), (10, 17)] rfl (by decide +kernel)
set_option maxRecDepth 20000 in
theorem zbL_law_X11_tablet_4 : GoodIn wsL_law wsX11_tablet_r4 := goodIn_k _ cks_L_law ck_L_law [(10, 18), (10, 19), (10, 20), (10, 21), (10, 22), (10, 23), (11, 0), (11, 1), (11, 2), (11, 3), (11, 4), (11, 5), (11, 6), (11, 7), (11, 8), (11, 9), (11, 10), (11, 11), (22, 23), (11, 13), (11, 14), (11, 15), (11, 16), (11, 17)] rfl (by decide +kernel)
set_option maxRecDepth 20000 in
theorem zbL_law_X11_tablet_5 : GoodIn wsL_law wsX11_tablet_r5 := goodIn_k _ cks_L_law ck_L_law [(11, 18), (11, 19), (23, 0), (23, 1), (23, 2), (23, 3), (23, 4), (23, 5), (23, 6), (23, 7), (23, 8), (23, 9), (23, 10), (23, 11), (23, 12), (23, 13), (23, 14), (23, 15), (23, 16), (23, 17), (23, 18), (23, 19), (4, 12), (23, 20)] rfl (by decide +kernel)
set_option maxRecDepth 20000 in
theorem zbL_law_X11_tablet_6 : GoodIn wsL_law wsX11_tablet_r6 := goodIn_k _ cks_L_law ck_L_law [(23, 21), (23, 22), (23, 23), (4, 16), (24, 0), (24, 1), (24, 2), (24, 3), (24, 4), (24, 5), (24, 6), (24, 7), (24, 8), (24, 9), (24, 10), (24, 11), (24, 12), (24, 13), (24, 14), (24, 15), (24, 16), (24, 17), (12, 7), (12, 8)] rfl (by decide +kernel)
set_option maxRecDepth 20000 in
theorem zbL_law_X11_tablet_7 : GoodIn wsL_law wsX11_tablet_r7 := goodIn_k _ cks_L_law ck_L_law [(12, 9), (24, 18), (24, 19), (24, 20), (24, 21), (24, 22), (24, 23), (25, 0), (25, 1), (13, 1), (13, 2), (1, 22), (13, 3), (5, 6), (25, 2), (25, 3), (25, 4), (25, 5), (25, 6), (25, 7), (25, 8), (25, 9), (25, 10), (25, 11)] rfl (by decide +kernel)
set_option maxRecDepth 20000 in
theorem zbL_law_X11_tablet_8 : GoodIn wsL_law wsX11_tablet_r8 := goodIn_k _ cks_L_law ck_L_law [(25, 12), (25, 13), (25, 14), (25, 15), (25, 16), (25, 17), (25, 18), (25, 19), (25, 20), (25, 21), (25, 22), (25, 23), (26, 0), (26, 1), (26, 2), (26, 3), (26, 4), (26, 5), (26, 6), (4, 14), (26, 7), (26, 8), (26, 9), (26, 10)] rfl (by decide +kernel)
set_option maxRecDepth 20000 in
theorem zbL_law_X11_tablet_9 : GoodIn wsL_law wsX11_tablet_r9 := goodIn_k _ cks_L_law ck_L_law [(26, 11), (26, 12), (26, 13), (26, 14), (4, 18), (26, 15), (26, 16), (26, 17), (26, 18), (26, 19), (26, 20), (26, 21), (26, 22), (26, 23), (27, 0), (27, 1), (27, 2), (14, 12), (14, 13), (14, 14), (14, 15)] rfl (by decide +kernel)
set_option maxRecDepth 20000 in
theorem ggL_law_X11_tablet : GoodIn wsL_law wsX11_tablet := (goodIn_ca (goodIn_ca (goodIn_ca (goodIn_ca (goodIn_ca (goodIn_ca (goodIn_ca (goodIn_ca (goodIn_cc zbL_law_X11_tablet_0 (goodIn_app zbL_law_X11_tablet_1 (goodIn_app zbL_law_X11_tablet_2 (goodIn_app zbL_law_X11_tablet_3 (goodIn_app zbL_law_X11_tablet_4 (goodIn_app zbL_law_X11_tablet_5 (goodIn_app zbL_law_X11_tablet_6 (goodIn_app zbL_law_X11_tablet_7 (goodIn_app zbL_law_X11_tablet_8 zbL_law_X11_tablet_9))))))))) (goodIn_sub inlX11 zgw_X11)) (goodIn_sub inlX9 zgw_X9)) (goodIn_sub inlX6 zgw_X6)) (goodIn_sub inlX8 zgw_X8)) (goodIn_sub inlX5 zgw_X5)) (goodIn_sub inlX7 zgw_X7)) (goodIn_sub inlX2 zgw_X2)) (goodIn_sub inlX1 zgw_X1))
set_option maxRecDepth 20000 in
theorem gL_law_X11_tablet : GoodIn wsL_law (wsV RL 67 RX11 yX11_tablet wsX11_tablet) := goodIn_app (goodIn_of _ (by decide +kernel)) ggL_law_X11_tablet
set_option maxRecDepth 20000 in
theorem zbL_law_X12_tablet_0 : GoodIn wsL_law [Cond.code yX12_tablet cX12_tablet 1 (some .int)] := goodIn_k _ cks_L_law ck_L_law [(27, 6)] rfl (by decide +kernel)
set_option maxRecDepth 20000 in
theorem zbL_law_X12_tablet_1 : GoodIn wsL_law wsX12_tablet_r1 := goodIn_k _ cks_L_law ck_L_law [(7, 15), (15, 7), (15, 6), (7, 16), (15, 2), (15, 4), (15, 8), (15, 9), (15, 10), (0, 5), (15, 11), (15, 12), (5, 22), (5, 21), (15, 13), (15, 14), (15, 15), (15, 16), (15, 17), (15, 18), (15, 19), (15, 20), (15, 21), (15, 22)] rfl (by decide +kernel)
set_option maxRecDepth 20000 in
theorem zbL_law_X12_tablet_2 : GoodIn wsL_law wsX12_tablet_r2 := goodIn_k _ cks_L_law ck_L_law [(15, 23), (16, 0), (15, 5), (16, 1), (16, 2), (16, 3), (16, 4), (16, 5), (16, 6), (16, 7), (16, 8), (16, 9), (16, 10), (16, 11), (16, 12), (16, 13), (16, 14), (16, 15), (16, 16), (16, 17), (16, 18), (16, 19), (16, 20), (16, 21)] rfl (by decide +kernel)
set_option maxRecDepth 20000 in
theorem zbL_law_X12_tablet_3 : GoodIn wsL_law wsX12_tablet_r3 := goodIn_k _ cks_L_law ck_L_law [(16, 22), (16, 23), (27, 7), (27, 8), (27, 9), (27, 10), (6, 4), (6, 8), (17, 16), (17, 17), (6, 5), (6, 7), (17, 0), (17, 1), (17, 2), (17, 3), (17, 4), (17, 5), (17, 6), (17, 7), (27, 11), (27, 12), (27, 13), (27, 14)] rfl (by decide +kernel)
set_option maxRecDepth 20000 in
theorem zbL_law_X12_tablet_4 : GoodIn wsL_law wsX12_tablet_r4 := goodIn_k _ cks_L_law ck_L_law [(27, 15), (27, 16), (6, 6), (6, 11), (6, 9), (6, 10), (27, 17), (27, 18), (27, 19), (27, 20), (27, 21), (27, 22), (27, 23), (28, 0), (17, 12), (17, 13), (17, 14), (17, 15), (15, 3), (28, 1), (28, 2), (28, 3), (28, 4), (6, 1)] rfl (by decide +kernel)
set_option maxRecDepth 20000 in
theorem zbL_law_X12_tablet_5 : GoodIn wsL_law wsX12_tablet_r5 := goodIn_k _ cks_L_law ck_L_law [(6, 0), (28, 5), (28, 6), (28, 7), (28, 8), (6, 2), (28, 9), (28, 10), (28, 11), (28, 12), (17, 22), (17, 23), (18, 0), (18, 1)] rfl (by decide +kernel)
set_option maxRecDepth 20000 in
theorem ggL_law_X12_tablet : GoodIn wsL_law wsX12_tablet := (goodIn_ca (goodIn_cc zbL_law_X12_tablet_0 (goodIn_app zbL_law_X12_tablet_1 (goodIn_app zbL_law_X12_tablet_2 (goodIn_app zbL_law_X12_tablet_3 (goodIn_app zbL_law_X12_tablet_4 zbL_law_X12_tablet_5))))) (goodIn_sub inlX12 zgw_X12))
set_option maxRecDepth 20000 in
theorem gL_law_X12_tablet : GoodIn wsL_law (wsV RL 70 RX12 yX12_tablet wsX12_tablet) := goodIn_app (goodIn_of _ (by decide +kernel)) ggL_law_X12_tablet
set_option maxRecDepth 20000 in
theorem zbL_law_L_line : GoodIn wsL_law (Cond.codeWith yL_line cL_line 6 (some .int) [(0, 12, 15, 13)] :: [.classLink RL 13 "java/util/NoSuchElementException", .methodLink RL 19 yX11_line, .instanceMethod yX11_line, .selects RX11 yX11_line yX11_line, .initialized RX11, .code yX11_line cX11_line 5 (some .int), .classLink RX11 135 "java/util/NoSuchElementException", .initialized "java/util/NoSuchElementException", .fieldLink RX11 54 "ClayAccounts" "tablets" "[LClayAccounts$Tablet;", .fieldLink RX11 175 "ClayAccounts$Tablet" "lines" "[LClayAccounts$Line;", .fieldLink RX11 179 "ClayAccounts$Line" "kind" "I", .fieldLink RX11 184 "ClayAccounts$Line" "system" "I", .fieldLink RX11 187 "ClayAccounts$Line" "holeCount" "I", .fieldLink RX11 190 "ClayAccounts$Line" "value" "I", .methodLink RX11 170 yX11_isLine, .instanceMethod yX11_isLine, .selects RX11 yX11_isLine yX11_isLine, .code yX11_isLine cX11_isLine 3 (some .boolean), .fieldLink RX11 196 "ClayAccounts$Tablet" "lineCount" "I", .methodLink RX11 193 yX11_isTablet, .instanceMethod yX11_isTablet, .selects RX11 yX11_isTablet yX11_isTablet, .code yX11_isTablet cX11_isTablet 2 (some .boolean), .fieldLink RX11 90 "ClayAccounts" "tabletCount" "I"]) := goodIn_k _ cks_L_law ck_L_law [(28, 15), (19, 4), (28, 16), (28, 17), (28, 18), (0, 2), (28, 19), (19, 9), (19, 10), (1, 12), (28, 20), (28, 21), (28, 22), (28, 23), (29, 0), (29, 1), (29, 2), (29, 3), (29, 4), (29, 5), (29, 6), (29, 7), (29, 8), (29, 9), (2, 3)] rfl (by decide +kernel)
set_option maxRecDepth 20000 in
theorem ggL_law_L_line : GoodIn wsL_law wsL_line := (goodIn_ca (goodIn_ca (goodIn_ca (goodIn_ca zbL_law_L_line (goodIn_sub inlX11 zgw_X11)) (goodIn_sub inlX5 zgw_X5)) (goodIn_sub inlX2 zgw_X2)) (goodIn_sub (fun _ h => List.mem_append_right _ h) (by decide +kernel)))
set_option maxRecDepth 20000 in
theorem gL_law_L_line : GoodIn wsL_law (va_wsS RL 71 yL_line wsL_line) := goodIn_app (goodIn_of _ (by decide +kernel)) ggL_law_L_line
set_option maxRecDepth 20000 in
theorem zbL_law_X12_line_0 : GoodIn wsL_law [Cond.code yX12_line cX12_line 9 (some .int)] := goodIn_k _ cks_L_law ck_L_law [(29, 13)] rfl (by decide +kernel)
set_option maxRecDepth 20000 in
theorem zbL_law_X12_line_1 : GoodIn wsL_law wsX12_line_r1 := goodIn_k _ cks_L_law ck_L_law [(7, 15), (6, 7), (6, 9), (6, 10), (6, 5), (6, 6), (6, 11), (29, 14), (29, 15), (29, 16), (0, 5), (29, 17), (6, 4), (29, 18), (29, 19), (29, 20), (29, 21), (15, 7), (19, 22), (19, 23), (20, 0), (20, 1), (21, 0), (21, 1)] rfl (by decide +kernel)
set_option maxRecDepth 20000 in
theorem zbL_law_X12_line_2 : GoodIn wsL_law wsX12_line_r2 := goodIn_k _ cks_L_law ck_L_law [(21, 2), (21, 3), (6, 2)] rfl (by decide +kernel)
set_option maxRecDepth 20000 in
theorem ggL_law_X12_line : GoodIn wsL_law wsX12_line := (goodIn_ca (goodIn_cc zbL_law_X12_line_0 (goodIn_app zbL_law_X12_line_1 zbL_law_X12_line_2)) (goodIn_sub inlX12 zgw_X12))
set_option maxRecDepth 20000 in
theorem gL_law_X12_line : GoodIn wsL_law (wsV RL 74 RX12 yX12_line wsX12_line) := goodIn_app (goodIn_of _ (by decide +kernel)) ggL_law_X12_line
set_option maxRecDepth 20000 in
theorem zbL_law_X11_lines : GoodIn wsL_law (Cond.code yX11_lines cX11_lines 2 (some .int) :: [.fieldLink RX11 54 "ClayAccounts" "tablets" "[LClayAccounts$Tablet;", .fieldLink RX11 196 "ClayAccounts$Tablet" "lineCount" "I", .methodLink RX11 193 yX11_isTablet, .instanceMethod yX11_isTablet, .selects RX11 yX11_isTablet yX11_isTablet, .initialized RX11, .code yX11_isTablet cX11_isTablet 2 (some .boolean), .fieldLink RX11 90 "ClayAccounts" "tabletCount" "I"]) := goodIn_k _ cks_L_law ck_L_law [(30, 1), (1, 12), (29, 5), (29, 6), (29, 7), (29, 8), (0, 2), (29, 9), (2, 3)] rfl (by decide +kernel)
set_option maxRecDepth 20000 in
theorem ggL_law_X11_lines : GoodIn wsL_law wsX11_lines := (goodIn_ca (goodIn_ca zbL_law_X11_lines (goodIn_sub inlX11 zgw_X11)) (goodIn_sub inlX5 zgw_X5))
set_option maxRecDepth 20000 in
theorem gL_law_X11_lines : GoodIn wsL_law (wsV RL 75 RX11 yX11_lines wsX11_lines) := goodIn_app (goodIn_of _ (by decide +kernel)) ggL_law_X11_lines
set_option maxRecDepth 20000 in
theorem zbL_law_X12_lines : GoodIn wsL_law (Cond.code yX12_lines cX12_lines 2 (some .int) :: [.fieldLink RX12 86 "ClayAccountsModel" "thrown" "I", .fieldLink RX12 32 "ClayAccountsModel" "lineMany" "[I", .methodLink RX12 257 yX12_isTablet, .instanceMethod yX12_isTablet, .selects RX12 yX12_isTablet yX12_isTablet, .initialized RX12, .code yX12_isTablet cX12_isTablet 2 (some .boolean), .fieldLink RX12 204 "ClayAccountsModel" "tablets" "I"]) := goodIn_k _ cks_L_law ck_L_law [(30, 5), (7, 15), (6, 4), (29, 18), (29, 19), (29, 20), (0, 5), (29, 21), (15, 7)] rfl (by decide +kernel)
set_option maxRecDepth 20000 in
theorem ggL_law_X12_lines : GoodIn wsL_law wsX12_lines := (goodIn_ca zbL_law_X12_lines (goodIn_sub inlX12 zgw_X12))
set_option maxRecDepth 20000 in
theorem gL_law_X12_lines : GoodIn wsL_law (wsV RL 78 RX12 yX12_lines wsX12_lines) := goodIn_app (goodIn_of _ (by decide +kernel)) ggL_law_X12_lines
set_option maxRecDepth 20000 in
theorem zbL_law_X11_readings_0 : GoodIn wsL_law [Cond.code yX11_readings cX11_readings 2 (some .int)] := goodIn_k _ cks_L_law ck_L_law [(30, 9)] rfl (by decide +kernel)
set_option maxRecDepth 20000 in
theorem zbL_law_X11_readings_1 : GoodIn wsL_law wsX11_readings_r1 := goodIn_k _ cks_L_law ck_L_law [(30, 10), (29, 6), (29, 7), (29, 8), (0, 2), (29, 9), (2, 3), (30, 11), (30, 12), (30, 13), (30, 14), (1, 12), (30, 15), (1, 6), (30, 16), (30, 17), (30, 18), (1, 5), (30, 19), (30, 20), (30, 21), (30, 22), (30, 23), (31, 0)] rfl (by decide +kernel)
set_option maxRecDepth 20000 in
theorem zbL_law_X11_readings_2 : GoodIn wsL_law wsX11_readings_r2 := goodIn_k _ cks_L_law ck_L_law [(31, 1), (31, 2), (31, 3), (31, 4), (3, 15), (3, 16), (31, 5), (31, 6), (31, 7), (31, 8), (31, 9), (31, 10), (31, 11), (31, 12), (31, 13), (31, 14), (31, 15), (31, 16), (31, 17), (31, 18), (3, 17), (3, 18), (31, 19), (31, 20)] rfl (by decide +kernel)
set_option maxRecDepth 20000 in
theorem zbL_law_X11_readings_3 : GoodIn wsL_law wsX11_readings_r3 := goodIn_k _ cks_L_law ck_L_law [(31, 21), (2, 12), (31, 22), (31, 23), (32, 0), (32, 1), (32, 2), (32, 3), (32, 4), (32, 5), (32, 6), (32, 7), (32, 8), (32, 9), (32, 10), (32, 11), (32, 12), (32, 13), (32, 14), (32, 15), (32, 16), (9, 20), (9, 21), (32, 17)] rfl (by decide +kernel)
set_option maxRecDepth 20000 in
theorem zbL_law_X11_readings_4 : GoodIn wsL_law wsX11_readings_r4 := goodIn_k _ cks_L_law ck_L_law [(32, 18), (3, 19), (32, 19), (32, 20), (32, 21), (32, 22), (32, 23), (33, 0), (33, 1), (33, 2), (33, 3), (4, 18), (33, 4), (33, 5), (33, 6), (33, 7), (33, 8), (4, 16), (33, 9), (24, 5), (33, 10), (24, 6), (33, 11), (2, 11)] rfl (by decide +kernel)
set_option maxRecDepth 20000 in
theorem zbL_law_X11_readings_5 : GoodIn wsL_law wsX11_readings_r5 := goodIn_k _ cks_L_law ck_L_law [(2, 13)] rfl (by decide +kernel)
set_option maxRecDepth 20000 in
theorem ggL_law_X11_readings : GoodIn wsL_law wsX11_readings := (goodIn_ca (goodIn_ca (goodIn_ca (goodIn_ca (goodIn_ca (goodIn_cc zbL_law_X11_readings_0 (goodIn_app zbL_law_X11_readings_1 (goodIn_app zbL_law_X11_readings_2 (goodIn_app zbL_law_X11_readings_3 (goodIn_app zbL_law_X11_readings_4 zbL_law_X11_readings_5))))) (goodIn_sub inlX5 zgw_X5)) (goodIn_sub inlX11 zgw_X11)) (goodIn_sub inlX4 zgw_X4)) (goodIn_sub inlX2 zgw_X2)) (goodIn_sub inlX1 zgw_X1))
set_option maxRecDepth 20000 in
theorem gL_law_X11_readings : GoodIn wsL_law (wsV RL 79 RX11 yX11_readings wsX11_readings) := goodIn_app (goodIn_of _ (by decide +kernel)) ggL_law_X11_readings
set_option maxRecDepth 20000 in
theorem zbL_law_X12_readings_0 : GoodIn wsL_law [Cond.code yX12_readings cX12_readings 2 (some .int)] := goodIn_k _ cks_L_law ck_L_law [(33, 15)] rfl (by decide +kernel)
set_option maxRecDepth 20000 in
theorem zbL_law_X12_readings_1 : GoodIn wsL_law wsX12_readings_r1 := goodIn_k _ cks_L_law ck_L_law [(7, 15), (33, 16), (29, 18), (29, 19), (29, 20), (0, 5), (29, 21), (15, 7), (33, 17), (33, 18), (33, 19), (33, 20), (33, 21), (6, 13), (33, 22), (33, 23), (6, 12), (34, 0), (34, 1), (34, 2), (34, 3), (6, 8), (34, 4), (34, 5)] rfl (by decide +kernel)
set_option maxRecDepth 20000 in
theorem zbL_law_X12_readings_2 : GoodIn wsL_law wsX12_readings_r2 := goodIn_k _ cks_L_law ck_L_law [(34, 6), (34, 7), (6, 4), (6, 6), (6, 7), (6, 9), (6, 10), (6, 11), (28, 5), (28, 6), (28, 7), (28, 8), (6, 1), (6, 2), (27, 21), (27, 22), (27, 23), (28, 0), (21, 0), (21, 1), (21, 2), (21, 3), (34, 8), (34, 9)] rfl (by decide +kernel)
set_option maxRecDepth 20000 in
theorem zbL_law_X12_readings_3 : GoodIn wsL_law wsX12_readings_r3 := goodIn_k _ cks_L_law ck_L_law [(34, 10), (34, 11), (6, 5)] rfl (by decide +kernel)
set_option maxRecDepth 20000 in
theorem ggL_law_X12_readings : GoodIn wsL_law wsX12_readings := (goodIn_ca (goodIn_cc zbL_law_X12_readings_0 (goodIn_app zbL_law_X12_readings_1 (goodIn_app zbL_law_X12_readings_2 zbL_law_X12_readings_3))) (goodIn_sub inlX12 zgw_X12))
set_option maxRecDepth 20000 in
theorem gL_law_X12_readings : GoodIn wsL_law (wsV RL 82 RX12 yX12_readings wsX12_readings) := goodIn_app (goodIn_of _ (by decide +kernel)) ggL_law_X12_readings
set_option maxRecDepth 20000 in
theorem zbL_law_L_bound_0 : GoodIn wsL_law [Cond.codeWith yL_bound cL_bound 6 (some .int) [(0, 12, 15, 13)]] := goodIn_k _ cks_L_law ck_L_law [(34, 14)] rfl (by decide +kernel)
set_option maxRecDepth 20000 in
theorem zbL_law_L_bound_1 : GoodIn wsL_law wsL_bound_r1 := goodIn_k _ cks_L_law ck_L_law [(19, 4), (34, 15), (34, 16), (34, 17), (0, 2), (34, 18), (19, 9), (19, 10), (30, 10), (28, 20), (29, 1), (29, 2), (29, 3), (29, 4), (1, 12), (29, 5), (29, 6), (29, 7), (29, 8), (29, 9), (2, 3), (30, 11), (30, 12), (30, 13)] rfl (by decide +kernel)
set_option maxRecDepth 20000 in
theorem zbL_law_L_bound_2 : GoodIn wsL_law wsL_bound_r2 := goodIn_k _ cks_L_law ck_L_law [(30, 14), (30, 15), (1, 6), (30, 16), (30, 17), (30, 18), (1, 5), (30, 19), (30, 20), (30, 21), (30, 22), (30, 23), (31, 0), (31, 1), (31, 2), (31, 3), (31, 4), (3, 15), (3, 16), (31, 5), (31, 6), (31, 7), (31, 8), (31, 9)] rfl (by decide +kernel)
set_option maxRecDepth 20000 in
theorem zbL_law_L_bound_3 : GoodIn wsL_law wsL_bound_r3 := goodIn_k _ cks_L_law ck_L_law [(31, 10), (31, 11), (31, 12), (31, 13), (31, 14), (31, 15), (31, 16), (31, 17), (31, 18), (3, 17), (3, 18), (31, 19), (31, 20), (31, 21), (2, 12), (31, 22), (31, 23), (32, 0), (32, 1), (32, 2), (32, 3), (32, 4), (32, 5), (32, 6)] rfl (by decide +kernel)
set_option maxRecDepth 20000 in
theorem zbL_law_L_bound_4 : GoodIn wsL_law wsL_bound_r4 := goodIn_k _ cks_L_law ck_L_law [(32, 7), (32, 8), (32, 9), (32, 10), (32, 11), (32, 12), (32, 13), (32, 14), (32, 15), (32, 16), (9, 20), (9, 21), (32, 17), (32, 18), (3, 19), (32, 19), (32, 20), (32, 21), (32, 22), (32, 23), (33, 0), (33, 1), (33, 2), (33, 3)] rfl (by decide +kernel)
set_option maxRecDepth 20000 in
theorem zbL_law_L_bound_5 : GoodIn wsL_law wsL_bound_r5 := goodIn_k _ cks_L_law ck_L_law [(4, 18), (33, 4), (33, 5), (33, 6), (33, 7), (33, 8), (4, 16), (33, 9), (24, 5), (33, 10), (24, 6), (33, 11), (2, 11), (2, 13), (34, 19), (34, 20), (34, 21), (34, 22), (24, 3), (24, 4)] rfl (by decide +kernel)
set_option maxRecDepth 20000 in
theorem ggL_law_L_bound : GoodIn wsL_law wsL_bound := (goodIn_ca (goodIn_ca (goodIn_ca (goodIn_ca (goodIn_ca (goodIn_ca (goodIn_cc zbL_law_L_bound_0 (goodIn_app zbL_law_L_bound_1 (goodIn_app zbL_law_L_bound_2 (goodIn_app zbL_law_L_bound_3 (goodIn_app zbL_law_L_bound_4 zbL_law_L_bound_5))))) (goodIn_sub inlX5 zgw_X5)) (goodIn_sub inlX11 zgw_X11)) (goodIn_sub inlX4 zgw_X4)) (goodIn_sub inlX2 zgw_X2)) (goodIn_sub inlX1 zgw_X1)) (goodIn_sub (fun _ h => List.mem_append_right _ h) (by decide +kernel)))
set_option maxRecDepth 20000 in
theorem gL_law_L_bound : GoodIn wsL_law (va_wsS RL 83 yL_bound wsL_bound) := goodIn_app (goodIn_of _ (by decide +kernel)) ggL_law_L_bound
set_option maxRecDepth 20000 in
theorem zbL_law_X12_bound_0 : GoodIn wsL_law [Cond.code yX12_bound cX12_bound 4 (some .int)] := goodIn_k _ cks_L_law ck_L_law [(35, 2)] rfl (by decide +kernel)
set_option maxRecDepth 20000 in
theorem zbL_law_X12_bound_1 : GoodIn wsL_law wsX12_bound_r1 := goodIn_k _ cks_L_law ck_L_law [(7, 15), (33, 16), (33, 23), (33, 22), (29, 14), (29, 15), (29, 16), (0, 5), (29, 17), (6, 4), (29, 18), (29, 19), (29, 20), (29, 21), (15, 7), (19, 22), (19, 23), (20, 0), (20, 1), (33, 17), (33, 18), (33, 19), (33, 20), (33, 21)] rfl (by decide +kernel)
set_option maxRecDepth 20000 in
theorem zbL_law_X12_bound_2 : GoodIn wsL_law wsX12_bound_r2 := goodIn_k _ cks_L_law ck_L_law [(6, 13), (6, 12), (34, 0), (34, 1), (34, 2), (34, 3), (6, 8), (34, 4), (34, 5), (34, 6), (34, 7), (6, 6), (6, 7), (6, 9), (6, 10), (6, 11), (28, 5), (28, 6), (28, 7), (28, 8), (6, 1), (6, 2), (27, 21), (27, 22)] rfl (by decide +kernel)
set_option maxRecDepth 20000 in
theorem zbL_law_X12_bound_3 : GoodIn wsL_law wsX12_bound_r3 := goodIn_k _ cks_L_law ck_L_law [(27, 23), (28, 0), (21, 0), (21, 1), (21, 2), (21, 3), (34, 8), (34, 9), (34, 10), (34, 11), (6, 5)] rfl (by decide +kernel)
set_option maxRecDepth 20000 in
theorem ggL_law_X12_bound : GoodIn wsL_law wsX12_bound := (goodIn_ca (goodIn_cc zbL_law_X12_bound_0 (goodIn_app zbL_law_X12_bound_1 (goodIn_app zbL_law_X12_bound_2 zbL_law_X12_bound_3))) (goodIn_sub inlX12 zgw_X12))
set_option maxRecDepth 20000 in
theorem gL_law_X12_bound : GoodIn wsL_law (wsV RL 86 RX12 yX12_bound wsX12_bound) := goodIn_app (goodIn_of _ (by decide +kernel)) ggL_law_X12_bound
set_option maxRecDepth 20000 in
theorem zbL_law_L_digit_0 : GoodIn wsL_law [Cond.codeWith yL_digit cL_digit 5 (some .int) [(0, 10, 13, 13)]] := goodIn_k _ cks_L_law ck_L_law [(35, 5)] rfl (by decide +kernel)
set_option maxRecDepth 20000 in
theorem zbL_law_L_digit_1 : GoodIn wsL_law wsL_digit_r1 := goodIn_k _ cks_L_law ck_L_law [(19, 4), (35, 6), (35, 7), (35, 8), (0, 2), (35, 9), (19, 9), (19, 10), (1, 12), (35, 10), (30, 10), (35, 11), (35, 12), (29, 6), (29, 7), (29, 8), (29, 9), (2, 3), (30, 11), (30, 12), (30, 13), (30, 14), (30, 15), (1, 6)] rfl (by decide +kernel)
set_option maxRecDepth 20000 in
theorem zbL_law_L_digit_2 : GoodIn wsL_law wsL_digit_r2 := goodIn_k _ cks_L_law ck_L_law [(30, 16), (30, 17), (30, 18), (1, 5), (30, 19), (30, 20), (30, 21), (30, 22), (30, 23), (31, 0), (31, 1), (31, 2), (31, 3), (31, 4), (3, 15), (3, 16), (31, 5), (31, 6), (31, 7), (31, 8), (31, 9), (31, 10), (31, 11), (31, 12)] rfl (by decide +kernel)
set_option maxRecDepth 20000 in
theorem zbL_law_L_digit_3 : GoodIn wsL_law wsL_digit_r3 := goodIn_k _ cks_L_law ck_L_law [(31, 13), (31, 14), (31, 15), (31, 16), (31, 17), (31, 18), (3, 17), (3, 18), (31, 19), (31, 20), (31, 21), (2, 12), (31, 22), (31, 23), (32, 0), (32, 1), (32, 2), (32, 3), (32, 4), (32, 5), (32, 6), (32, 7), (32, 8), (32, 9)] rfl (by decide +kernel)
set_option maxRecDepth 20000 in
theorem zbL_law_L_digit_4 : GoodIn wsL_law wsL_digit_r4 := goodIn_k _ cks_L_law ck_L_law [(32, 10), (32, 11), (32, 12), (32, 13), (32, 14), (32, 15), (32, 16), (9, 20), (9, 21), (32, 17), (32, 18), (3, 19), (32, 19), (32, 20), (32, 21), (32, 22), (32, 23), (33, 0), (33, 1), (33, 2), (33, 3), (4, 18), (33, 4), (33, 5)] rfl (by decide +kernel)
set_option maxRecDepth 20000 in
theorem zbL_law_L_digit_5 : GoodIn wsL_law wsL_digit_r5 := goodIn_k _ cks_L_law ck_L_law [(33, 6), (33, 7), (33, 8), (4, 16), (33, 9), (24, 5), (33, 10), (24, 6), (33, 11), (2, 11), (2, 13)] rfl (by decide +kernel)
set_option maxRecDepth 20000 in
theorem ggL_law_L_digit : GoodIn wsL_law wsL_digit := (goodIn_ca (goodIn_ca (goodIn_ca (goodIn_ca (goodIn_ca (goodIn_ca (goodIn_cc zbL_law_L_digit_0 (goodIn_app zbL_law_L_digit_1 (goodIn_app zbL_law_L_digit_2 (goodIn_app zbL_law_L_digit_3 (goodIn_app zbL_law_L_digit_4 zbL_law_L_digit_5))))) (goodIn_sub inlX11 zgw_X11)) (goodIn_sub inlX5 zgw_X5)) (goodIn_sub inlX1 zgw_X1)) (goodIn_sub inlX4 zgw_X4)) (goodIn_sub inlX2 zgw_X2)) (goodIn_sub (fun _ h => List.mem_append_right _ h) (by decide +kernel)))
set_option maxRecDepth 20000 in
theorem gL_law_L_digit : GoodIn wsL_law (va_wsS RL 87 yL_digit wsL_digit) := goodIn_app (goodIn_of _ (by decide +kernel)) ggL_law_L_digit
set_option maxRecDepth 20000 in
theorem zbL_law_X12_digit_0 : GoodIn wsL_law [Cond.code yX12_digit cX12_digit 3 (some .int)] := goodIn_k _ cks_L_law ck_L_law [(35, 16)] rfl (by decide +kernel)
set_option maxRecDepth 20000 in
theorem zbL_law_X12_digit_1 : GoodIn wsL_law wsX12_digit_r1 := goodIn_k _ cks_L_law ck_L_law [(6, 8), (7, 15), (33, 16), (33, 21), (29, 18), (29, 19), (29, 20), (0, 5), (29, 21), (15, 7), (19, 22), (19, 23), (20, 0), (20, 1), (33, 17), (33, 18), (33, 19), (33, 20), (6, 13), (33, 22), (33, 23), (6, 12), (34, 0), (34, 1)] rfl (by decide +kernel)
set_option maxRecDepth 20000 in
theorem zbL_law_X12_digit_2 : GoodIn wsL_law wsX12_digit_r2 := goodIn_k _ cks_L_law ck_L_law [(34, 2), (34, 3), (34, 4), (34, 5), (34, 6), (34, 7), (6, 4), (6, 6), (6, 7), (6, 9), (6, 10), (6, 11), (28, 5), (28, 6), (28, 7), (28, 8), (6, 1), (6, 2), (27, 21), (27, 22), (27, 23), (28, 0), (21, 0), (21, 1)] rfl (by decide +kernel)
set_option maxRecDepth 20000 in
theorem zbL_law_X12_digit_3 : GoodIn wsL_law wsX12_digit_r3 := goodIn_k _ cks_L_law ck_L_law [(21, 2), (21, 3), (34, 8), (34, 9), (34, 10), (34, 11), (6, 5)] rfl (by decide +kernel)
set_option maxRecDepth 20000 in
theorem ggL_law_X12_digit : GoodIn wsL_law wsX12_digit := (goodIn_ca (goodIn_cc zbL_law_X12_digit_0 (goodIn_app zbL_law_X12_digit_1 (goodIn_app zbL_law_X12_digit_2 zbL_law_X12_digit_3))) (goodIn_sub inlX12 zgw_X12))
set_option maxRecDepth 20000 in
theorem gL_law_X12_digit : GoodIn wsL_law (wsV RL 89 RX12 yX12_digit wsX12_digit) := goodIn_app (goodIn_of _ (by decide +kernel)) ggL_law_X12_digit
set_option maxRecDepth 20000 in
theorem zbL_law_X11_wrong_0 : GoodIn wsL_law [Cond.code yX11_wrong cX11_wrong 2 (some .int)] := goodIn_k _ cks_L_law ck_L_law [(35, 20)] rfl (by decide +kernel)
set_option maxRecDepth 20000 in
theorem zbL_law_X11_wrong_1 : GoodIn wsL_law wsX11_wrong_r1 := goodIn_k _ cks_L_law ck_L_law [(35, 21), (29, 6), (29, 7), (29, 8), (0, 2), (29, 9), (2, 3), (30, 11), (30, 12), (30, 13), (30, 14), (1, 12), (30, 15), (1, 6), (30, 16), (30, 17), (30, 18), (1, 5), (30, 19), (30, 20), (30, 21), (30, 22), (30, 23), (31, 0)] rfl (by decide +kernel)
set_option maxRecDepth 20000 in
theorem zbL_law_X11_wrong_2 : GoodIn wsL_law wsX11_wrong_r2 := goodIn_k _ cks_L_law ck_L_law [(31, 1), (31, 2), (31, 3), (31, 4), (3, 15), (3, 16), (31, 5), (31, 6), (31, 7), (31, 8), (31, 9), (31, 10), (31, 11), (31, 12), (31, 13), (31, 14), (31, 15), (31, 16), (31, 17), (31, 18), (3, 17), (3, 18), (31, 19), (31, 20)] rfl (by decide +kernel)
set_option maxRecDepth 20000 in
theorem zbL_law_X11_wrong_3 : GoodIn wsL_law wsX11_wrong_r3 := goodIn_k _ cks_L_law ck_L_law [(31, 21), (2, 12), (31, 22), (31, 23), (32, 0), (32, 1), (32, 2), (32, 3), (32, 4), (32, 5), (32, 6), (32, 7), (32, 8), (32, 9), (32, 10), (32, 11), (32, 12), (32, 13), (32, 14), (32, 15), (32, 16), (9, 20), (9, 21), (32, 17)] rfl (by decide +kernel)
set_option maxRecDepth 20000 in
theorem zbL_law_X11_wrong_4 : GoodIn wsL_law wsX11_wrong_r4 := goodIn_k _ cks_L_law ck_L_law [(32, 18), (3, 19), (32, 19), (32, 20), (32, 21), (32, 22), (32, 23), (33, 0), (33, 1), (33, 2), (33, 3), (4, 18), (33, 4), (33, 5), (33, 6), (33, 7), (33, 8), (4, 16), (33, 9), (24, 5), (33, 10), (24, 6), (33, 11), (2, 11)] rfl (by decide +kernel)
set_option maxRecDepth 20000 in
theorem zbL_law_X11_wrong_5 : GoodIn wsL_law wsX11_wrong_r5 := goodIn_k _ cks_L_law ck_L_law [(2, 13)] rfl (by decide +kernel)
set_option maxRecDepth 20000 in
theorem ggL_law_X11_wrong : GoodIn wsL_law wsX11_wrong := (goodIn_ca (goodIn_ca (goodIn_ca (goodIn_ca (goodIn_ca (goodIn_cc zbL_law_X11_wrong_0 (goodIn_app zbL_law_X11_wrong_1 (goodIn_app zbL_law_X11_wrong_2 (goodIn_app zbL_law_X11_wrong_3 (goodIn_app zbL_law_X11_wrong_4 zbL_law_X11_wrong_5))))) (goodIn_sub inlX5 zgw_X5)) (goodIn_sub inlX11 zgw_X11)) (goodIn_sub inlX4 zgw_X4)) (goodIn_sub inlX2 zgw_X2)) (goodIn_sub inlX1 zgw_X1))
set_option maxRecDepth 20000 in
theorem gL_law_X11_wrong : GoodIn wsL_law (wsV RL 90 RX11 yX11_wrong wsX11_wrong) := goodIn_app (goodIn_of _ (by decide +kernel)) ggL_law_X11_wrong
set_option maxRecDepth 20000 in
theorem zbL_law_X12_wrong_0 : GoodIn wsL_law [Cond.code yX12_wrong cX12_wrong 5 (some .int)] := goodIn_k _ cks_L_law ck_L_law [(36, 1)] rfl (by decide +kernel)
set_option maxRecDepth 20000 in
theorem zbL_law_X12_wrong_1 : GoodIn wsL_law wsX12_wrong_r1 := goodIn_k _ cks_L_law ck_L_law [(7, 15), (29, 18), (29, 19), (29, 20), (0, 5), (29, 21), (15, 7), (34, 0), (34, 1), (34, 2), (34, 3), (6, 8), (34, 4), (34, 5), (34, 6), (34, 7), (6, 12), (6, 4), (6, 6), (6, 13), (6, 7), (6, 9), (6, 10), (6, 11)] rfl (by decide +kernel)
set_option maxRecDepth 20000 in
theorem zbL_law_X12_wrong_2 : GoodIn wsL_law wsX12_wrong_r2 := goodIn_k _ cks_L_law ck_L_law [(28, 5), (28, 6), (28, 7), (28, 8), (6, 1), (6, 2), (27, 21), (27, 22), (27, 23), (28, 0), (21, 0), (21, 1), (21, 2), (21, 3), (34, 8), (34, 9), (34, 10), (34, 11), (6, 5)] rfl (by decide +kernel)
set_option maxRecDepth 20000 in
theorem ggL_law_X12_wrong : GoodIn wsL_law wsX12_wrong := (goodIn_ca (goodIn_cc zbL_law_X12_wrong_0 (goodIn_app zbL_law_X12_wrong_1 zbL_law_X12_wrong_2)) (goodIn_sub inlX12 zgw_X12))
set_option maxRecDepth 20000 in
theorem gL_law_X12_wrong : GoodIn wsL_law (wsV RL 93 RX12 yX12_wrong wsX12_wrong) := goodIn_app (goodIn_of _ (by decide +kernel)) ggL_law_X12_wrong
set_option maxRecDepth 20000 in
theorem zbL_law_X11_fragment_0 : GoodIn wsL_law [Cond.code yX11_fragment cX11_fragment 4 (some .int)] := goodIn_k _ cks_L_law ck_L_law [(36, 5)] rfl (by decide +kernel)
set_option maxRecDepth 20000 in
theorem zbL_law_X11_fragment_1 : GoodIn wsL_law wsX11_fragment_r1 := goodIn_k _ cks_L_law ck_L_law [(2, 4), (0, 16), (7, 2), (1, 17), (36, 6), (36, 7), (0, 2), (36, 8), (36, 9), (36, 10), (36, 11), (36, 12), (2, 2), (36, 13), (5, 14), (36, 14), (36, 15), (36, 16), (36, 17), (36, 18), (14, 13), (14, 14), (0, 15), (14, 15)] rfl (by decide +kernel)
set_option maxRecDepth 20000 in
theorem zbL_law_X11_fragment_2 : GoodIn wsL_law wsX11_fragment_r2 := goodIn_k _ cks_L_law ck_L_law [(2, 16), (36, 19), (10, 1), (10, 2), (10, 3), (2, 15), (36, 20), (7, 8), (7, 9), (7, 10), (14, 12)] rfl (by decide +kernel)
set_option maxRecDepth 20000 in
theorem ggL_law_X11_fragment : GoodIn wsL_law wsX11_fragment := (goodIn_ca (goodIn_ca (goodIn_ca (goodIn_cc zbL_law_X11_fragment_0 (goodIn_app zbL_law_X11_fragment_1 zbL_law_X11_fragment_2)) (goodIn_sub inlX11 zgw_X11)) (goodIn_sub inlX7 zgw_X7)) (goodIn_sub inlX0 zgw_X0))
set_option maxRecDepth 20000 in
theorem gL_law_X11_fragment : GoodIn wsL_law (wsV RL 94 RX11 yX11_fragment wsX11_fragment) := goodIn_app (goodIn_of _ (by decide +kernel)) ggL_law_X11_fragment
set_option maxRecDepth 20000 in
theorem zbL_law_X12_fragment : GoodIn wsL_law (Cond.code yX12_fragment cX12_fragment 6 (some .int) :: [.fieldLink RX12 86 "ClayAccountsModel" "thrown" "I", .fieldLink RX12 90 "ClayAccountsModel" "taped" "I", .fieldLink RX12 289 "ClayAccountsModel" "fragments" "I", .fieldLink RX12 74 "ClayAccountsModel" "rowMany" "[I", .fieldLink RX12 62 "ClayAccountsModel" "letters" "[I", .fieldLink RX12 7 "ClayAccountsModel" "tape" "[I", .fieldLink RX12 65 "ClayAccountsModel" "fragmentLong" "[I", .fieldLink RX12 68 "ClayAccountsModel" "leftEdge" "[I", .fieldLink RX12 71 "ClayAccountsModel" "rightEdge" "[I", .methodLink RX12 292 yX12_isEdge, .static yX12_isEdge, .initialized RX12, .code yX12_isEdge cX12_isEdge 1 (some .boolean), .constant RX12 288 (99999999)]) := goodIn_k _ cks_L_law ck_L_law [(37, 0), (7, 15), (7, 16), (37, 1), (6, 18), (6, 14), (5, 21), (6, 15), (6, 16), (6, 17), (37, 2), (37, 3), (0, 5), (37, 4), (37, 5)] rfl (by decide +kernel)
set_option maxRecDepth 20000 in
theorem ggL_law_X12_fragment : GoodIn wsL_law wsX12_fragment := (goodIn_ca zbL_law_X12_fragment (goodIn_sub inlX12 zgw_X12))
set_option maxRecDepth 20000 in
theorem gL_law_X12_fragment : GoodIn wsL_law (wsV RL 97 RX12 yX12_fragment wsX12_fragment) := goodIn_app (goodIn_of _ (by decide +kernel)) ggL_law_X12_fragment
set_option maxRecDepth 20000 in
theorem zbL_law_X11_rows : GoodIn wsL_law (Cond.code yX11_rows cX11_rows 2 (some .int) :: [.fieldLink RX11 65 "ClayAccounts" "fragments" "[LClayAccounts$Fragment;", .fieldLink RX11 236 "ClayAccounts$Fragment" "rowCount" "I", .methodLink RX11 233 yX11_isFragment, .instanceMethod yX11_isFragment, .selects RX11 yX11_isFragment yX11_isFragment, .initialized RX11, .code yX11_isFragment cX11_isFragment 2 (some .boolean), .fieldLink RX11 94 "ClayAccounts" "fragmentCount" "I"]) := goodIn_k _ cks_L_law ck_L_law [(37, 9), (1, 17), (37, 10), (37, 11), (37, 12), (37, 13), (0, 2), (37, 14), (2, 4)] rfl (by decide +kernel)
set_option maxRecDepth 20000 in
theorem ggL_law_X11_rows : GoodIn wsL_law wsX11_rows := (goodIn_ca (goodIn_ca zbL_law_X11_rows (goodIn_sub inlX11 zgw_X11)) (goodIn_sub inlX0 zgw_X0))
set_option maxRecDepth 20000 in
theorem gL_law_X11_rows : GoodIn wsL_law (wsV RL 98 RX11 yX11_rows wsX11_rows) := goodIn_app (goodIn_of _ (by decide +kernel)) ggL_law_X11_rows
set_option maxRecDepth 20000 in
theorem zbL_law_X12_rows : GoodIn wsL_law (Cond.code yX12_rows cX12_rows 2 (some .int) :: [.fieldLink RX12 86 "ClayAccountsModel" "thrown" "I", .fieldLink RX12 74 "ClayAccountsModel" "rowMany" "[I", .methodLink RX12 295 yX12_isFragment, .instanceMethod yX12_isFragment, .selects RX12 yX12_isFragment yX12_isFragment, .initialized RX12, .code yX12_isFragment cX12_isFragment 2 (some .boolean), .fieldLink RX12 289 "ClayAccountsModel" "fragments" "I"]) := goodIn_k _ cks_L_law ck_L_law [(37, 18), (7, 15), (6, 18), (37, 19), (37, 20), (37, 21), (0, 5), (37, 22), (37, 1)] rfl (by decide +kernel)
set_option maxRecDepth 20000 in
theorem ggL_law_X12_rows : GoodIn wsL_law wsX12_rows := (goodIn_ca zbL_law_X12_rows (goodIn_sub inlX12 zgw_X12))
set_option maxRecDepth 20000 in
theorem gL_law_X12_rows : GoodIn wsL_law (wsV RL 101 RX12 yX12_rows wsX12_rows) := goodIn_app (goodIn_of _ (by decide +kernel)) ggL_law_X12_rows
set_option maxRecDepth 20000 in
theorem zbL_law_X11_join_0 : GoodIn wsL_law [Cond.code yX11_join cX11_join 3 (some .int)] := goodIn_k _ cks_L_law ck_L_law [(38, 2)] rfl (by decide +kernel)
set_option maxRecDepth 20000 in
theorem zbL_law_X11_join_1 : GoodIn wsL_law wsX11_join_r1 := goodIn_k _ cks_L_law ck_L_law [(37, 11), (37, 12), (37, 13), (0, 2), (37, 14), (2, 4), (38, 3), (38, 4), (38, 5), (38, 6), (1, 19), (1, 17), (0, 18), (1, 2), (1, 23), (1, 15), (1, 6), (30, 10), (38, 7), (38, 8), (38, 9), (2, 2), (38, 10), (36, 17)] rfl (by decide +kernel)
set_option maxRecDepth 20000 in
theorem zbL_law_X11_join_2 : GoodIn wsL_law wsX11_join_r2 := goodIn_k _ cks_L_law ck_L_law [(36, 16), (38, 11), (36, 14), (38, 12), (38, 13), (38, 14), (38, 15), (36, 18), (14, 13), (14, 14), (0, 15), (14, 15), (2, 16), (38, 16), (38, 17), (38, 18), (38, 19), (5, 14), (36, 15), (36, 19), (10, 1), (10, 2), (10, 3), (2, 15)] rfl (by decide +kernel)
set_option maxRecDepth 20000 in
theorem zbL_law_X11_join_3 : GoodIn wsL_law wsX11_join_r3 := goodIn_k _ cks_L_law ck_L_law [(36, 20), (7, 8), (7, 9), (7, 10), (22, 5), (22, 6), (22, 7), (1, 1), (22, 8), (3, 10), (22, 9), (22, 10), (22, 11), (22, 12), (22, 13), (22, 14), (1, 14), (22, 15), (22, 16), (22, 17), (22, 18), (22, 19), (22, 20), (22, 21)] rfl (by decide +kernel)
set_option maxRecDepth 20000 in
theorem zbL_law_X11_join_4 : GoodIn wsL_law wsX11_join_r4 := goodIn_k _ cks_L_law ck_L_law [(9, 6), (9, 7), (2, 22), (9, 8), (3, 4), (9, 9), (9, 10), (9, 11), (9, 12), (9, 13), (22, 22), (9, 15), (9, 16), (9, 17), (9, 18), (9, 19), (9, 20), (2, 12), (9, 21), (9, 22), (9, 23), (10, 0), (10, 4), (10, 5)] rfl (by decide +kernel)
set_option maxRecDepth 20000 in
theorem zbL_law_X11_join_5 : GoodIn wsL_law wsX11_join_r5 := goodIn_k _ cks_L_law ck_L_law [(10, 6), (10, 7), (10, 8), (10, 9), (10, 10), (10, 11), (10, 12), (10, 13), (10, 14), (10, 15), (10, 16), (10, 17), (10, 18), (10, 19), (10, 20), (10, 21), (10, 22), (10, 23), (11, 0), (11, 1), (11, 2), (11, 3), (11, 4), (11, 5)] rfl (by decide +kernel)
set_option maxRecDepth 20000 in
theorem zbL_law_X11_join_6 : GoodIn wsL_law wsX11_join_r6 := goodIn_k _ cks_L_law ck_L_law [(11, 6), (11, 7), (11, 8), (11, 9), (11, 10), (11, 11), (22, 23), (11, 13), (11, 14), (11, 15), (11, 16), (11, 17), (11, 18), (11, 19), (23, 0), (23, 1), (23, 2), (23, 3), (23, 4), (23, 5), (23, 6), (23, 7), (23, 8), (23, 9)] rfl (by decide +kernel)
set_option maxRecDepth 20000 in
theorem zbL_law_X11_join_7 : GoodIn wsL_law wsX11_join_r7 := goodIn_k _ cks_L_law ck_L_law [(23, 10), (23, 11), (23, 12), (23, 13), (23, 14), (23, 15), (23, 16), (23, 17), (23, 18), (23, 19), (4, 12), (23, 20), (23, 21), (23, 22), (23, 23), (4, 16), (24, 0), (24, 1), (24, 2), (24, 3), (24, 4), (24, 5), (24, 6), (24, 7)] rfl (by decide +kernel)
set_option maxRecDepth 20000 in
theorem zbL_law_X11_join_8 : GoodIn wsL_law wsX11_join_r8 := goodIn_k _ cks_L_law ck_L_law [(24, 8), (24, 9), (24, 10), (24, 11), (24, 12), (24, 13), (24, 14), (24, 15), (24, 16), (24, 17), (12, 7), (12, 8), (12, 9), (24, 18), (24, 19), (24, 20), (24, 21), (24, 22), (24, 23), (25, 0), (25, 1), (13, 1), (13, 2), (1, 22)] rfl (by decide +kernel)
set_option maxRecDepth 20000 in
theorem zbL_law_X11_join_9 : GoodIn wsL_law wsX11_join_r9 := goodIn_k _ cks_L_law ck_L_law [(13, 3), (5, 6), (25, 2), (25, 3), (25, 4), (25, 5), (25, 6), (25, 7), (25, 8), (25, 9), (25, 10), (25, 11), (25, 12), (25, 13), (25, 14), (25, 15), (25, 16), (25, 17), (25, 18), (25, 19), (25, 20), (25, 21), (25, 22), (25, 23)] rfl (by decide +kernel)
set_option maxRecDepth 20000 in
theorem zbL_law_X11_join_10 : GoodIn wsL_law wsX11_join_r10 := goodIn_k _ cks_L_law ck_L_law [(26, 0), (26, 1), (26, 2), (26, 3), (26, 4), (26, 5), (26, 6), (4, 14), (26, 7), (26, 8), (26, 9), (26, 10), (26, 11), (26, 12), (26, 13), (26, 14), (4, 18), (26, 15), (26, 16), (26, 17), (26, 18), (26, 19), (26, 20), (26, 21)] rfl (by decide +kernel)
set_option maxRecDepth 20000 in
theorem zbL_law_X11_join_11 : GoodIn wsL_law wsX11_join_r11 := goodIn_k _ cks_L_law ck_L_law [(26, 22), (26, 23), (27, 0), (27, 1), (27, 2), (30, 16), (30, 17), (30, 18), (1, 5), (30, 19), (30, 20), (30, 21), (30, 22), (30, 23), (31, 0), (31, 1), (31, 2), (31, 3), (31, 4), (3, 15), (3, 16), (31, 5), (31, 6), (31, 7)] rfl (by decide +kernel)
set_option maxRecDepth 20000 in
theorem zbL_law_X11_join_12 : GoodIn wsL_law wsX11_join_r12 := goodIn_k _ cks_L_law ck_L_law [(31, 8), (31, 9), (31, 10), (31, 11), (31, 12), (31, 13), (31, 14), (31, 15), (31, 16), (31, 17), (31, 18), (3, 17), (3, 18), (31, 19), (31, 20), (31, 21), (31, 22), (31, 23), (32, 0), (32, 1), (32, 2), (32, 3), (32, 4), (32, 5)] rfl (by decide +kernel)
set_option maxRecDepth 20000 in
theorem zbL_law_X11_join_13 : GoodIn wsL_law wsX11_join_r13 := goodIn_k _ cks_L_law ck_L_law [(32, 6), (32, 7), (32, 8), (32, 9), (32, 10), (32, 11), (32, 12), (32, 13), (32, 14), (32, 15), (32, 16), (32, 17), (32, 18), (3, 19), (32, 19), (32, 20), (32, 21), (32, 22), (32, 23), (33, 0), (33, 1), (33, 2), (33, 3), (33, 4)] rfl (by decide +kernel)
set_option maxRecDepth 20000 in
theorem zbL_law_X11_join_14 : GoodIn wsL_law wsX11_join_r14 := goodIn_k _ cks_L_law ck_L_law [(33, 5), (33, 6), (33, 7), (33, 8), (33, 9), (33, 10), (33, 11), (2, 11), (2, 13)] rfl (by decide +kernel)
set_option maxRecDepth 20000 in
theorem ggL_law_X11_join : GoodIn wsL_law wsX11_join := (goodIn_ca (goodIn_ca (goodIn_ca (goodIn_ca (goodIn_ca (goodIn_ca (goodIn_ca (goodIn_ca (goodIn_ca (goodIn_ca (goodIn_cc zbL_law_X11_join_0 (goodIn_app zbL_law_X11_join_1 (goodIn_app zbL_law_X11_join_2 (goodIn_app zbL_law_X11_join_3 (goodIn_app zbL_law_X11_join_4 (goodIn_app zbL_law_X11_join_5 (goodIn_app zbL_law_X11_join_6 (goodIn_app zbL_law_X11_join_7 (goodIn_app zbL_law_X11_join_8 (goodIn_app zbL_law_X11_join_9 (goodIn_app zbL_law_X11_join_10 (goodIn_app zbL_law_X11_join_11 (goodIn_app zbL_law_X11_join_12 (goodIn_app zbL_law_X11_join_13 zbL_law_X11_join_14)))))))))))))) (goodIn_sub inlX11 zgw_X11)) (goodIn_sub inlX5 zgw_X5)) (goodIn_sub inlX0 zgw_X0)) (goodIn_sub inlX7 zgw_X7)) (goodIn_sub inlX6 zgw_X6)) (goodIn_sub inlX8 zgw_X8)) (goodIn_sub inlX2 zgw_X2)) (goodIn_sub inlX9 zgw_X9)) (goodIn_sub inlX1 zgw_X1)) (goodIn_sub inlX4 zgw_X4))
set_option maxRecDepth 20000 in
theorem gL_law_X11_join : GoodIn wsL_law (wsV RL 102 RX11 yX11_join wsX11_join) := goodIn_app (goodIn_of _ (by decide +kernel)) ggL_law_X11_join
set_option maxRecDepth 20000 in
theorem zbL_law_X12_join_0 : GoodIn wsL_law [Cond.code yX12_join cX12_join 3 (some .int)] := goodIn_k _ cks_L_law ck_L_law [(38, 23)] rfl (by decide +kernel)
set_option maxRecDepth 20000 in
theorem zbL_law_X12_join_1 : GoodIn wsL_law wsX12_join_r1 := goodIn_k _ cks_L_law ck_L_law [(7, 15), (37, 19), (37, 20), (37, 21), (0, 5), (37, 22), (37, 1), (39, 0), (39, 1), (39, 2), (39, 3), (6, 17), (6, 16), (37, 5), (6, 18), (15, 6), (15, 12), (15, 2), (15, 4), (33, 16), (39, 4), (39, 5), (39, 6), (39, 7)] rfl (by decide +kernel)
set_option maxRecDepth 20000 in
theorem zbL_law_X12_join_2 : GoodIn wsL_law wsX12_join_r2 := goodIn_k _ cks_L_law ck_L_law [(6, 15), (6, 14), (39, 8), (39, 9), (39, 10), (39, 11), (5, 22), (15, 13), (15, 14), (15, 15), (15, 16), (15, 17), (15, 18), (15, 19), (15, 20), (15, 21), (15, 22), (15, 23), (16, 0), (15, 5), (16, 1), (16, 2), (16, 3), (16, 4)] rfl (by decide +kernel)
set_option maxRecDepth 20000 in
theorem zbL_law_X12_join_3 : GoodIn wsL_law wsX12_join_r3 := goodIn_k _ cks_L_law ck_L_law [(16, 5), (16, 6), (16, 7), (16, 8), (16, 9), (16, 10), (16, 11), (16, 12), (16, 13), (16, 14), (16, 15), (16, 16), (16, 17), (16, 18), (16, 19), (16, 20), (16, 21), (16, 22), (16, 23), (27, 7), (27, 8), (27, 9), (27, 10), (6, 4)] rfl (by decide +kernel)
set_option maxRecDepth 20000 in
theorem zbL_law_X12_join_4 : GoodIn wsL_law wsX12_join_r4 := goodIn_k _ cks_L_law ck_L_law [(6, 8), (17, 16), (17, 17), (6, 5), (6, 7), (17, 0), (17, 1), (17, 2), (17, 3), (17, 4), (17, 5), (17, 6), (17, 7), (27, 11), (27, 12), (27, 13), (27, 14), (27, 15), (27, 16), (6, 6), (6, 11), (6, 9), (6, 10), (27, 17)] rfl (by decide +kernel)
set_option maxRecDepth 20000 in
theorem zbL_law_X12_join_5 : GoodIn wsL_law wsX12_join_r5 := goodIn_k _ cks_L_law ck_L_law [(27, 18), (27, 19), (27, 20), (27, 21), (27, 22), (27, 23), (28, 0), (17, 12), (17, 13), (17, 14), (17, 15), (15, 3), (28, 1), (28, 2), (28, 3), (28, 4), (6, 1), (6, 0), (28, 5), (28, 6), (28, 7), (28, 8), (6, 2), (28, 9)] rfl (by decide +kernel)
set_option maxRecDepth 20000 in
theorem zbL_law_X12_join_6 : GoodIn wsL_law wsX12_join_r6 := goodIn_k _ cks_L_law ck_L_law [(28, 10), (28, 11), (28, 12), (17, 22), (17, 23), (18, 0), (18, 1), (33, 17), (33, 18), (33, 19), (33, 20), (33, 21), (6, 13), (33, 22), (33, 23), (6, 12), (34, 0), (34, 1), (34, 2), (34, 3), (34, 4), (34, 5), (34, 6), (34, 7)] rfl (by decide +kernel)
set_option maxRecDepth 20000 in
theorem zbL_law_X12_join_7 : GoodIn wsL_law wsX12_join_r7 := goodIn_k _ cks_L_law ck_L_law [(21, 0), (21, 1), (21, 2), (21, 3), (34, 8), (34, 9), (34, 10), (34, 11)] rfl (by decide +kernel)
set_option maxRecDepth 20000 in
theorem ggL_law_X12_join : GoodIn wsL_law wsX12_join := (goodIn_ca (goodIn_cc zbL_law_X12_join_0 (goodIn_app zbL_law_X12_join_1 (goodIn_app zbL_law_X12_join_2 (goodIn_app zbL_law_X12_join_3 (goodIn_app zbL_law_X12_join_4 (goodIn_app zbL_law_X12_join_5 (goodIn_app zbL_law_X12_join_6 zbL_law_X12_join_7))))))) (goodIn_sub inlX12 zgw_X12))
set_option maxRecDepth 20000 in
theorem gL_law_X12_join : GoodIn wsL_law (wsV RL 105 RX12 yX12_join wsX12_join) := goodIn_app (goodIn_of _ (by decide +kernel)) ggL_law_X12_join
set_option maxRecDepth 20000 in
theorem zbL_law_X11_match_0 : GoodIn wsL_law [Cond.code yX11_match cX11_match 3 (some .int)] := goodIn_k _ cks_L_law ck_L_law [(39, 15)] rfl (by decide +kernel)
set_option maxRecDepth 20000 in
theorem zbL_law_X11_match_1 : GoodIn wsL_law wsX11_match_r1 := goodIn_k _ cks_L_law ck_L_law [(2, 4), (1, 10), (39, 16), (2, 11), (2, 12), (2, 13), (39, 17), (38, 3), (38, 4), (38, 5), (0, 2), (38, 6), (1, 19), (1, 17), (0, 18), (1, 2), (1, 23), (1, 15), (1, 6), (30, 10), (38, 7), (38, 8), (38, 9), (2, 2)] rfl (by decide +kernel)
set_option maxRecDepth 20000 in
theorem zbL_law_X11_match_2 : GoodIn wsL_law wsX11_match_r2 := goodIn_k _ cks_L_law ck_L_law [(38, 10), (36, 17), (36, 16), (38, 11), (36, 14), (38, 12), (38, 13), (38, 14), (38, 15), (36, 18), (14, 13), (14, 14), (0, 15), (14, 15), (2, 16), (38, 16), (38, 17), (38, 18), (38, 19), (5, 14), (36, 15), (36, 19), (10, 1), (10, 2)] rfl (by decide +kernel)
set_option maxRecDepth 20000 in
theorem zbL_law_X11_match_3 : GoodIn wsL_law wsX11_match_r3 := goodIn_k _ cks_L_law ck_L_law [(10, 3), (2, 15), (36, 20), (7, 8), (7, 9), (7, 10), (22, 5), (22, 6), (22, 7), (1, 1), (22, 8), (3, 10), (22, 9), (22, 10), (22, 11), (22, 12), (22, 13), (22, 14), (1, 14), (22, 15), (22, 16), (22, 17), (22, 18), (22, 19)] rfl (by decide +kernel)
set_option maxRecDepth 20000 in
theorem zbL_law_X11_match_4 : GoodIn wsL_law wsX11_match_r4 := goodIn_k _ cks_L_law ck_L_law [(22, 20), (22, 21), (9, 6), (9, 7), (2, 22), (9, 8), (3, 4), (9, 9), (9, 10), (9, 11), (9, 12), (9, 13), (22, 22), (9, 15), (9, 16), (9, 17), (9, 18), (9, 19), (9, 20), (9, 21), (9, 22), (9, 23), (10, 0), (10, 4)] rfl (by decide +kernel)
set_option maxRecDepth 20000 in
theorem zbL_law_X11_match_5 : GoodIn wsL_law wsX11_match_r5 := goodIn_k _ cks_L_law ck_L_law [(10, 5), (10, 6), (10, 7), (10, 8), (10, 9), (10, 10), (10, 11), (10, 12), (10, 13), (10, 14), (10, 15), (10, 16), (10, 17), (10, 18), (10, 19), (10, 20), (10, 21), (10, 22), (10, 23), (11, 0), (11, 1), (11, 2), (11, 3), (11, 4)] rfl (by decide +kernel)
set_option maxRecDepth 20000 in
theorem zbL_law_X11_match_6 : GoodIn wsL_law wsX11_match_r6 := goodIn_k _ cks_L_law ck_L_law [(11, 5), (11, 6), (11, 7), (11, 8), (11, 9), (11, 10), (11, 11), (22, 23), (11, 13), (11, 14), (11, 15), (11, 16), (11, 17), (11, 18), (11, 19), (23, 0), (23, 1), (23, 2), (23, 3), (23, 4), (23, 5), (23, 6), (23, 7), (23, 8)] rfl (by decide +kernel)
set_option maxRecDepth 20000 in
theorem zbL_law_X11_match_7 : GoodIn wsL_law wsX11_match_r7 := goodIn_k _ cks_L_law ck_L_law [(23, 9), (23, 10), (23, 11), (23, 12), (23, 13), (23, 14), (23, 15), (23, 16), (23, 17), (23, 18), (23, 19), (4, 12), (23, 20), (23, 21), (23, 22), (23, 23), (4, 16), (24, 0), (24, 1), (24, 2), (24, 3), (24, 4), (24, 5), (24, 6)] rfl (by decide +kernel)
set_option maxRecDepth 20000 in
theorem zbL_law_X11_match_8 : GoodIn wsL_law wsX11_match_r8 := goodIn_k _ cks_L_law ck_L_law [(24, 7), (24, 8), (24, 9), (24, 10), (24, 11), (24, 12), (24, 13), (24, 14), (24, 15), (24, 16), (24, 17), (12, 7), (12, 8), (12, 9), (24, 18), (24, 19), (24, 20), (24, 21), (24, 22), (24, 23), (25, 0), (25, 1), (13, 1), (13, 2)] rfl (by decide +kernel)
set_option maxRecDepth 20000 in
theorem zbL_law_X11_match_9 : GoodIn wsL_law wsX11_match_r9 := goodIn_k _ cks_L_law ck_L_law [(1, 22), (13, 3), (5, 6), (25, 2), (25, 3), (25, 4), (25, 5), (25, 6), (25, 7), (25, 8), (25, 9), (25, 10), (25, 11), (25, 12), (25, 13), (25, 14), (25, 15), (25, 16), (25, 17), (25, 18), (25, 19), (25, 20), (25, 21), (25, 22)] rfl (by decide +kernel)
set_option maxRecDepth 20000 in
theorem zbL_law_X11_match_10 : GoodIn wsL_law wsX11_match_r10 := goodIn_k _ cks_L_law ck_L_law [(25, 23), (26, 0), (26, 1), (26, 2), (26, 3), (26, 4), (26, 5), (26, 6), (4, 14), (26, 7), (26, 8), (26, 9), (26, 10), (26, 11), (26, 12), (26, 13), (26, 14), (4, 18), (26, 15), (26, 16), (26, 17), (26, 18), (26, 19), (26, 20)] rfl (by decide +kernel)
set_option maxRecDepth 20000 in
theorem zbL_law_X11_match_11 : GoodIn wsL_law wsX11_match_r11 := goodIn_k _ cks_L_law ck_L_law [(26, 21), (26, 22), (26, 23), (27, 0), (27, 1), (27, 2), (30, 16), (30, 17), (30, 18), (1, 5), (30, 19), (30, 20), (30, 21), (30, 22), (30, 23), (31, 0), (31, 1), (31, 2), (31, 3), (31, 4), (3, 15), (3, 16), (31, 5), (31, 6)] rfl (by decide +kernel)
set_option maxRecDepth 20000 in
theorem zbL_law_X11_match_12 : GoodIn wsL_law wsX11_match_r12 := goodIn_k _ cks_L_law ck_L_law [(31, 7), (31, 8), (31, 9), (31, 10), (31, 11), (31, 12), (31, 13), (31, 14), (31, 15), (31, 16), (31, 17), (31, 18), (3, 17), (3, 18), (31, 19), (31, 20), (31, 21), (31, 22), (31, 23), (32, 0), (32, 1), (32, 2), (32, 3), (32, 4)] rfl (by decide +kernel)
set_option maxRecDepth 20000 in
theorem zbL_law_X11_match_13 : GoodIn wsL_law wsX11_match_r13 := goodIn_k _ cks_L_law ck_L_law [(32, 5), (32, 6), (32, 7), (32, 8), (32, 9), (32, 10), (32, 11), (32, 12), (32, 13), (32, 14), (32, 15), (32, 16), (32, 17), (32, 18), (3, 19), (32, 19), (32, 20), (32, 21), (32, 22), (32, 23), (33, 0), (33, 1), (33, 2), (33, 3)] rfl (by decide +kernel)
set_option maxRecDepth 20000 in
theorem zbL_law_X11_match_14 : GoodIn wsL_law wsX11_match_r14 := goodIn_k _ cks_L_law ck_L_law [(33, 4), (33, 5), (33, 6), (33, 7), (33, 8), (33, 9), (33, 10), (33, 11), (39, 18), (39, 19), (39, 20), (1, 9), (39, 21), (4, 1), (39, 22), (39, 23), (40, 0), (40, 1), (40, 2), (4, 2), (40, 3), (14, 17), (14, 18), (14, 19)] rfl (by decide +kernel)
set_option maxRecDepth 20000 in
theorem zbL_law_X11_match_15 : GoodIn wsL_law wsX11_match_r15 := goodIn_k _ cks_L_law ck_L_law [(4, 0), (14, 20), (14, 21), (4, 3), (4, 4), (4, 5), (4, 6), (40, 4), (40, 5), (40, 6), (40, 7), (40, 8), (40, 9), (40, 10), (40, 11), (40, 12)] rfl (by decide +kernel)
set_option maxRecDepth 20000 in
theorem ggL_law_X11_match : GoodIn wsL_law wsX11_match := (goodIn_ca (goodIn_ca (goodIn_ca (goodIn_ca (goodIn_ca (goodIn_ca (goodIn_ca (goodIn_ca (goodIn_ca (goodIn_ca (goodIn_ca (goodIn_cc zbL_law_X11_match_0 (goodIn_app zbL_law_X11_match_1 (goodIn_app zbL_law_X11_match_2 (goodIn_app zbL_law_X11_match_3 (goodIn_app zbL_law_X11_match_4 (goodIn_app zbL_law_X11_match_5 (goodIn_app zbL_law_X11_match_6 (goodIn_app zbL_law_X11_match_7 (goodIn_app zbL_law_X11_match_8 (goodIn_app zbL_law_X11_match_9 (goodIn_app zbL_law_X11_match_10 (goodIn_app zbL_law_X11_match_11 (goodIn_app zbL_law_X11_match_12 (goodIn_app zbL_law_X11_match_13 (goodIn_app zbL_law_X11_match_14 zbL_law_X11_match_15))))))))))))))) (goodIn_sub inlX11 zgw_X11)) (goodIn_sub inlX3 zgw_X3)) (goodIn_sub inlX5 zgw_X5)) (goodIn_sub inlX0 zgw_X0)) (goodIn_sub inlX7 zgw_X7)) (goodIn_sub inlX6 zgw_X6)) (goodIn_sub inlX8 zgw_X8)) (goodIn_sub inlX2 zgw_X2)) (goodIn_sub inlX9 zgw_X9)) (goodIn_sub inlX1 zgw_X1)) (goodIn_sub inlX4 zgw_X4))
set_option maxRecDepth 20000 in
theorem gL_law_X11_match : GoodIn wsL_law (wsV RL 106 RX11 yX11_match wsX11_match) := goodIn_app (goodIn_of _ (by decide +kernel)) ggL_law_X11_match
set_option maxRecDepth 20000 in
theorem zbL_law_X12_match_0 : GoodIn wsL_law [Cond.code yX12_match cX12_match 7 (some .int)] := goodIn_k _ cks_L_law ck_L_law [(40, 16)] rfl (by decide +kernel)
set_option maxRecDepth 20000 in
theorem zbL_law_X12_match_1 : GoodIn wsL_law wsX12_match_r1 := goodIn_k _ cks_L_law ck_L_law [(7, 15), (37, 1), (6, 19), (6, 20), (18, 14), (18, 15), (6, 21), (39, 0), (39, 1), (39, 2), (0, 5), (39, 3), (6, 17), (6, 16), (37, 5), (6, 18), (15, 6), (15, 12), (15, 2), (15, 4), (33, 16), (39, 4), (39, 5), (39, 6)] rfl (by decide +kernel)
set_option maxRecDepth 20000 in
theorem zbL_law_X12_match_2 : GoodIn wsL_law wsX12_match_r2 := goodIn_k _ cks_L_law ck_L_law [(39, 7), (6, 15), (6, 14), (39, 8), (39, 9), (39, 10), (39, 11), (5, 22), (15, 13), (15, 14), (15, 15), (15, 16), (15, 17), (15, 18), (15, 19), (15, 20), (15, 21), (15, 22), (15, 23), (16, 0), (15, 5), (16, 1), (16, 2), (16, 3)] rfl (by decide +kernel)
set_option maxRecDepth 20000 in
theorem zbL_law_X12_match_3 : GoodIn wsL_law wsX12_match_r3 := goodIn_k _ cks_L_law ck_L_law [(16, 4), (16, 5), (16, 6), (16, 7), (16, 8), (16, 9), (16, 10), (16, 11), (16, 12), (16, 13), (16, 14), (16, 15), (16, 16), (16, 17), (16, 18), (16, 19), (16, 20), (16, 21), (16, 22), (16, 23), (27, 7), (27, 8), (27, 9), (27, 10)] rfl (by decide +kernel)
set_option maxRecDepth 20000 in
theorem zbL_law_X12_match_4 : GoodIn wsL_law wsX12_match_r4 := goodIn_k _ cks_L_law ck_L_law [(6, 4), (6, 8), (17, 16), (17, 17), (6, 5), (6, 7), (17, 0), (17, 1), (17, 2), (17, 3), (17, 4), (17, 5), (17, 6), (17, 7), (27, 11), (27, 12), (27, 13), (27, 14), (27, 15), (27, 16), (6, 6), (6, 11), (6, 9), (6, 10)] rfl (by decide +kernel)
set_option maxRecDepth 20000 in
theorem zbL_law_X12_match_5 : GoodIn wsL_law wsX12_match_r5 := goodIn_k _ cks_L_law ck_L_law [(27, 17), (27, 18), (27, 19), (27, 20), (27, 21), (27, 22), (27, 23), (28, 0), (17, 12), (17, 13), (17, 14), (17, 15), (15, 3), (28, 1), (28, 2), (28, 3), (28, 4), (6, 1), (6, 0), (28, 5), (28, 6), (28, 7), (28, 8), (6, 2)] rfl (by decide +kernel)
set_option maxRecDepth 20000 in
theorem zbL_law_X12_match_6 : GoodIn wsL_law wsX12_match_r6 := goodIn_k _ cks_L_law ck_L_law [(28, 9), (28, 10), (28, 11), (28, 12), (17, 22), (17, 23), (18, 0), (18, 1), (33, 17), (33, 18), (33, 19), (33, 20), (33, 21), (6, 13), (33, 22), (33, 23), (6, 12), (34, 0), (34, 1), (34, 2), (34, 3), (34, 4), (34, 5), (34, 6)] rfl (by decide +kernel)
set_option maxRecDepth 20000 in
theorem zbL_law_X12_match_7 : GoodIn wsL_law wsX12_match_r7 := goodIn_k _ cks_L_law ck_L_law [(34, 7), (21, 0), (21, 1), (21, 2), (21, 3), (34, 8), (34, 9), (34, 10), (34, 11), (40, 17), (40, 18), (40, 19)] rfl (by decide +kernel)
set_option maxRecDepth 20000 in
theorem ggL_law_X12_match : GoodIn wsL_law wsX12_match := (goodIn_ca (goodIn_cc zbL_law_X12_match_0 (goodIn_app zbL_law_X12_match_1 (goodIn_app zbL_law_X12_match_2 (goodIn_app zbL_law_X12_match_3 (goodIn_app zbL_law_X12_match_4 (goodIn_app zbL_law_X12_match_5 (goodIn_app zbL_law_X12_match_6 zbL_law_X12_match_7))))))) (goodIn_sub inlX12 zgw_X12))
set_option maxRecDepth 20000 in
theorem gL_law_X12_match : GoodIn wsL_law (wsV RL 109 RX12 yX12_match wsX12_match) := goodIn_app (goodIn_of _ (by decide +kernel)) ggL_law_X12_match
set_option maxRecDepth 20000 in
theorem zbL_law_X11_matched : GoodIn wsL_law (Cond.code yX11_matched cX11_matched 2 (some .int) :: [.fieldLink RX11 48 "ClayAccounts" "matcher" "LClayAccounts$Matcher;", .fieldLink RX11 257 "ClayAccounts$Matcher" "partners" "[I", .methodLink RX11 233 yX11_isFragment, .instanceMethod yX11_isFragment, .selects RX11 yX11_isFragment yX11_isFragment, .initialized RX11, .code yX11_isFragment cX11_isFragment 2 (some .boolean), .fieldLink RX11 94 "ClayAccounts" "fragmentCount" "I"]) := goodIn_k _ cks_L_law ck_L_law [(40, 23), (1, 10), (41, 0), (37, 11), (37, 12), (37, 13), (0, 2), (37, 14), (2, 4)] rfl (by decide +kernel)
set_option maxRecDepth 20000 in
theorem ggL_law_X11_matched : GoodIn wsL_law wsX11_matched := (goodIn_ca (goodIn_ca zbL_law_X11_matched (goodIn_sub inlX11 zgw_X11)) (goodIn_sub inlX3 zgw_X3))
set_option maxRecDepth 20000 in
theorem gL_law_X11_matched : GoodIn wsL_law (wsV RL 110 RX11 yX11_matched wsX11_matched) := goodIn_app (goodIn_of _ (by decide +kernel)) ggL_law_X11_matched
set_option maxRecDepth 20000 in
theorem zbL_law_X12_matched : GoodIn wsL_law (Cond.code yX12_matched cX12_matched 2 (some .int) :: [.fieldLink RX12 86 "ClayAccountsModel" "thrown" "I", .fieldLink RX12 307 "ClayAccountsModel" "made" "Z", .fieldLink RX12 83 "ClayAccountsModel" "mate" "[I", .methodLink RX12 295 yX12_isFragment, .instanceMethod yX12_isFragment, .selects RX12 yX12_isFragment yX12_isFragment, .initialized RX12, .code yX12_isFragment cX12_isFragment 2 (some .boolean), .fieldLink RX12 289 "ClayAccountsModel" "fragments" "I"]) := goodIn_k _ cks_L_law ck_L_law [(41, 4), (7, 15), (18, 14), (6, 21), (37, 19), (37, 20), (37, 21), (0, 5), (37, 22), (37, 1)] rfl (by decide +kernel)
set_option maxRecDepth 20000 in
theorem ggL_law_X12_matched : GoodIn wsL_law wsX12_matched := (goodIn_ca zbL_law_X12_matched (goodIn_sub inlX12 zgw_X12))
set_option maxRecDepth 20000 in
theorem gL_law_X12_matched : GoodIn wsL_law (wsV RL 113 RX12 yX12_matched wsX12_matched) := goodIn_app (goodIn_of _ (by decide +kernel)) ggL_law_X12_matched
set_option maxRecDepth 20000 in
theorem zbL_law_X11_count : GoodIn wsL_law (Cond.code yX11_count cX11_count 2 (some .int) :: [.fieldLink RX11 76 "ClayAccounts" "units" "LClayAccounts$Units;", .fieldLink RX11 128 "ClayAccounts$Units" "systemCount" "I", .fieldLink RX11 90 "ClayAccounts" "tabletCount" "I", .fieldLink RX11 94 "ClayAccounts" "fragmentCount" "I", .fieldLink RX11 48 "ClayAccounts" "matcher" "LClayAccounts$Matcher;", .fieldLink RX11 260 "ClayAccounts$Matcher" "sureCount" "I", .fieldLink RX11 14 "ClayAccounts" "tape" "LClayAccounts$Text;", .fieldLink RX11 100 "ClayAccounts$Text" "size" "I", .fieldLink RX11 18 "ClayAccounts" "out" "LClayAccounts$Text;"]) := goodIn_k _ cks_L_law ck_L_law [(41, 8), (1, 23), (8, 12), (2, 3), (2, 4), (1, 10), (41, 9), (0, 16), (7, 2), (0, 17)] rfl (by decide +kernel)
set_option maxRecDepth 20000 in
theorem ggL_law_X11_count : GoodIn wsL_law wsX11_count := (goodIn_ca (goodIn_ca (goodIn_ca (goodIn_ca zbL_law_X11_count (goodIn_sub inlX11 zgw_X11)) (goodIn_sub inlX9 zgw_X9)) (goodIn_sub inlX3 zgw_X3)) (goodIn_sub inlX7 zgw_X7))
set_option maxRecDepth 20000 in
theorem gL_law_X11_count : GoodIn wsL_law (wsV RL 114 RX11 yX11_count wsX11_count) := goodIn_app (goodIn_of _ (by decide +kernel)) ggL_law_X11_count
set_option maxRecDepth 20000 in
theorem zbL_law_X12_count : GoodIn wsL_law (Cond.code yX12_count cX12_count 2 (some .int) :: [.fieldLink RX12 86 "ClayAccountsModel" "thrown" "I", .fieldLink RX12 201 "ClayAccountsModel" "systems" "I", .fieldLink RX12 204 "ClayAccountsModel" "tablets" "I", .fieldLink RX12 289 "ClayAccountsModel" "fragments" "I", .fieldLink RX12 310 "ClayAccountsModel" "sure" "I", .fieldLink RX12 90 "ClayAccountsModel" "taped" "I", .fieldLink RX12 214 "ClayAccountsModel" "outs" "I"]) := goodIn_k _ cks_L_law ck_L_law [(41, 13), (7, 15), (15, 6), (15, 7), (37, 1), (18, 15), (7, 16), (20, 23)] rfl (by decide +kernel)
set_option maxRecDepth 20000 in
theorem ggL_law_X12_count : GoodIn wsL_law wsX12_count := (goodIn_ca zbL_law_X12_count (goodIn_sub inlX12 zgw_X12))
set_option maxRecDepth 20000 in
theorem gL_law_X12_count : GoodIn wsL_law (wsV RL 117 RX12 yX12_count wsX12_count) := goodIn_app (goodIn_of _ (by decide +kernel)) ggL_law_X12_count
