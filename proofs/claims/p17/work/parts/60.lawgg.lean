set_option maxRecDepth 20000 in
theorem zbL_law_X11_init_0 : GoodIn wsL_law [Cond.code yX11_init cX11_init 2 none] := goodIn_r _ [9] (by decide +kernel) (by decide +kernel)
set_option maxRecDepth 20000 in
theorem zbL_law_X11_init_1 : GoodIn wsL_law wsX11_init_r1 := goodIn_r _ [10, 11, 12, 13, 14, 15, 16, 17, 18, 19, 20, 21, 22, 23, 24, 25, 26, 27, 28, 29, 30, 31, 32, 33] (by decide +kernel) (by decide +kernel)
set_option maxRecDepth 20000 in
theorem zbL_law_X11_init_2 : GoodIn wsL_law wsX11_init_r2 := goodIn_r _ [34, 35, 36, 37, 38, 39, 40, 41, 42, 43, 44, 45, 46, 47, 48, 49, 50, 51, 52, 53, 54, 55, 56, 57] (by decide +kernel) (by decide +kernel)
set_option maxRecDepth 20000 in
theorem zbL_law_X11_init_3 : GoodIn wsL_law wsX11_init_r3 := goodIn_r _ [58, 59, 60, 61, 62, 63, 64, 65, 66, 67, 68, 69, 70, 71, 72, 73, 74, 75, 76, 77, 78, 79, 80, 81] (by decide +kernel) (by decide +kernel)
set_option maxRecDepth 20000 in
theorem zbL_law_X11_init_4 : GoodIn wsL_law wsX11_init_r4 := goodIn_r _ [82, 83, 84, 85, 86, 6, 87, 88, 89, 90, 91, 92, 93, 94, 95, 96, 97, 98, 99, 100, 101, 102, 103, 104] (by decide +kernel) (by decide +kernel)
set_option maxRecDepth 20000 in
theorem zbL_law_X11_init_5 : GoodIn wsL_law wsX11_init_r5 := goodIn_r _ [105, 106, 107, 108, 109, 110, 111, 112, 113, 114, 115, 116, 117, 118, 119, 120, 121, 122, 123, 124, 125, 126, 127, 128] (by decide +kernel) (by decide +kernel)
set_option maxRecDepth 20000 in
theorem zbL_law_X11_init_6 : GoodIn wsL_law wsX11_init_r6 := goodIn_r _ [129, 130, 131, 132, 133, 134, 135, 136] (by decide +kernel) (by decide +kernel)
set_option maxRecDepth 20000 in
theorem ggL_law_X11_init : GoodIn wsL_law wsX11_init := (goodIn_ca (goodIn_ca (goodIn_ca (goodIn_ca (goodIn_ca (goodIn_ca (goodIn_ca (goodIn_ca (goodIn_ca (goodIn_ca (goodIn_ca (goodIn_ca (goodIn_cc zbL_law_X11_init_0 (goodIn_app zbL_law_X11_init_1 (goodIn_app zbL_law_X11_init_2 (goodIn_app zbL_law_X11_init_3 (goodIn_app zbL_law_X11_init_4 (goodIn_app zbL_law_X11_init_5 zbL_law_X11_init_6)))))) (goodIn_sub inlX7 zgw_X7)) (goodIn_sub inlX11 zgw_X11)) (goodIn_sub inlX10 zgw_X10)) (goodIn_sub inlX6 zgw_X6)) (goodIn_sub inlX4 zgw_X4)) (goodIn_sub inlX3 zgw_X3)) (goodIn_sub inlX5 zgw_X5)) (goodIn_sub inlX9 zgw_X9)) (goodIn_sub inlX0 zgw_X0)) (goodIn_sub inlX8 zgw_X8)) (goodIn_sub inlX2 zgw_X2)) (goodIn_sub inlX1 zgw_X1))
set_option maxRecDepth 20000 in
theorem gL_law_X11_init : GoodIn wsL_law (wsX11_init) := ggL_law_X11_init
set_option maxRecDepth 20000 in
theorem zbL_law_X12_init_0 : GoodIn wsL_law [Cond.code yX12_init cX12_init 1 none] := goodIn_r _ [139] (by decide +kernel) (by decide +kernel)
set_option maxRecDepth 20000 in
theorem zbL_law_X12_init_1 : GoodIn wsL_law wsX12_init_r1 := goodIn_r _ [140, 11, 12, 42, 141, 142, 6, 143, 144, 145, 146, 147, 148, 149, 150, 151, 152, 153, 154, 155, 156, 157, 158, 159] (by decide +kernel) (by decide +kernel)
set_option maxRecDepth 20000 in
theorem zbL_law_X12_init_2 : GoodIn wsL_law wsX12_init_r2 := goodIn_r _ [160, 161, 162, 163, 164, 165] (by decide +kernel) (by decide +kernel)
set_option maxRecDepth 20000 in
theorem ggL_law_X12_init : GoodIn wsL_law wsX12_init := (goodIn_ca (goodIn_cc zbL_law_X12_init_0 (goodIn_app zbL_law_X12_init_1 zbL_law_X12_init_2)) (goodIn_sub inlX12 zgw_X12))
set_option maxRecDepth 20000 in
theorem gL_law_X12_init : GoodIn wsL_law (wsX12_init) := ggL_law_X12_init
set_option maxRecDepth 20000 in
theorem zbL_law_X11_feed : GoodIn wsL_law (Cond.code yX11_feed cX11_feed 6 (some .int) :: [.fieldLink RX11 14 "ClayAccounts" "tape" "LClayAccounts$Text;", .fieldLink RX11 100 "ClayAccounts$Text" "size" "I", .methodLink RX11 103 yX7_putFour, .instanceMethod yX7_putFour, .selects RX7 yX7_putFour yX7_putFour, .initialized RX7, .code yX7_putFour cX7_putFour 2 none, .methodLink RX7 25 yX7_put, .instanceMethod yX7_put, .selects RX7 yX7_put yX7_put, .code yX7_put cX7_put 2 none, .fieldLink RX7 21 "ClayAccounts$Text" "size" "I", .fieldLink RX7 15 "ClayAccounts$Text" "bytes" "[B"]) := goodIn_r _ [169, 16, 170, 171, 172, 173, 15, 174, 175, 176, 177, 178, 64, 63] (by decide +kernel) (by decide +kernel)
set_option maxRecDepth 20000 in
theorem ggL_law_X11_feed : GoodIn wsL_law wsX11_feed := (goodIn_ca (goodIn_ca zbL_law_X11_feed (goodIn_sub inlX11 zgw_X11)) (goodIn_sub inlX7 zgw_X7))
set_option maxRecDepth 20000 in
theorem gL_law_X11_feed : GoodIn wsL_law (wsV RL 34 RX11 yX11_feed wsX11_feed) := goodIn_app (goodIn_of _ (by decide +kernel)) ggL_law_X11_feed
set_option maxRecDepth 20000 in
theorem zbL_law_X12_feed : GoodIn wsL_law (Cond.code yX12_feed cX12_feed 6 (some .int) :: [.fieldLink RX12 86 "ClayAccountsModel" "thrown" "I", .fieldLink RX12 90 "ClayAccountsModel" "taped" "I", .methodLink RX12 93 yX12_come, .instanceMethod yX12_come, .selects RX12 yX12_come yX12_come, .initialized RX12, .code yX12_come cX12_come 3 none, .fieldLink RX12 7 "ClayAccountsModel" "tape" "[I"]) := goodIn_r _ [182, 183, 184, 185, 186, 187, 5, 188, 141] (by decide +kernel) (by decide +kernel)
set_option maxRecDepth 20000 in
theorem ggL_law_X12_feed : GoodIn wsL_law wsX12_feed := (goodIn_ca zbL_law_X12_feed (goodIn_sub inlX12 zgw_X12))
set_option maxRecDepth 20000 in
theorem gL_law_X12_feed : GoodIn wsL_law (wsV RL 38 RX12 yX12_feed wsX12_feed) := goodIn_app (goodIn_of _ (by decide +kernel)) ggL_law_X12_feed
set_option maxRecDepth 20000 in
theorem zbL_law_X11_end : GoodIn wsL_law (Cond.code yX11_end cX11_end 2 (some .boolean) :: [.fieldLink RX11 14 "ClayAccounts" "tape" "LClayAccounts$Text;", .fieldLink RX11 100 "ClayAccounts$Text" "size" "I"]) := goodIn_r _ [192, 16, 170] (by decide +kernel) (by decide +kernel)
set_option maxRecDepth 20000 in
theorem ggL_law_X11_end : GoodIn wsL_law wsX11_end := (goodIn_ca (goodIn_ca zbL_law_X11_end (goodIn_sub inlX11 zgw_X11)) (goodIn_sub inlX7 zgw_X7))
set_option maxRecDepth 20000 in
theorem gL_law_X11_end : GoodIn wsL_law (wsV RL 39 RX11 yX11_end wsX11_end) := goodIn_app (goodIn_of _ (by decide +kernel)) ggL_law_X11_end
set_option maxRecDepth 20000 in
theorem zbL_law_X12_end : GoodIn wsL_law (Cond.code yX12_end cX12_end 2 (some .boolean) :: [.fieldLink RX12 86 "ClayAccountsModel" "thrown" "I", .fieldLink RX12 90 "ClayAccountsModel" "taped" "I"]) := goodIn_r _ [196, 183, 184] (by decide +kernel) (by decide +kernel)
set_option maxRecDepth 20000 in
theorem ggL_law_X12_end : GoodIn wsL_law wsX12_end := (goodIn_ca zbL_law_X12_end (goodIn_sub inlX12 zgw_X12))
set_option maxRecDepth 20000 in
theorem gL_law_X12_end : GoodIn wsL_law (wsV RL 43 RX12 yX12_end wsX12_end) := goodIn_app (goodIn_of _ (by decide +kernel)) ggL_law_X12_end
set_option maxRecDepth 20000 in
theorem zbL_law_X11_systems_0 : GoodIn wsL_law [Cond.code yX11_systems cX11_systems 3 (some .int)] := goodIn_r _ [200] (by decide +kernel) (by decide +kernel)
set_option maxRecDepth 20000 in
theorem zbL_law_X11_systems_1 : GoodIn wsL_law wsX11_systems_r1 := goodIn_r _ [22, 16, 48, 201, 202, 53, 203, 47, 51, 34, 43, 204, 205, 206, 207, 21, 208, 71, 209, 210, 211, 212, 213, 214] (by decide +kernel) (by decide +kernel)
set_option maxRecDepth 20000 in
theorem zbL_law_X11_systems_2 : GoodIn wsL_law wsX11_systems_r2 := goodIn_r _ [46, 215, 216, 124, 125, 126, 217, 218, 101, 219, 220, 100, 102, 221, 222, 223, 70, 224, 76, 225, 226, 227, 228, 229] (by decide +kernel) (by decide +kernel)
set_option maxRecDepth 20000 in
theorem zbL_law_X11_systems_3 : GoodIn wsL_law wsX11_systems_r3 := goodIn_r _ [230, 231, 232, 233, 234, 235, 236, 60, 237, 238, 239, 240, 241, 242, 15, 243, 64, 63, 244, 245, 246, 247, 248, 249] (by decide +kernel) (by decide +kernel)
set_option maxRecDepth 20000 in
theorem zbL_law_X11_systems_4 : GoodIn wsL_law wsX11_systems_r4 := goodIn_r _ [250, 251, 252, 253, 254, 255, 256, 257, 258, 259, 260, 261, 262, 263, 264, 265, 266, 267, 268, 269, 270, 271, 272, 273] (by decide +kernel) (by decide +kernel)
set_option maxRecDepth 20000 in
theorem zbL_law_X11_systems_5 : GoodIn wsL_law wsX11_systems_r5 := goodIn_r _ [274, 275, 276, 277, 278, 279, 280, 281, 282, 283, 284, 285, 286, 287, 288, 289, 290, 291, 292, 293, 294, 295, 296, 297] (by decide +kernel) (by decide +kernel)
set_option maxRecDepth 20000 in
theorem zbL_law_X11_systems_6 : GoodIn wsL_law wsX11_systems_r6 := goodIn_r _ [298, 299, 300, 301, 302, 303, 304, 305, 306, 307, 308, 309, 310, 311, 312, 313, 314, 315, 316, 317, 318, 319, 320, 321] (by decide +kernel) (by decide +kernel)
set_option maxRecDepth 20000 in
theorem zbL_law_X11_systems_7 : GoodIn wsL_law wsX11_systems_r7 := goodIn_r _ [322, 323, 324, 325, 326, 327, 127, 128, 129, 328, 329, 330, 331, 332, 333, 334, 335, 336, 337, 338, 339, 340, 341, 342] (by decide +kernel) (by decide +kernel)
set_option maxRecDepth 20000 in
theorem zbL_law_X11_systems_8 : GoodIn wsL_law wsX11_systems_r8 := goodIn_r _ [343, 344, 345, 346, 347, 348, 349, 350, 351, 352, 353, 354, 33, 355, 96, 356, 357, 99, 136] (by decide +kernel) (by decide +kernel)
set_option maxRecDepth 20000 in
theorem ggL_law_X11_systems : GoodIn wsL_law wsX11_systems := (goodIn_ca (goodIn_ca (goodIn_ca (goodIn_ca (goodIn_ca (goodIn_ca (goodIn_cc zbL_law_X11_systems_0 (goodIn_app zbL_law_X11_systems_1 (goodIn_app zbL_law_X11_systems_2 (goodIn_app zbL_law_X11_systems_3 (goodIn_app zbL_law_X11_systems_4 (goodIn_app zbL_law_X11_systems_5 (goodIn_app zbL_law_X11_systems_6 (goodIn_app zbL_law_X11_systems_7 zbL_law_X11_systems_8)))))))) (goodIn_sub inlX11 zgw_X11)) (goodIn_sub inlX10 zgw_X10)) (goodIn_sub inlX8 zgw_X8)) (goodIn_sub inlX9 zgw_X9)) (goodIn_sub inlX7 zgw_X7)) (goodIn_sub inlX3 zgw_X3))
set_option maxRecDepth 20000 in
theorem gL_law_X11_systems : GoodIn wsL_law (wsV RL 44 RX11 yX11_systems wsX11_systems) := goodIn_app (goodIn_of _ (by decide +kernel)) ggL_law_X11_systems
set_option maxRecDepth 20000 in
theorem zbL_law_X12_systems_0 : GoodIn wsL_law [Cond.code yX12_systems cX12_systems 4 (some .int)] := goodIn_r _ [361] (by decide +kernel) (by decide +kernel)
set_option maxRecDepth 20000 in
theorem zbL_law_X12_systems_1 : GoodIn wsL_law wsX12_systems_r1 := goodIn_r _ [183, 362, 363, 364, 365, 366, 145, 144, 146, 367, 368, 369, 370, 5, 371, 184, 372, 142, 141, 373, 374, 375, 376, 377] (by decide +kernel) (by decide +kernel)
set_option maxRecDepth 20000 in
theorem zbL_law_X12_systems_2 : GoodIn wsL_law wsX12_systems_r2 := goodIn_r _ [378, 379, 380, 381, 382, 383, 384, 385, 386, 387, 388, 389, 390, 391, 392, 393, 394, 395, 396, 397, 398, 399, 400, 401] (by decide +kernel) (by decide +kernel)
set_option maxRecDepth 20000 in
theorem zbL_law_X12_systems_3 : GoodIn wsL_law wsX12_systems_r3 := goodIn_r _ [402, 403, 404, 405, 406, 407, 408, 409, 410, 411, 412, 413, 414, 415, 416, 417, 418, 419, 143, 420, 421, 422, 423, 424] (by decide +kernel) (by decide +kernel)
set_option maxRecDepth 20000 in
theorem zbL_law_X12_systems_4 : GoodIn wsL_law wsX12_systems_r4 := goodIn_r _ [425, 426, 427, 428, 429, 430, 431, 432, 433, 434, 435, 436, 437, 438, 439, 440, 441, 442, 443, 444, 445, 446, 447] (by decide +kernel) (by decide +kernel)
set_option maxRecDepth 20000 in
theorem ggL_law_X12_systems : GoodIn wsL_law wsX12_systems := (goodIn_ca (goodIn_cc zbL_law_X12_systems_0 (goodIn_app zbL_law_X12_systems_1 (goodIn_app zbL_law_X12_systems_2 (goodIn_app zbL_law_X12_systems_3 zbL_law_X12_systems_4)))) (goodIn_sub inlX12 zgw_X12))
set_option maxRecDepth 20000 in
theorem gL_law_X12_systems : GoodIn wsL_law (wsV RL 48 RX12 yX12_systems wsX12_systems) := goodIn_app (goodIn_of _ (by decide +kernel)) ggL_law_X12_systems
set_option maxRecDepth 20000 in
theorem zbL_law_X11_fault : GoodIn wsL_law (Cond.code yX11_fault cX11_fault 1 (some .int) :: [.fieldLink RX11 97 "ClayAccounts" "faultKind" "I"]) := goodIn_r _ [451, 53] (by decide +kernel) (by decide +kernel)
set_option maxRecDepth 20000 in
theorem ggL_law_X11_fault : GoodIn wsL_law wsX11_fault := (goodIn_ca zbL_law_X11_fault (goodIn_sub inlX11 zgw_X11))
set_option maxRecDepth 20000 in
theorem gL_law_X11_fault : GoodIn wsL_law (wsV RL 49 RX11 yX11_fault wsX11_fault) := goodIn_app (goodIn_of _ (by decide +kernel)) ggL_law_X11_fault
set_option maxRecDepth 20000 in
theorem zbL_law_X12_fault : GoodIn wsL_law (Cond.code yX12_fault cX12_fault 1 (some .int) :: [.fieldLink RX12 86 "ClayAccountsModel" "thrown" "I", .fieldLink RX12 150 "ClayAccountsModel" "fault" "I"]) := goodIn_r _ [455, 183, 362] (by decide +kernel) (by decide +kernel)
set_option maxRecDepth 20000 in
theorem ggL_law_X12_fault : GoodIn wsL_law wsX12_fault := (goodIn_ca zbL_law_X12_fault (goodIn_sub inlX12 zgw_X12))
set_option maxRecDepth 20000 in
theorem gL_law_X12_fault : GoodIn wsL_law (wsV RL 52 RX12 yX12_fault wsX12_fault) := goodIn_app (goodIn_of _ (by decide +kernel)) ggL_law_X12_fault
set_option maxRecDepth 20000 in
theorem zbL_law_L_system : GoodIn wsL_law (Cond.codeWith yL_system cL_system 5 (some .int) [(0, 10, 13, 13)] :: [.classLink RL 13 "java/util/NoSuchElementException", .methodLink RL 7 yX11_system, .instanceMethod yX11_system, .selects RX11 yX11_system yX11_system, .initialized RX11, .code yX11_system cX11_system 3 (some .int), .classLink RX11 135 "java/util/NoSuchElementException", .initialized "java/util/NoSuchElementException", .fieldLink RX11 76 "ClayAccounts" "units" "LClayAccounts$Units;", .fieldLink RX11 142 "ClayAccounts$Units" "unitCounts" "[I", .fieldLink RX11 145 "ClayAccounts$Units" "factors" "[I", .methodLink RX11 131 yX11_isSystem, .instanceMethod yX11_isSystem, .selects RX11 yX11_isSystem yX11_isSystem, .code yX11_isSystem cX11_isSystem 2 (some .boolean), .fieldLink RX11 128 "ClayAccounts$Units" "systemCount" "I", .methodLink RX11 148 yX9_slot, .static yX9_slot, .initialized RX9, .code yX9_slot cX9_slot 2 (some .int)]) := goodIn_r _ [459, 460, 461, 462, 463, 2, 464, 465, 466, 47, 467, 468, 469, 470, 471, 472, 204, 473, 333, 46, 334] (by decide +kernel) (by decide +kernel)
set_option maxRecDepth 20000 in
theorem ggL_law_L_system : GoodIn wsL_law wsL_system := (goodIn_ca (goodIn_ca (goodIn_ca zbL_law_L_system (goodIn_sub inlX11 zgw_X11)) (goodIn_sub inlX9 zgw_X9)) (goodIn_sub (fun _ h => List.mem_append_right _ h) (by decide +kernel)))
set_option maxRecDepth 20000 in
theorem gL_law_L_system : GoodIn wsL_law (va_wsS RL 53 yL_system wsL_system) := goodIn_app (goodIn_of _ (by decide +kernel)) ggL_law_L_system
set_option maxRecDepth 20000 in
theorem zbL_law_X12_system : GoodIn wsL_law (Cond.code yX12_system cX12_system 3 (some .int) :: [.fieldLink RX12 201 "ClayAccountsModel" "systems" "I", .fieldLink RX12 86 "ClayAccountsModel" "thrown" "I", .fieldLink RX12 23 "ClayAccountsModel" "units" "[I", .fieldLink RX12 26 "ClayAccountsModel" "factor" "[I", .methodLink RX12 210 yX12_refuse, .instanceMethod yX12_refuse, .selects RX12 yX12_refuse yX12_refuse, .initialized RX12, .code yX12_refuse cX12_refuse 1 (some .int)]) := goodIn_r _ [477, 366, 183, 145, 146, 478, 479, 480, 5, 481] (by decide +kernel) (by decide +kernel)
set_option maxRecDepth 20000 in
theorem ggL_law_X12_system : GoodIn wsL_law wsX12_system := (goodIn_ca zbL_law_X12_system (goodIn_sub inlX12 zgw_X12))
set_option maxRecDepth 20000 in
theorem gL_law_X12_system : GoodIn wsL_law (wsV RL 58 RX12 yX12_system wsX12_system) := goodIn_app (goodIn_of _ (by decide +kernel)) ggL_law_X12_system
set_option maxRecDepth 20000 in
theorem zbL_law_X11_write_0 : GoodIn wsL_law [Cond.code yX11_write cX11_write 3 (some .int)] := goodIn_r _ [485] (by decide +kernel) (by decide +kernel)
set_option maxRecDepth 20000 in
theorem zbL_law_X11_write_1 : GoodIn wsL_law wsX11_write_r1 := goodIn_r _ [47, 17, 170, 469, 470, 471, 2, 472, 204, 486, 487, 488, 46, 489, 125, 128, 332, 333, 334, 348, 349, 350, 15, 351] (by decide +kernel) (by decide +kernel)
set_option maxRecDepth 20000 in
theorem zbL_law_X11_write_2 : GoodIn wsL_law wsX11_write_r2 := goodIn_r _ [64, 490, 491, 492, 493, 126, 494, 495, 496, 497, 498, 176, 177, 178, 63] (by decide +kernel) (by decide +kernel)
set_option maxRecDepth 20000 in
theorem ggL_law_X11_write : GoodIn wsL_law wsX11_write := (goodIn_ca (goodIn_ca (goodIn_ca (goodIn_cc zbL_law_X11_write_0 (goodIn_app zbL_law_X11_write_1 zbL_law_X11_write_2)) (goodIn_sub inlX11 zgw_X11)) (goodIn_sub inlX7 zgw_X7)) (goodIn_sub inlX9 zgw_X9))
set_option maxRecDepth 20000 in
theorem gL_law_X11_write : GoodIn wsL_law (wsV RL 59 RX11 yX11_write wsX11_write) := goodIn_app (goodIn_of _ (by decide +kernel)) ggL_law_X11_write
set_option maxRecDepth 20000 in
theorem zbL_law_X12_write : GoodIn wsL_law (Cond.code yX12_write cX12_write 6 (some .int) :: [.fieldLink RX12 86 "ClayAccountsModel" "thrown" "I", .fieldLink RX12 201 "ClayAccountsModel" "systems" "I", .fieldLink RX12 23 "ClayAccountsModel" "units" "[I", .fieldLink RX12 214 "ClayAccountsModel" "outs" "I", .fieldLink RX12 20 "ClayAccountsModel" "unitName" "[J", .methodLink RX12 220 yX12_worth, .instanceMethod yX12_worth, .selects RX12 yX12_worth yX12_worth, .initialized RX12, .code yX12_worth cX12_worth 5 (some .int), .fieldLink RX12 26 "ClayAccountsModel" "factor" "[I", .methodLink RX12 217 yX12_outByte, .instanceMethod yX12_outByte, .selects RX12 yX12_outByte yX12_outByte, .code yX12_outByte cX12_outByte 2 none, .fieldLink RX12 29 "ClayAccountsModel" "out" "[I", .methodLink RX12 224 yX12_outName, .instanceMethod yX12_outName, .selects RX12 yX12_outName yX12_outName, .code yX12_outName cX12_outName 5 none, .constantLong RX12 137 (27)]) := goodIn_r _ [502, 183, 366, 145, 503, 144, 504, 505, 506, 5, 507, 146, 508, 509, 510, 511, 147, 512, 513, 514, 515, 387] (by decide +kernel) (by decide +kernel)
set_option maxRecDepth 20000 in
theorem ggL_law_X12_write : GoodIn wsL_law wsX12_write := (goodIn_ca zbL_law_X12_write (goodIn_sub inlX12 zgw_X12))
set_option maxRecDepth 20000 in
theorem gL_law_X12_write : GoodIn wsL_law (wsV RL 62 RX12 yX12_write wsX12_write) := goodIn_app (goodIn_of _ (by decide +kernel)) ggL_law_X12_write
set_option maxRecDepth 20000 in
theorem zbL_law_L_octet : GoodIn wsL_law (Cond.codeWith yL_octet cL_octet 4 (some .int) [(0, 9, 12, 13)] :: [.classLink RL 13 "java/util/NoSuchElementException", .methodLink RL 15 yX11_octet, .instanceMethod yX11_octet, .selects RX11 yX11_octet yX11_octet, .initialized RX11, .code yX11_octet cX11_octet 2 (some .int), .classLink RX11 135 "java/util/NoSuchElementException", .initialized "java/util/NoSuchElementException", .fieldLink RX11 18 "ClayAccounts" "out" "LClayAccounts$Text;", .fieldLink RX11 100 "ClayAccounts$Text" "size" "I", .methodLink RX11 162 yX7_byteAt, .instanceMethod yX7_byteAt, .selects RX7 yX7_byteAt yX7_byteAt, .initialized RX7, .code yX7_byteAt cX7_byteAt 2 (some .int), .fieldLink RX7 21 "ClayAccounts$Text" "size" "I", .fieldLink RX7 15 "ClayAccounts$Text" "bytes" "[B"]) := goodIn_r _ [518, 460, 519, 520, 521, 2, 522, 465, 466, 17, 170, 523, 241, 242, 15, 243, 64, 63] (by decide +kernel) (by decide +kernel)
set_option maxRecDepth 20000 in
theorem ggL_law_L_octet : GoodIn wsL_law wsL_octet := (goodIn_ca (goodIn_ca (goodIn_ca zbL_law_L_octet (goodIn_sub inlX11 zgw_X11)) (goodIn_sub inlX7 zgw_X7)) (goodIn_sub (fun _ h => List.mem_append_right _ h) (by decide +kernel)))
set_option maxRecDepth 20000 in
theorem gL_law_L_octet : GoodIn wsL_law (va_wsS RL 63 yL_octet wsL_octet) := goodIn_app (goodIn_of _ (by decide +kernel)) ggL_law_L_octet
set_option maxRecDepth 20000 in
theorem zbL_law_X12_octet : GoodIn wsL_law (Cond.code yX12_octet cX12_octet 2 (some .int) :: [.fieldLink RX12 214 "ClayAccountsModel" "outs" "I", .fieldLink RX12 86 "ClayAccountsModel" "thrown" "I", .fieldLink RX12 29 "ClayAccountsModel" "out" "[I", .methodLink RX12 210 yX12_refuse, .instanceMethod yX12_refuse, .selects RX12 yX12_refuse yX12_refuse, .initialized RX12, .code yX12_refuse cX12_refuse 1 (some .int)]) := goodIn_r _ [527, 503, 183, 147, 478, 479, 480, 5, 481] (by decide +kernel) (by decide +kernel)
set_option maxRecDepth 20000 in
theorem ggL_law_X12_octet : GoodIn wsL_law wsX12_octet := (goodIn_ca zbL_law_X12_octet (goodIn_sub inlX12 zgw_X12))
set_option maxRecDepth 20000 in
theorem gL_law_X12_octet : GoodIn wsL_law (wsV RL 66 RX12 yX12_octet wsX12_octet) := goodIn_app (goodIn_of _ (by decide +kernel)) ggL_law_X12_octet
set_option maxRecDepth 20000 in
theorem zbL_law_X11_tablet_0 : GoodIn wsL_law [Cond.code yX11_tablet cX11_tablet 3 (some .int)] := goodIn_r _ [531] (by decide +kernel) (by decide +kernel)
set_option maxRecDepth 20000 in
theorem zbL_law_X11_tablet_1 : GoodIn wsL_law wsX11_tablet_r1 := goodIn_r _ [51, 47, 204, 26, 16, 36, 532, 202, 53, 203, 533, 534, 535, 25, 536, 82, 537, 538, 539, 540, 541, 542, 38, 543] (by decide +kernel) (by decide +kernel)
set_option maxRecDepth 20000 in
theorem zbL_law_X11_tablet_2 : GoodIn wsL_law wsX11_tablet_r2 := goodIn_r _ [544, 545, 546, 547, 548, 549, 222, 223, 70, 224, 76, 225, 226, 227, 228, 229, 550, 231, 232, 233, 234, 235, 236, 60] (by decide +kernel) (by decide +kernel)
set_option maxRecDepth 20000 in
theorem zbL_law_X11_tablet_3 : GoodIn wsL_law wsX11_tablet_r3 := goodIn_r _ [237, 238, 239, 240, 241, 242, 15, 243, 64, 63, 244, 245, 246, 247, 248, 249, 250, 251, 252, 253, 254, 255, 256, 257] (by decide +kernel) (by decide +kernel)
set_option maxRecDepth 20000 in
theorem zbL_law_X11_tablet_4 : GoodIn wsL_law wsX11_tablet_r4 := goodIn_r _ [258, 259, 260, 261, 262, 263, 264, 265, 266, 267, 268, 269, 270, 271, 272, 273, 274, 275, 551, 277, 278, 279, 280, 281] (by decide +kernel) (by decide +kernel)
set_option maxRecDepth 20000 in
theorem zbL_law_X11_tablet_5 : GoodIn wsL_law wsX11_tablet_r5 := goodIn_r _ [282, 283, 552, 553, 554, 555, 556, 557, 558, 559, 560, 561, 562, 563, 564, 565, 566, 567, 568, 569, 570, 571, 108, 572] (by decide +kernel) (by decide +kernel)
set_option maxRecDepth 20000 in
theorem zbL_law_X11_tablet_6 : GoodIn wsL_law wsX11_tablet_r6 := goodIn_r _ [573, 574, 575, 112, 576, 577, 578, 579, 580, 581, 582, 583, 584, 585, 586, 587, 588, 589, 590, 591, 592, 593, 295, 296] (by decide +kernel) (by decide +kernel)
set_option maxRecDepth 20000 in
theorem zbL_law_X11_tablet_7 : GoodIn wsL_law wsX11_tablet_r7 := goodIn_r _ [297, 594, 595, 596, 597, 598, 599, 600, 601, 313, 314, 46, 315, 126, 602, 603, 604, 605, 606, 607, 608, 609, 610, 611] (by decide +kernel) (by decide +kernel)
set_option maxRecDepth 20000 in
theorem zbL_law_X11_tablet_8 : GoodIn wsL_law wsX11_tablet_r8 := goodIn_r _ [612, 613, 614, 615, 616, 617, 618, 619, 620, 621, 622, 623, 624, 625, 626, 627, 628, 629, 630, 110, 631, 632, 633, 634] (by decide +kernel) (by decide +kernel)
set_option maxRecDepth 20000 in
theorem zbL_law_X11_tablet_9 : GoodIn wsL_law wsX11_tablet_r9 := goodIn_r _ [635, 636, 637, 638, 114, 639, 640, 641, 642, 643, 644, 645, 646, 647, 648, 649, 650, 348, 349, 350, 351] (by decide +kernel) (by decide +kernel)
set_option maxRecDepth 20000 in
theorem ggL_law_X11_tablet : GoodIn wsL_law wsX11_tablet := (goodIn_ca (goodIn_ca (goodIn_ca (goodIn_ca (goodIn_ca (goodIn_ca (goodIn_ca (goodIn_ca (goodIn_cc zbL_law_X11_tablet_0 (goodIn_app zbL_law_X11_tablet_1 (goodIn_app zbL_law_X11_tablet_2 (goodIn_app zbL_law_X11_tablet_3 (goodIn_app zbL_law_X11_tablet_4 (goodIn_app zbL_law_X11_tablet_5 (goodIn_app zbL_law_X11_tablet_6 (goodIn_app zbL_law_X11_tablet_7 (goodIn_app zbL_law_X11_tablet_8 zbL_law_X11_tablet_9))))))))) (goodIn_sub inlX11 zgw_X11)) (goodIn_sub inlX9 zgw_X9)) (goodIn_sub inlX6 zgw_X6)) (goodIn_sub inlX8 zgw_X8)) (goodIn_sub inlX5 zgw_X5)) (goodIn_sub inlX7 zgw_X7)) (goodIn_sub inlX2 zgw_X2)) (goodIn_sub inlX1 zgw_X1))
set_option maxRecDepth 20000 in
theorem gL_law_X11_tablet : GoodIn wsL_law (wsV RL 67 RX11 yX11_tablet wsX11_tablet) := goodIn_app (goodIn_of _ (by decide +kernel)) ggL_law_X11_tablet
set_option maxRecDepth 20000 in
theorem zbL_law_X12_tablet_0 : GoodIn wsL_law [Cond.code yX12_tablet cX12_tablet 1 (some .int)] := goodIn_r _ [654] (by decide +kernel) (by decide +kernel)
set_option maxRecDepth 20000 in
theorem zbL_law_X12_tablet_1 : GoodIn wsL_law wsX12_tablet_r1 := goodIn_r _ [183, 367, 366, 184, 362, 364, 368, 369, 370, 5, 371, 372, 142, 141, 373, 374, 375, 376, 377, 378, 379, 380, 381, 382] (by decide +kernel) (by decide +kernel)
set_option maxRecDepth 20000 in
theorem zbL_law_X12_tablet_2 : GoodIn wsL_law wsX12_tablet_r2 := goodIn_r _ [383, 384, 365, 385, 386, 387, 388, 389, 390, 391, 392, 393, 394, 395, 396, 397, 398, 399, 400, 401, 402, 403, 404, 405] (by decide +kernel) (by decide +kernel)
set_option maxRecDepth 20000 in
theorem zbL_law_X12_tablet_3 : GoodIn wsL_law wsX12_tablet_r3 := goodIn_r _ [406, 407, 655, 656, 657, 658, 148, 152, 424, 425, 149, 151, 408, 409, 410, 411, 412, 413, 414, 415, 659, 660, 661, 662] (by decide +kernel) (by decide +kernel)
set_option maxRecDepth 20000 in
theorem zbL_law_X12_tablet_4 : GoodIn wsL_law wsX12_tablet_r4 := goodIn_r _ [663, 664, 150, 155, 153, 154, 665, 666, 667, 668, 669, 670, 671, 672, 420, 421, 422, 423, 363, 673, 674, 675, 676, 145] (by decide +kernel) (by decide +kernel)
set_option maxRecDepth 20000 in
theorem zbL_law_X12_tablet_5 : GoodIn wsL_law wsX12_tablet_r5 := goodIn_r _ [144, 677, 678, 679, 680, 146, 681, 682, 683, 684, 430, 431, 432, 433] (by decide +kernel) (by decide +kernel)
set_option maxRecDepth 20000 in
theorem ggL_law_X12_tablet : GoodIn wsL_law wsX12_tablet := (goodIn_ca (goodIn_cc zbL_law_X12_tablet_0 (goodIn_app zbL_law_X12_tablet_1 (goodIn_app zbL_law_X12_tablet_2 (goodIn_app zbL_law_X12_tablet_3 (goodIn_app zbL_law_X12_tablet_4 zbL_law_X12_tablet_5))))) (goodIn_sub inlX12 zgw_X12))
set_option maxRecDepth 20000 in
theorem gL_law_X12_tablet : GoodIn wsL_law (wsV RL 70 RX12 yX12_tablet wsX12_tablet) := goodIn_app (goodIn_of _ (by decide +kernel)) ggL_law_X12_tablet
set_option maxRecDepth 20000 in
theorem zbL_law_L_line : GoodIn wsL_law (Cond.codeWith yL_line cL_line 6 (some .int) [(0, 12, 15, 13)] :: [.classLink RL 13 "java/util/NoSuchElementException", .methodLink RL 19 yX11_line, .instanceMethod yX11_line, .selects RX11 yX11_line yX11_line, .initialized RX11, .code yX11_line cX11_line 5 (some .int), .classLink RX11 135 "java/util/NoSuchElementException", .initialized "java/util/NoSuchElementException", .fieldLink RX11 54 "ClayAccounts" "tablets" "[LClayAccounts$Tablet;", .fieldLink RX11 175 "ClayAccounts$Tablet" "lines" "[LClayAccounts$Line;", .fieldLink RX11 179 "ClayAccounts$Line" "kind" "I", .fieldLink RX11 184 "ClayAccounts$Line" "system" "I", .fieldLink RX11 187 "ClayAccounts$Line" "holeCount" "I", .fieldLink RX11 190 "ClayAccounts$Line" "value" "I", .methodLink RX11 170 yX11_isLine, .instanceMethod yX11_isLine, .selects RX11 yX11_isLine yX11_isLine, .code yX11_isLine cX11_isLine 3 (some .boolean), .fieldLink RX11 196 "ClayAccounts$Tablet" "lineCount" "I", .methodLink RX11 193 yX11_isTablet, .instanceMethod yX11_isTablet, .selects RX11 yX11_isTablet yX11_isTablet, .code yX11_isTablet cX11_isTablet 2 (some .boolean), .fieldLink RX11 90 "ClayAccounts" "tabletCount" "I"]) := goodIn_r _ [687, 460, 688, 689, 690, 2, 691, 465, 466, 36, 692, 693, 694, 695, 696, 697, 698, 699, 700, 701, 702, 703, 704, 705, 51] (by decide +kernel) (by decide +kernel)
set_option maxRecDepth 20000 in
theorem ggL_law_L_line : GoodIn wsL_law wsL_line := (goodIn_ca (goodIn_ca (goodIn_ca (goodIn_ca zbL_law_L_line (goodIn_sub inlX11 zgw_X11)) (goodIn_sub inlX5 zgw_X5)) (goodIn_sub inlX2 zgw_X2)) (goodIn_sub (fun _ h => List.mem_append_right _ h) (by decide +kernel)))
set_option maxRecDepth 20000 in
theorem gL_law_L_line : GoodIn wsL_law (va_wsS RL 71 yL_line wsL_line) := goodIn_app (goodIn_of _ (by decide +kernel)) ggL_law_L_line
set_option maxRecDepth 20000 in
theorem zbL_law_X12_line_0 : GoodIn wsL_law [Cond.code yX12_line cX12_line 9 (some .int)] := goodIn_r _ [709] (by decide +kernel) (by decide +kernel)
set_option maxRecDepth 20000 in
theorem zbL_law_X12_line_1 : GoodIn wsL_law wsX12_line_r1 := goodIn_r _ [183, 151, 153, 154, 149, 150, 155, 710, 711, 712, 5, 713, 148, 714, 715, 716, 717, 367, 478, 479, 480, 481, 504, 505] (by decide +kernel) (by decide +kernel)
set_option maxRecDepth 20000 in
theorem zbL_law_X12_line_2 : GoodIn wsL_law wsX12_line_r2 := goodIn_r _ [506, 507, 146] (by decide +kernel) (by decide +kernel)
set_option maxRecDepth 20000 in
theorem ggL_law_X12_line : GoodIn wsL_law wsX12_line := (goodIn_ca (goodIn_cc zbL_law_X12_line_0 (goodIn_app zbL_law_X12_line_1 zbL_law_X12_line_2)) (goodIn_sub inlX12 zgw_X12))
set_option maxRecDepth 20000 in
theorem gL_law_X12_line : GoodIn wsL_law (wsV RL 74 RX12 yX12_line wsX12_line) := goodIn_app (goodIn_of _ (by decide +kernel)) ggL_law_X12_line
set_option maxRecDepth 20000 in
theorem zbL_law_X11_lines : GoodIn wsL_law (Cond.code yX11_lines cX11_lines 2 (some .int) :: [.fieldLink RX11 54 "ClayAccounts" "tablets" "[LClayAccounts$Tablet;", .fieldLink RX11 196 "ClayAccounts$Tablet" "lineCount" "I", .methodLink RX11 193 yX11_isTablet, .instanceMethod yX11_isTablet, .selects RX11 yX11_isTablet yX11_isTablet, .initialized RX11, .code yX11_isTablet cX11_isTablet 2 (some .boolean), .fieldLink RX11 90 "ClayAccounts" "tabletCount" "I"]) := goodIn_r _ [721, 36, 701, 702, 703, 704, 2, 705, 51] (by decide +kernel) (by decide +kernel)
set_option maxRecDepth 20000 in
theorem ggL_law_X11_lines : GoodIn wsL_law wsX11_lines := (goodIn_ca (goodIn_ca zbL_law_X11_lines (goodIn_sub inlX11 zgw_X11)) (goodIn_sub inlX5 zgw_X5))
set_option maxRecDepth 20000 in
theorem gL_law_X11_lines : GoodIn wsL_law (wsV RL 75 RX11 yX11_lines wsX11_lines) := goodIn_app (goodIn_of _ (by decide +kernel)) ggL_law_X11_lines
set_option maxRecDepth 20000 in
theorem zbL_law_X12_lines : GoodIn wsL_law (Cond.code yX12_lines cX12_lines 2 (some .int) :: [.fieldLink RX12 86 "ClayAccountsModel" "thrown" "I", .fieldLink RX12 32 "ClayAccountsModel" "lineMany" "[I", .methodLink RX12 257 yX12_isTablet, .instanceMethod yX12_isTablet, .selects RX12 yX12_isTablet yX12_isTablet, .initialized RX12, .code yX12_isTablet cX12_isTablet 2 (some .boolean), .fieldLink RX12 204 "ClayAccountsModel" "tablets" "I"]) := goodIn_r _ [725, 183, 148, 714, 715, 716, 5, 717, 367] (by decide +kernel) (by decide +kernel)
set_option maxRecDepth 20000 in
theorem ggL_law_X12_lines : GoodIn wsL_law wsX12_lines := (goodIn_ca zbL_law_X12_lines (goodIn_sub inlX12 zgw_X12))
set_option maxRecDepth 20000 in
theorem gL_law_X12_lines : GoodIn wsL_law (wsV RL 78 RX12 yX12_lines wsX12_lines) := goodIn_app (goodIn_of _ (by decide +kernel)) ggL_law_X12_lines
set_option maxRecDepth 20000 in
theorem zbL_law_X11_readings_0 : GoodIn wsL_law [Cond.code yX11_readings cX11_readings 2 (some .int)] := goodIn_r _ [729] (by decide +kernel) (by decide +kernel)
set_option maxRecDepth 20000 in
theorem zbL_law_X11_readings_1 : GoodIn wsL_law wsX11_readings_r1 := goodIn_r _ [730, 702, 703, 704, 2, 705, 51, 731, 732, 733, 734, 36, 735, 30, 736, 737, 738, 29, 739, 740, 741, 742, 743, 744] (by decide +kernel) (by decide +kernel)
set_option maxRecDepth 20000 in
theorem zbL_law_X11_readings_2 : GoodIn wsL_law wsX11_readings_r2 := goodIn_r _ [745, 746, 747, 748, 87, 88, 749, 750, 751, 752, 753, 754, 755, 756, 757, 758, 759, 760, 761, 762, 89, 90, 763, 764] (by decide +kernel) (by decide +kernel)
set_option maxRecDepth 20000 in
theorem zbL_law_X11_readings_3 : GoodIn wsL_law wsX11_readings_r3 := goodIn_r _ [765, 60, 766, 767, 768, 769, 770, 771, 772, 773, 774, 775, 776, 777, 778, 779, 780, 781, 782, 783, 784, 236, 237, 785] (by decide +kernel) (by decide +kernel)
set_option maxRecDepth 20000 in
theorem zbL_law_X11_readings_4 : GoodIn wsL_law wsX11_readings_r4 := goodIn_r _ [786, 91, 787, 788, 789, 790, 791, 792, 793, 794, 795, 114, 796, 797, 798, 799, 800, 112, 801, 581, 802, 582, 803, 59] (by decide +kernel) (by decide +kernel)
set_option maxRecDepth 20000 in
theorem zbL_law_X11_readings_5 : GoodIn wsL_law wsX11_readings_r5 := goodIn_r _ [61] (by decide +kernel) (by decide +kernel)
set_option maxRecDepth 20000 in
theorem ggL_law_X11_readings : GoodIn wsL_law wsX11_readings := (goodIn_ca (goodIn_ca (goodIn_ca (goodIn_ca (goodIn_ca (goodIn_cc zbL_law_X11_readings_0 (goodIn_app zbL_law_X11_readings_1 (goodIn_app zbL_law_X11_readings_2 (goodIn_app zbL_law_X11_readings_3 (goodIn_app zbL_law_X11_readings_4 zbL_law_X11_readings_5))))) (goodIn_sub inlX5 zgw_X5)) (goodIn_sub inlX11 zgw_X11)) (goodIn_sub inlX4 zgw_X4)) (goodIn_sub inlX2 zgw_X2)) (goodIn_sub inlX1 zgw_X1))
set_option maxRecDepth 20000 in
theorem gL_law_X11_readings : GoodIn wsL_law (wsV RL 79 RX11 yX11_readings wsX11_readings) := goodIn_app (goodIn_of _ (by decide +kernel)) ggL_law_X11_readings
set_option maxRecDepth 20000 in
theorem zbL_law_X12_readings_0 : GoodIn wsL_law [Cond.code yX12_readings cX12_readings 2 (some .int)] := goodIn_r _ [807] (by decide +kernel) (by decide +kernel)
set_option maxRecDepth 20000 in
theorem zbL_law_X12_readings_1 : GoodIn wsL_law wsX12_readings_r1 := goodIn_r _ [183, 808, 714, 715, 716, 5, 717, 367, 809, 810, 811, 812, 813, 157, 814, 815, 156, 816, 817, 818, 819, 152, 820, 821] (by decide +kernel) (by decide +kernel)
set_option maxRecDepth 20000 in
theorem zbL_law_X12_readings_2 : GoodIn wsL_law wsX12_readings_r2 := goodIn_r _ [822, 823, 148, 150, 151, 153, 154, 155, 677, 678, 679, 680, 145, 146, 669, 670, 671, 672, 504, 505, 506, 507, 824, 825] (by decide +kernel) (by decide +kernel)
set_option maxRecDepth 20000 in
theorem zbL_law_X12_readings_3 : GoodIn wsL_law wsX12_readings_r3 := goodIn_r _ [826, 827, 149] (by decide +kernel) (by decide +kernel)
set_option maxRecDepth 20000 in
theorem ggL_law_X12_readings : GoodIn wsL_law wsX12_readings := (goodIn_ca (goodIn_cc zbL_law_X12_readings_0 (goodIn_app zbL_law_X12_readings_1 (goodIn_app zbL_law_X12_readings_2 zbL_law_X12_readings_3))) (goodIn_sub inlX12 zgw_X12))
set_option maxRecDepth 20000 in
theorem gL_law_X12_readings : GoodIn wsL_law (wsV RL 82 RX12 yX12_readings wsX12_readings) := goodIn_app (goodIn_of _ (by decide +kernel)) ggL_law_X12_readings
set_option maxRecDepth 20000 in
theorem zbL_law_L_bound_0 : GoodIn wsL_law [Cond.codeWith yL_bound cL_bound 6 (some .int) [(0, 12, 15, 13)]] := goodIn_r _ [830] (by decide +kernel) (by decide +kernel)
set_option maxRecDepth 20000 in
theorem zbL_law_L_bound_1 : GoodIn wsL_law wsL_bound_r1 := goodIn_r _ [460, 831, 832, 833, 2, 834, 465, 466, 730, 692, 697, 698, 699, 700, 36, 701, 702, 703, 704, 705, 51, 731, 732, 733] (by decide +kernel) (by decide +kernel)
set_option maxRecDepth 20000 in
theorem zbL_law_L_bound_2 : GoodIn wsL_law wsL_bound_r2 := goodIn_r _ [734, 735, 30, 736, 737, 738, 29, 739, 740, 741, 742, 743, 744, 745, 746, 747, 748, 87, 88, 749, 750, 751, 752, 753] (by decide +kernel) (by decide +kernel)
set_option maxRecDepth 20000 in
theorem zbL_law_L_bound_3 : GoodIn wsL_law wsL_bound_r3 := goodIn_r _ [754, 755, 756, 757, 758, 759, 760, 761, 762, 89, 90, 763, 764, 765, 60, 766, 767, 768, 769, 770, 771, 772, 773, 774] (by decide +kernel) (by decide +kernel)
set_option maxRecDepth 20000 in
theorem zbL_law_L_bound_4 : GoodIn wsL_law wsL_bound_r4 := goodIn_r _ [775, 776, 777, 778, 779, 780, 781, 782, 783, 784, 236, 237, 785, 786, 91, 787, 788, 789, 790, 791, 792, 793, 794, 795] (by decide +kernel) (by decide +kernel)
set_option maxRecDepth 20000 in
theorem zbL_law_L_bound_5 : GoodIn wsL_law wsL_bound_r5 := goodIn_r _ [114, 796, 797, 798, 799, 800, 112, 801, 581, 802, 582, 803, 59, 61, 835, 836, 837, 838, 579, 580] (by decide +kernel) (by decide +kernel)
set_option maxRecDepth 20000 in
theorem ggL_law_L_bound : GoodIn wsL_law wsL_bound := (goodIn_ca (goodIn_ca (goodIn_ca (goodIn_ca (goodIn_ca (goodIn_ca (goodIn_cc zbL_law_L_bound_0 (goodIn_app zbL_law_L_bound_1 (goodIn_app zbL_law_L_bound_2 (goodIn_app zbL_law_L_bound_3 (goodIn_app zbL_law_L_bound_4 zbL_law_L_bound_5))))) (goodIn_sub inlX5 zgw_X5)) (goodIn_sub inlX11 zgw_X11)) (goodIn_sub inlX4 zgw_X4)) (goodIn_sub inlX2 zgw_X2)) (goodIn_sub inlX1 zgw_X1)) (goodIn_sub (fun _ h => List.mem_append_right _ h) (by decide +kernel)))
set_option maxRecDepth 20000 in
theorem gL_law_L_bound : GoodIn wsL_law (va_wsS RL 83 yL_bound wsL_bound) := goodIn_app (goodIn_of _ (by decide +kernel)) ggL_law_L_bound
set_option maxRecDepth 20000 in
theorem zbL_law_X12_bound_0 : GoodIn wsL_law [Cond.code yX12_bound cX12_bound 4 (some .int)] := goodIn_r _ [842] (by decide +kernel) (by decide +kernel)
set_option maxRecDepth 20000 in
theorem zbL_law_X12_bound_1 : GoodIn wsL_law wsX12_bound_r1 := goodIn_r _ [183, 808, 815, 814, 710, 711, 712, 5, 713, 148, 714, 715, 716, 717, 367, 478, 479, 480, 481, 809, 810, 811, 812, 813] (by decide +kernel) (by decide +kernel)
set_option maxRecDepth 20000 in
theorem zbL_law_X12_bound_2 : GoodIn wsL_law wsX12_bound_r2 := goodIn_r _ [157, 156, 816, 817, 818, 819, 152, 820, 821, 822, 823, 150, 151, 153, 154, 155, 677, 678, 679, 680, 145, 146, 669, 670] (by decide +kernel) (by decide +kernel)
set_option maxRecDepth 20000 in
theorem zbL_law_X12_bound_3 : GoodIn wsL_law wsX12_bound_r3 := goodIn_r _ [671, 672, 504, 505, 506, 507, 824, 825, 826, 827, 149] (by decide +kernel) (by decide +kernel)
set_option maxRecDepth 20000 in
theorem ggL_law_X12_bound : GoodIn wsL_law wsX12_bound := (goodIn_ca (goodIn_cc zbL_law_X12_bound_0 (goodIn_app zbL_law_X12_bound_1 (goodIn_app zbL_law_X12_bound_2 zbL_law_X12_bound_3))) (goodIn_sub inlX12 zgw_X12))
set_option maxRecDepth 20000 in
theorem gL_law_X12_bound : GoodIn wsL_law (wsV RL 86 RX12 yX12_bound wsX12_bound) := goodIn_app (goodIn_of _ (by decide +kernel)) ggL_law_X12_bound
set_option maxRecDepth 20000 in
theorem zbL_law_L_digit_0 : GoodIn wsL_law [Cond.codeWith yL_digit cL_digit 5 (some .int) [(0, 10, 13, 13)]] := goodIn_r _ [845] (by decide +kernel) (by decide +kernel)
set_option maxRecDepth 20000 in
theorem zbL_law_L_digit_1 : GoodIn wsL_law wsL_digit_r1 := goodIn_r _ [460, 846, 847, 848, 2, 849, 465, 466, 36, 850, 730, 851, 852, 702, 703, 704, 705, 51, 731, 732, 733, 734, 735, 30] (by decide +kernel) (by decide +kernel)
set_option maxRecDepth 20000 in
theorem zbL_law_L_digit_2 : GoodIn wsL_law wsL_digit_r2 := goodIn_r _ [736, 737, 738, 29, 739, 740, 741, 742, 743, 744, 745, 746, 747, 748, 87, 88, 749, 750, 751, 752, 753, 754, 755, 756] (by decide +kernel) (by decide +kernel)
set_option maxRecDepth 20000 in
theorem zbL_law_L_digit_3 : GoodIn wsL_law wsL_digit_r3 := goodIn_r _ [757, 758, 759, 760, 761, 762, 89, 90, 763, 764, 765, 60, 766, 767, 768, 769, 770, 771, 772, 773, 774, 775, 776, 777] (by decide +kernel) (by decide +kernel)
set_option maxRecDepth 20000 in
theorem zbL_law_L_digit_4 : GoodIn wsL_law wsL_digit_r4 := goodIn_r _ [778, 779, 780, 781, 782, 783, 784, 236, 237, 785, 786, 91, 787, 788, 789, 790, 791, 792, 793, 794, 795, 114, 796, 797] (by decide +kernel) (by decide +kernel)
set_option maxRecDepth 20000 in
theorem zbL_law_L_digit_5 : GoodIn wsL_law wsL_digit_r5 := goodIn_r _ [798, 799, 800, 112, 801, 581, 802, 582, 803, 59, 61] (by decide +kernel) (by decide +kernel)
set_option maxRecDepth 20000 in
theorem ggL_law_L_digit : GoodIn wsL_law wsL_digit := (goodIn_ca (goodIn_ca (goodIn_ca (goodIn_ca (goodIn_ca (goodIn_ca (goodIn_cc zbL_law_L_digit_0 (goodIn_app zbL_law_L_digit_1 (goodIn_app zbL_law_L_digit_2 (goodIn_app zbL_law_L_digit_3 (goodIn_app zbL_law_L_digit_4 zbL_law_L_digit_5))))) (goodIn_sub inlX11 zgw_X11)) (goodIn_sub inlX5 zgw_X5)) (goodIn_sub inlX1 zgw_X1)) (goodIn_sub inlX4 zgw_X4)) (goodIn_sub inlX2 zgw_X2)) (goodIn_sub (fun _ h => List.mem_append_right _ h) (by decide +kernel)))
set_option maxRecDepth 20000 in
theorem gL_law_L_digit : GoodIn wsL_law (va_wsS RL 87 yL_digit wsL_digit) := goodIn_app (goodIn_of _ (by decide +kernel)) ggL_law_L_digit
set_option maxRecDepth 20000 in
theorem zbL_law_X12_digit_0 : GoodIn wsL_law [Cond.code yX12_digit cX12_digit 3 (some .int)] := goodIn_r _ [856] (by decide +kernel) (by decide +kernel)
set_option maxRecDepth 20000 in
theorem zbL_law_X12_digit_1 : GoodIn wsL_law wsX12_digit_r1 := goodIn_r _ [152, 183, 808, 813, 714, 715, 716, 5, 717, 367, 478, 479, 480, 481, 809, 810, 811, 812, 157, 814, 815, 156, 816, 817] (by decide +kernel) (by decide +kernel)
set_option maxRecDepth 20000 in
theorem zbL_law_X12_digit_2 : GoodIn wsL_law wsX12_digit_r2 := goodIn_r _ [818, 819, 820, 821, 822, 823, 148, 150, 151, 153, 154, 155, 677, 678, 679, 680, 145, 146, 669, 670, 671, 672, 504, 505] (by decide +kernel) (by decide +kernel)
set_option maxRecDepth 20000 in
theorem zbL_law_X12_digit_3 : GoodIn wsL_law wsX12_digit_r3 := goodIn_r _ [506, 507, 824, 825, 826, 827, 149] (by decide +kernel) (by decide +kernel)
set_option maxRecDepth 20000 in
theorem ggL_law_X12_digit : GoodIn wsL_law wsX12_digit := (goodIn_ca (goodIn_cc zbL_law_X12_digit_0 (goodIn_app zbL_law_X12_digit_1 (goodIn_app zbL_law_X12_digit_2 zbL_law_X12_digit_3))) (goodIn_sub inlX12 zgw_X12))
set_option maxRecDepth 20000 in
theorem gL_law_X12_digit : GoodIn wsL_law (wsV RL 89 RX12 yX12_digit wsX12_digit) := goodIn_app (goodIn_of _ (by decide +kernel)) ggL_law_X12_digit
set_option maxRecDepth 20000 in
theorem zbL_law_X11_wrong_0 : GoodIn wsL_law [Cond.code yX11_wrong cX11_wrong 2 (some .int)] := goodIn_r _ [860] (by decide +kernel) (by decide +kernel)
set_option maxRecDepth 20000 in
theorem zbL_law_X11_wrong_1 : GoodIn wsL_law wsX11_wrong_r1 := goodIn_r _ [861, 702, 703, 704, 2, 705, 51, 731, 732, 733, 734, 36, 735, 30, 736, 737, 738, 29, 739, 740, 741, 742, 743, 744] (by decide +kernel) (by decide +kernel)
set_option maxRecDepth 20000 in
theorem zbL_law_X11_wrong_2 : GoodIn wsL_law wsX11_wrong_r2 := goodIn_r _ [745, 746, 747, 748, 87, 88, 749, 750, 751, 752, 753, 754, 755, 756, 757, 758, 759, 760, 761, 762, 89, 90, 763, 764] (by decide +kernel) (by decide +kernel)
set_option maxRecDepth 20000 in
theorem zbL_law_X11_wrong_3 : GoodIn wsL_law wsX11_wrong_r3 := goodIn_r _ [765, 60, 766, 767, 768, 769, 770, 771, 772, 773, 774, 775, 776, 777, 778, 779, 780, 781, 782, 783, 784, 236, 237, 785] (by decide +kernel) (by decide +kernel)
set_option maxRecDepth 20000 in
theorem zbL_law_X11_wrong_4 : GoodIn wsL_law wsX11_wrong_r4 := goodIn_r _ [786, 91, 787, 788, 789, 790, 791, 792, 793, 794, 795, 114, 796, 797, 798, 799, 800, 112, 801, 581, 802, 582, 803, 59] (by decide +kernel) (by decide +kernel)
set_option maxRecDepth 20000 in
theorem zbL_law_X11_wrong_5 : GoodIn wsL_law wsX11_wrong_r5 := goodIn_r _ [61] (by decide +kernel) (by decide +kernel)
set_option maxRecDepth 20000 in
theorem ggL_law_X11_wrong : GoodIn wsL_law wsX11_wrong := (goodIn_ca (goodIn_ca (goodIn_ca (goodIn_ca (goodIn_ca (goodIn_cc zbL_law_X11_wrong_0 (goodIn_app zbL_law_X11_wrong_1 (goodIn_app zbL_law_X11_wrong_2 (goodIn_app zbL_law_X11_wrong_3 (goodIn_app zbL_law_X11_wrong_4 zbL_law_X11_wrong_5))))) (goodIn_sub inlX5 zgw_X5)) (goodIn_sub inlX11 zgw_X11)) (goodIn_sub inlX4 zgw_X4)) (goodIn_sub inlX2 zgw_X2)) (goodIn_sub inlX1 zgw_X1))
set_option maxRecDepth 20000 in
theorem gL_law_X11_wrong : GoodIn wsL_law (wsV RL 90 RX11 yX11_wrong wsX11_wrong) := goodIn_app (goodIn_of _ (by decide +kernel)) ggL_law_X11_wrong
set_option maxRecDepth 20000 in
theorem zbL_law_X12_wrong_0 : GoodIn wsL_law [Cond.code yX12_wrong cX12_wrong 5 (some .int)] := goodIn_r _ [865] (by decide +kernel) (by decide +kernel)
set_option maxRecDepth 20000 in
theorem zbL_law_X12_wrong_1 : GoodIn wsL_law wsX12_wrong_r1 := goodIn_r _ [183, 714, 715, 716, 5, 717, 367, 816, 817, 818, 819, 152, 820, 821, 822, 823, 156, 148, 150, 157, 151, 153, 154, 155] (by decide +kernel) (by decide +kernel)
set_option maxRecDepth 20000 in
theorem zbL_law_X12_wrong_2 : GoodIn wsL_law wsX12_wrong_r2 := goodIn_r _ [677, 678, 679, 680, 145, 146, 669, 670, 671, 672, 504, 505, 506, 507, 824, 825, 826, 827, 149] (by decide +kernel) (by decide +kernel)
set_option maxRecDepth 20000 in
theorem ggL_law_X12_wrong : GoodIn wsL_law wsX12_wrong := (goodIn_ca (goodIn_cc zbL_law_X12_wrong_0 (goodIn_app zbL_law_X12_wrong_1 zbL_law_X12_wrong_2)) (goodIn_sub inlX12 zgw_X12))
set_option maxRecDepth 20000 in
theorem gL_law_X12_wrong : GoodIn wsL_law (wsV RL 93 RX12 yX12_wrong wsX12_wrong) := goodIn_app (goodIn_of _ (by decide +kernel)) ggL_law_X12_wrong
set_option maxRecDepth 20000 in
theorem zbL_law_X11_fragment_0 : GoodIn wsL_law [Cond.code yX11_fragment cX11_fragment 4 (some .int)] := goodIn_r _ [869] (by decide +kernel) (by decide +kernel)
set_option maxRecDepth 20000 in
theorem zbL_law_X11_fragment_1 : GoodIn wsL_law wsX11_fragment_r1 := goodIn_r _ [52, 16, 170, 41, 870, 871, 2, 872, 873, 874, 875, 876, 50, 877, 134, 878, 879, 880, 881, 882, 349, 350, 15, 351] (by decide +kernel) (by decide +kernel)
set_option maxRecDepth 20000 in
theorem zbL_law_X11_fragment_2 : GoodIn wsL_law wsX11_fragment_r2 := goodIn_r _ [64, 883, 241, 242, 243, 63, 884, 176, 177, 178, 348] (by decide +kernel) (by decide +kernel)
set_option maxRecDepth 20000 in
theorem ggL_law_X11_fragment : GoodIn wsL_law wsX11_fragment := (goodIn_ca (goodIn_ca (goodIn_ca (goodIn_cc zbL_law_X11_fragment_0 (goodIn_app zbL_law_X11_fragment_1 zbL_law_X11_fragment_2)) (goodIn_sub inlX11 zgw_X11)) (goodIn_sub inlX7 zgw_X7)) (goodIn_sub inlX0 zgw_X0))
set_option maxRecDepth 20000 in
theorem gL_law_X11_fragment : GoodIn wsL_law (wsV RL 94 RX11 yX11_fragment wsX11_fragment) := goodIn_app (goodIn_of _ (by decide +kernel)) ggL_law_X11_fragment
set_option maxRecDepth 20000 in
theorem zbL_law_X12_fragment : GoodIn wsL_law (Cond.code yX12_fragment cX12_fragment 6 (some .int) :: [.fieldLink RX12 86 "ClayAccountsModel" "thrown" "I", .fieldLink RX12 90 "ClayAccountsModel" "taped" "I", .fieldLink RX12 289 "ClayAccountsModel" "fragments" "I", .fieldLink RX12 74 "ClayAccountsModel" "rowMany" "[I", .fieldLink RX12 62 "ClayAccountsModel" "letters" "[I", .fieldLink RX12 7 "ClayAccountsModel" "tape" "[I", .fieldLink RX12 65 "ClayAccountsModel" "fragmentLong" "[I", .fieldLink RX12 68 "ClayAccountsModel" "leftEdge" "[I", .fieldLink RX12 71 "ClayAccountsModel" "rightEdge" "[I", .methodLink RX12 292 yX12_isEdge, .static yX12_isEdge, .initialized RX12, .code yX12_isEdge cX12_isEdge 1 (some .boolean), .constant RX12 288 (99999999)]) := goodIn_r _ [888, 183, 184, 889, 162, 158, 141, 159, 160, 161, 890, 891, 5, 892, 893] (by decide +kernel) (by decide +kernel)
set_option maxRecDepth 20000 in
theorem ggL_law_X12_fragment : GoodIn wsL_law wsX12_fragment := (goodIn_ca zbL_law_X12_fragment (goodIn_sub inlX12 zgw_X12))
set_option maxRecDepth 20000 in
theorem gL_law_X12_fragment : GoodIn wsL_law (wsV RL 97 RX12 yX12_fragment wsX12_fragment) := goodIn_app (goodIn_of _ (by decide +kernel)) ggL_law_X12_fragment
set_option maxRecDepth 20000 in
theorem zbL_law_X11_rows : GoodIn wsL_law (Cond.code yX11_rows cX11_rows 2 (some .int) :: [.fieldLink RX11 65 "ClayAccounts" "fragments" "[LClayAccounts$Fragment;", .fieldLink RX11 236 "ClayAccounts$Fragment" "rowCount" "I", .methodLink RX11 233 yX11_isFragment, .instanceMethod yX11_isFragment, .selects RX11 yX11_isFragment yX11_isFragment, .initialized RX11, .code yX11_isFragment cX11_isFragment 2 (some .boolean), .fieldLink RX11 94 "ClayAccounts" "fragmentCount" "I"]) := goodIn_r _ [897, 41, 898, 899, 900, 901, 2, 902, 52] (by decide +kernel) (by decide +kernel)
set_option maxRecDepth 20000 in
theorem ggL_law_X11_rows : GoodIn wsL_law wsX11_rows := (goodIn_ca (goodIn_ca zbL_law_X11_rows (goodIn_sub inlX11 zgw_X11)) (goodIn_sub inlX0 zgw_X0))
set_option maxRecDepth 20000 in
theorem gL_law_X11_rows : GoodIn wsL_law (wsV RL 98 RX11 yX11_rows wsX11_rows) := goodIn_app (goodIn_of _ (by decide +kernel)) ggL_law_X11_rows
set_option maxRecDepth 20000 in
theorem zbL_law_X12_rows : GoodIn wsL_law (Cond.code yX12_rows cX12_rows 2 (some .int) :: [.fieldLink RX12 86 "ClayAccountsModel" "thrown" "I", .fieldLink RX12 74 "ClayAccountsModel" "rowMany" "[I", .methodLink RX12 295 yX12_isFragment, .instanceMethod yX12_isFragment, .selects RX12 yX12_isFragment yX12_isFragment, .initialized RX12, .code yX12_isFragment cX12_isFragment 2 (some .boolean), .fieldLink RX12 289 "ClayAccountsModel" "fragments" "I"]) := goodIn_r _ [906, 183, 162, 907, 908, 909, 5, 910, 889] (by decide +kernel) (by decide +kernel)
set_option maxRecDepth 20000 in
theorem ggL_law_X12_rows : GoodIn wsL_law wsX12_rows := (goodIn_ca zbL_law_X12_rows (goodIn_sub inlX12 zgw_X12))
set_option maxRecDepth 20000 in
theorem gL_law_X12_rows : GoodIn wsL_law (wsV RL 101 RX12 yX12_rows wsX12_rows) := goodIn_app (goodIn_of _ (by decide +kernel)) ggL_law_X12_rows
set_option maxRecDepth 20000 in
theorem zbL_law_X11_join_0 : GoodIn wsL_law [Cond.code yX11_join cX11_join 3 (some .int)] := goodIn_r _ [914] (by decide +kernel) (by decide +kernel)
set_option maxRecDepth 20000 in
theorem zbL_law_X11_join_1 : GoodIn wsL_law wsX11_join_r1 := goodIn_r _ [899, 900, 901, 2, 902, 52, 915, 916, 917, 918, 43, 41, 18, 26, 47, 39, 30, 730, 919, 920, 921, 50, 922, 881] (by decide +kernel) (by decide +kernel)
set_option maxRecDepth 20000 in
theorem zbL_law_X11_join_2 : GoodIn wsL_law wsX11_join_r2 := goodIn_r _ [880, 923, 878, 924, 925, 926, 927, 882, 349, 350, 15, 351, 64, 928, 929, 930, 931, 134, 879, 883, 241, 242, 243, 63] (by decide +kernel) (by decide +kernel)
set_option maxRecDepth 20000 in
theorem zbL_law_X11_join_3 : GoodIn wsL_law wsX11_join_r3 := goodIn_r _ [884, 176, 177, 178, 533, 534, 535, 25, 536, 82, 537, 538, 539, 540, 541, 542, 38, 543, 544, 545, 546, 547, 548, 549] (by decide +kernel) (by decide +kernel)
set_option maxRecDepth 20000 in
theorem zbL_law_X11_join_4 : GoodIn wsL_law wsX11_join_r4 := goodIn_r _ [222, 223, 70, 224, 76, 225, 226, 227, 228, 229, 550, 231, 232, 233, 234, 235, 236, 60, 237, 238, 239, 240, 244, 245] (by decide +kernel) (by decide +kernel)
set_option maxRecDepth 20000 in
theorem zbL_law_X11_join_5 : GoodIn wsL_law wsX11_join_r5 := goodIn_r _ [246, 247, 248, 249, 250, 251, 252, 253, 254, 255, 256, 257, 258, 259, 260, 261, 262, 263, 264, 265, 266, 267, 268, 269] (by decide +kernel) (by decide +kernel)
set_option maxRecDepth 20000 in
theorem zbL_law_X11_join_6 : GoodIn wsL_law wsX11_join_r6 := goodIn_r _ [270, 271, 272, 273, 274, 275, 551, 277, 278, 279, 280, 281, 282, 283, 552, 553, 554, 555, 556, 557, 558, 559, 560, 561] (by decide +kernel) (by decide +kernel)
set_option maxRecDepth 20000 in
theorem zbL_law_X11_join_7 : GoodIn wsL_law wsX11_join_r7 := goodIn_r _ [562, 563, 564, 565, 566, 567, 568, 569, 570, 571, 108, 572, 573, 574, 575, 112, 576, 577, 578, 579, 580, 581, 582, 583] (by decide +kernel) (by decide +kernel)
set_option maxRecDepth 20000 in
theorem zbL_law_X11_join_8 : GoodIn wsL_law wsX11_join_r8 := goodIn_r _ [584, 585, 586, 587, 588, 589, 590, 591, 592, 593, 295, 296, 297, 594, 595, 596, 597, 598, 599, 600, 601, 313, 314, 46] (by decide +kernel) (by decide +kernel)
set_option maxRecDepth 20000 in
theorem zbL_law_X11_join_9 : GoodIn wsL_law wsX11_join_r9 := goodIn_r _ [315, 126, 602, 603, 604, 605, 606, 607, 608, 609, 610, 611, 612, 613, 614, 615, 616, 617, 618, 619, 620, 621, 622, 623] (by decide +kernel) (by decide +kernel)
set_option maxRecDepth 20000 in
theorem zbL_law_X11_join_10 : GoodIn wsL_law wsX11_join_r10 := goodIn_r _ [624, 625, 626, 627, 628, 629, 630, 110, 631, 632, 633, 634, 635, 636, 637, 638, 114, 639, 640, 641, 642, 643, 644, 645] (by decide +kernel) (by decide +kernel)
set_option maxRecDepth 20000 in
theorem zbL_law_X11_join_11 : GoodIn wsL_law wsX11_join_r11 := goodIn_r _ [646, 647, 648, 649, 650, 736, 737, 738, 29, 739, 740, 741, 742, 743, 744, 745, 746, 747, 748, 87, 88, 749, 750, 751] (by decide +kernel) (by decide +kernel)
set_option maxRecDepth 20000 in
theorem zbL_law_X11_join_12 : GoodIn wsL_law wsX11_join_r12 := goodIn_r _ [752, 753, 754, 755, 756, 757, 758, 759, 760, 761, 762, 89, 90, 763, 764, 765, 766, 767, 768, 769, 770, 771, 772, 773] (by decide +kernel) (by decide +kernel)
set_option maxRecDepth 20000 in
theorem zbL_law_X11_join_13 : GoodIn wsL_law wsX11_join_r13 := goodIn_r _ [774, 775, 776, 777, 778, 779, 780, 781, 782, 783, 784, 785, 786, 91, 787, 788, 789, 790, 791, 792, 793, 794, 795, 796] (by decide +kernel) (by decide +kernel)
set_option maxRecDepth 20000 in
theorem zbL_law_X11_join_14 : GoodIn wsL_law wsX11_join_r14 := goodIn_r _ [797, 798, 799, 800, 801, 802, 803, 59, 61] (by decide +kernel) (by decide +kernel)
set_option maxRecDepth 20000 in
theorem ggL_law_X11_join : GoodIn wsL_law wsX11_join := (goodIn_ca (goodIn_ca (goodIn_ca (goodIn_ca (goodIn_ca (goodIn_ca (goodIn_ca (goodIn_ca (goodIn_ca (goodIn_ca (goodIn_cc zbL_law_X11_join_0 (goodIn_app zbL_law_X11_join_1 (goodIn_app zbL_law_X11_join_2 (goodIn_app zbL_law_X11_join_3 (goodIn_app zbL_law_X11_join_4 (goodIn_app zbL_law_X11_join_5 (goodIn_app zbL_law_X11_join_6 (goodIn_app zbL_law_X11_join_7 (goodIn_app zbL_law_X11_join_8 (goodIn_app zbL_law_X11_join_9 (goodIn_app zbL_law_X11_join_10 (goodIn_app zbL_law_X11_join_11 (goodIn_app zbL_law_X11_join_12 (goodIn_app zbL_law_X11_join_13 zbL_law_X11_join_14)))))))))))))) (goodIn_sub inlX11 zgw_X11)) (goodIn_sub inlX5 zgw_X5)) (goodIn_sub inlX0 zgw_X0)) (goodIn_sub inlX7 zgw_X7)) (goodIn_sub inlX6 zgw_X6)) (goodIn_sub inlX8 zgw_X8)) (goodIn_sub inlX2 zgw_X2)) (goodIn_sub inlX9 zgw_X9)) (goodIn_sub inlX1 zgw_X1)) (goodIn_sub inlX4 zgw_X4))
set_option maxRecDepth 20000 in
theorem gL_law_X11_join : GoodIn wsL_law (wsV RL 102 RX11 yX11_join wsX11_join) := goodIn_app (goodIn_of _ (by decide +kernel)) ggL_law_X11_join
set_option maxRecDepth 20000 in
theorem zbL_law_X12_join_0 : GoodIn wsL_law [Cond.code yX12_join cX12_join 3 (some .int)] := goodIn_r _ [935] (by decide +kernel) (by decide +kernel)
set_option maxRecDepth 20000 in
theorem zbL_law_X12_join_1 : GoodIn wsL_law wsX12_join_r1 := goodIn_r _ [183, 907, 908, 909, 5, 910, 889, 936, 937, 938, 939, 161, 160, 893, 162, 366, 372, 362, 364, 808, 940, 941, 942, 943] (by decide +kernel) (by decide +kernel)
set_option maxRecDepth 20000 in
theorem zbL_law_X12_join_2 : GoodIn wsL_law wsX12_join_r2 := goodIn_r _ [159, 158, 944, 945, 946, 947, 142, 373, 374, 375, 376, 377, 378, 379, 380, 381, 382, 383, 384, 365, 385, 386, 387, 388] (by decide +kernel) (by decide +kernel)
set_option maxRecDepth 20000 in
theorem zbL_law_X12_join_3 : GoodIn wsL_law wsX12_join_r3 := goodIn_r _ [389, 390, 391, 392, 393, 394, 395, 396, 397, 398, 399, 400, 401, 402, 403, 404, 405, 406, 407, 655, 656, 657, 658, 148] (by decide +kernel) (by decide +kernel)
set_option maxRecDepth 20000 in
theorem zbL_law_X12_join_4 : GoodIn wsL_law wsX12_join_r4 := goodIn_r _ [152, 424, 425, 149, 151, 408, 409, 410, 411, 412, 413, 414, 415, 659, 660, 661, 662, 663, 664, 150, 155, 153, 154, 665] (by decide +kernel) (by decide +kernel)
set_option maxRecDepth 20000 in
theorem zbL_law_X12_join_5 : GoodIn wsL_law wsX12_join_r5 := goodIn_r _ [666, 667, 668, 669, 670, 671, 672, 420, 421, 422, 423, 363, 673, 674, 675, 676, 145, 144, 677, 678, 679, 680, 146, 681] (by decide +kernel) (by decide +kernel)
set_option maxRecDepth 20000 in
theorem zbL_law_X12_join_6 : GoodIn wsL_law wsX12_join_r6 := goodIn_r _ [682, 683, 684, 430, 431, 432, 433, 809, 810, 811, 812, 813, 157, 814, 815, 156, 816, 817, 818, 819, 820, 821, 822, 823] (by decide +kernel) (by decide +kernel)
set_option maxRecDepth 20000 in
theorem zbL_law_X12_join_7 : GoodIn wsL_law wsX12_join_r7 := goodIn_r _ [504, 505, 506, 507, 824, 825, 826, 827] (by decide +kernel) (by decide +kernel)
set_option maxRecDepth 20000 in
theorem ggL_law_X12_join : GoodIn wsL_law wsX12_join := (goodIn_ca (goodIn_cc zbL_law_X12_join_0 (goodIn_app zbL_law_X12_join_1 (goodIn_app zbL_law_X12_join_2 (goodIn_app zbL_law_X12_join_3 (goodIn_app zbL_law_X12_join_4 (goodIn_app zbL_law_X12_join_5 (goodIn_app zbL_law_X12_join_6 zbL_law_X12_join_7))))))) (goodIn_sub inlX12 zgw_X12))
set_option maxRecDepth 20000 in
theorem gL_law_X12_join : GoodIn wsL_law (wsV RL 105 RX12 yX12_join wsX12_join) := goodIn_app (goodIn_of _ (by decide +kernel)) ggL_law_X12_join
set_option maxRecDepth 20000 in
theorem zbL_law_X11_match_0 : GoodIn wsL_law [Cond.code yX11_match cX11_match 3 (some .int)] := goodIn_r _ [951] (by decide +kernel) (by decide +kernel)
set_option maxRecDepth 20000 in
theorem zbL_law_X11_match_1 : GoodIn wsL_law wsX11_match_r1 := goodIn_r _ [52, 34, 952, 59, 60, 61, 953, 915, 916, 917, 2, 918, 43, 41, 18, 26, 47, 39, 30, 730, 919, 920, 921, 50] (by decide +kernel) (by decide +kernel)
set_option maxRecDepth 20000 in
theorem zbL_law_X11_match_2 : GoodIn wsL_law wsX11_match_r2 := goodIn_r _ [922, 881, 880, 923, 878, 924, 925, 926, 927, 882, 349, 350, 15, 351, 64, 928, 929, 930, 931, 134, 879, 883, 241, 242] (by decide +kernel) (by decide +kernel)
set_option maxRecDepth 20000 in
theorem zbL_law_X11_match_3 : GoodIn wsL_law wsX11_match_r3 := goodIn_r _ [243, 63, 884, 176, 177, 178, 533, 534, 535, 25, 536, 82, 537, 538, 539, 540, 541, 542, 38, 543, 544, 545, 546, 547] (by decide +kernel) (by decide +kernel)
set_option maxRecDepth 20000 in
theorem zbL_law_X11_match_4 : GoodIn wsL_law wsX11_match_r4 := goodIn_r _ [548, 549, 222, 223, 70, 224, 76, 225, 226, 227, 228, 229, 550, 231, 232, 233, 234, 235, 236, 237, 238, 239, 240, 244] (by decide +kernel) (by decide +kernel)
set_option maxRecDepth 20000 in
theorem zbL_law_X11_match_5 : GoodIn wsL_law wsX11_match_r5 := goodIn_r _ [245, 246, 247, 248, 249, 250, 251, 252, 253, 254, 255, 256, 257, 258, 259, 260, 261, 262, 263, 264, 265, 266, 267, 268] (by decide +kernel) (by decide +kernel)
set_option maxRecDepth 20000 in
theorem zbL_law_X11_match_6 : GoodIn wsL_law wsX11_match_r6 := goodIn_r _ [269, 270, 271, 272, 273, 274, 275, 551, 277, 278, 279, 280, 281, 282, 283, 552, 553, 554, 555, 556, 557, 558, 559, 560] (by decide +kernel) (by decide +kernel)
set_option maxRecDepth 20000 in
theorem zbL_law_X11_match_7 : GoodIn wsL_law wsX11_match_r7 := goodIn_r _ [561, 562, 563, 564, 565, 566, 567, 568, 569, 570, 571, 108, 572, 573, 574, 575, 112, 576, 577, 578, 579, 580, 581, 582] (by decide +kernel) (by decide +kernel)
set_option maxRecDepth 20000 in
theorem zbL_law_X11_match_8 : GoodIn wsL_law wsX11_match_r8 := goodIn_r _ [583, 584, 585, 586, 587, 588, 589, 590, 591, 592, 593, 295, 296, 297, 594, 595, 596, 597, 598, 599, 600, 601, 313, 314] (by decide +kernel) (by decide +kernel)
set_option maxRecDepth 20000 in
theorem zbL_law_X11_match_9 : GoodIn wsL_law wsX11_match_r9 := goodIn_r _ [46, 315, 126, 602, 603, 604, 605, 606, 607, 608, 609, 610, 611, 612, 613, 614, 615, 616, 617, 618, 619, 620, 621, 622] (by decide +kernel) (by decide +kernel)
set_option maxRecDepth 20000 in
theorem zbL_law_X11_match_10 : GoodIn wsL_law wsX11_match_r10 := goodIn_r _ [623, 624, 625, 626, 627, 628, 629, 630, 110, 631, 632, 633, 634, 635, 636, 637, 638, 114, 639, 640, 641, 642, 643, 644] (by decide +kernel) (by decide +kernel)
set_option maxRecDepth 20000 in
theorem zbL_law_X11_match_11 : GoodIn wsL_law wsX11_match_r11 := goodIn_r _ [645, 646, 647, 648, 649, 650, 736, 737, 738, 29, 739, 740, 741, 742, 743, 744, 745, 746, 747, 748, 87, 88, 749, 750] (by decide +kernel) (by decide +kernel)
set_option maxRecDepth 20000 in
theorem zbL_law_X11_match_12 : GoodIn wsL_law wsX11_match_r12 := goodIn_r _ [751, 752, 753, 754, 755, 756, 757, 758, 759, 760, 761, 762, 89, 90, 763, 764, 765, 766, 767, 768, 769, 770, 771, 772] (by decide +kernel) (by decide +kernel)
set_option maxRecDepth 20000 in
theorem zbL_law_X11_match_13 : GoodIn wsL_law wsX11_match_r13 := goodIn_r _ [773, 774, 775, 776, 777, 778, 779, 780, 781, 782, 783, 784, 785, 786, 91, 787, 788, 789, 790, 791, 792, 793, 794, 795] (by decide +kernel) (by decide +kernel)
set_option maxRecDepth 20000 in
theorem zbL_law_X11_match_14 : GoodIn wsL_law wsX11_match_r14 := goodIn_r _ [796, 797, 798, 799, 800, 801, 802, 803, 954, 955, 956, 33, 957, 97, 958, 959, 960, 961, 962, 98, 963, 353, 354, 355] (by decide +kernel) (by decide +kernel)
set_option maxRecDepth 20000 in
theorem zbL_law_X11_match_15 : GoodIn wsL_law wsX11_match_r15 := goodIn_r _ [96, 356, 357, 99, 100, 101, 102, 964, 965, 966, 967, 968, 969, 970, 971, 972] (by decide +kernel) (by decide +kernel)
set_option maxRecDepth 20000 in
theorem ggL_law_X11_match : GoodIn wsL_law wsX11_match := (goodIn_ca (goodIn_ca (goodIn_ca (goodIn_ca (goodIn_ca (goodIn_ca (goodIn_ca (goodIn_ca (goodIn_ca (goodIn_ca (goodIn_ca (goodIn_cc zbL_law_X11_match_0 (goodIn_app zbL_law_X11_match_1 (goodIn_app zbL_law_X11_match_2 (goodIn_app zbL_law_X11_match_3 (goodIn_app zbL_law_X11_match_4 (goodIn_app zbL_law_X11_match_5 (goodIn_app zbL_law_X11_match_6 (goodIn_app zbL_law_X11_match_7 (goodIn_app zbL_law_X11_match_8 (goodIn_app zbL_law_X11_match_9 (goodIn_app zbL_law_X11_match_10 (goodIn_app zbL_law_X11_match_11 (goodIn_app zbL_law_X11_match_12 (goodIn_app zbL_law_X11_match_13 (goodIn_app zbL_law_X11_match_14 zbL_law_X11_match_15))))))))))))))) (goodIn_sub inlX11 zgw_X11)) (goodIn_sub inlX3 zgw_X3)) (goodIn_sub inlX5 zgw_X5)) (goodIn_sub inlX0 zgw_X0)) (goodIn_sub inlX7 zgw_X7)) (goodIn_sub inlX6 zgw_X6)) (goodIn_sub inlX8 zgw_X8)) (goodIn_sub inlX2 zgw_X2)) (goodIn_sub inlX9 zgw_X9)) (goodIn_sub inlX1 zgw_X1)) (goodIn_sub inlX4 zgw_X4))
set_option maxRecDepth 20000 in
theorem gL_law_X11_match : GoodIn wsL_law (wsV RL 106 RX11 yX11_match wsX11_match) := goodIn_app (goodIn_of _ (by decide +kernel)) ggL_law_X11_match
set_option maxRecDepth 20000 in
theorem zbL_law_X12_match_0 : GoodIn wsL_law [Cond.code yX12_match cX12_match 7 (some .int)] := goodIn_r _ [976] (by decide +kernel) (by decide +kernel)
set_option maxRecDepth 20000 in
theorem zbL_law_X12_match_1 : GoodIn wsL_law wsX12_match_r1 := goodIn_r _ [183, 889, 163, 164, 446, 447, 165, 936, 937, 938, 5, 939, 161, 160, 893, 162, 366, 372, 362, 364, 808, 940, 941, 942] (by decide +kernel) (by decide +kernel)
set_option maxRecDepth 20000 in
theorem zbL_law_X12_match_2 : GoodIn wsL_law wsX12_match_r2 := goodIn_r _ [943, 159, 158, 944, 945, 946, 947, 142, 373, 374, 375, 376, 377, 378, 379, 380, 381, 382, 383, 384, 365, 385, 386, 387] (by decide +kernel) (by decide +kernel)
set_option maxRecDepth 20000 in
theorem zbL_law_X12_match_3 : GoodIn wsL_law wsX12_match_r3 := goodIn_r _ [388, 389, 390, 391, 392, 393, 394, 395, 396, 397, 398, 399, 400, 401, 402, 403, 404, 405, 406, 407, 655, 656, 657, 658] (by decide +kernel) (by decide +kernel)
set_option maxRecDepth 20000 in
theorem zbL_law_X12_match_4 : GoodIn wsL_law wsX12_match_r4 := goodIn_r _ [148, 152, 424, 425, 149, 151, 408, 409, 410, 411, 412, 413, 414, 415, 659, 660, 661, 662, 663, 664, 150, 155, 153, 154] (by decide +kernel) (by decide +kernel)
set_option maxRecDepth 20000 in
theorem zbL_law_X12_match_5 : GoodIn wsL_law wsX12_match_r5 := goodIn_r _ [665, 666, 667, 668, 669, 670, 671, 672, 420, 421, 422, 423, 363, 673, 674, 675, 676, 145, 144, 677, 678, 679, 680, 146] (by decide +kernel) (by decide +kernel)
set_option maxRecDepth 20000 in
theorem zbL_law_X12_match_6 : GoodIn wsL_law wsX12_match_r6 := goodIn_r _ [681, 682, 683, 684, 430, 431, 432, 433, 809, 810, 811, 812, 813, 157, 814, 815, 156, 816, 817, 818, 819, 820, 821, 822] (by decide +kernel) (by decide +kernel)
set_option maxRecDepth 20000 in
theorem zbL_law_X12_match_7 : GoodIn wsL_law wsX12_match_r7 := goodIn_r _ [823, 504, 505, 506, 507, 824, 825, 826, 827, 977, 978, 979] (by decide +kernel) (by decide +kernel)
set_option maxRecDepth 20000 in
theorem ggL_law_X12_match : GoodIn wsL_law wsX12_match := (goodIn_ca (goodIn_cc zbL_law_X12_match_0 (goodIn_app zbL_law_X12_match_1 (goodIn_app zbL_law_X12_match_2 (goodIn_app zbL_law_X12_match_3 (goodIn_app zbL_law_X12_match_4 (goodIn_app zbL_law_X12_match_5 (goodIn_app zbL_law_X12_match_6 zbL_law_X12_match_7))))))) (goodIn_sub inlX12 zgw_X12))
set_option maxRecDepth 20000 in
theorem gL_law_X12_match : GoodIn wsL_law (wsV RL 109 RX12 yX12_match wsX12_match) := goodIn_app (goodIn_of _ (by decide +kernel)) ggL_law_X12_match
set_option maxRecDepth 20000 in
theorem zbL_law_X11_matched : GoodIn wsL_law (Cond.code yX11_matched cX11_matched 2 (some .int) :: [.fieldLink RX11 48 "ClayAccounts" "matcher" "LClayAccounts$Matcher;", .fieldLink RX11 257 "ClayAccounts$Matcher" "partners" "[I", .methodLink RX11 233 yX11_isFragment, .instanceMethod yX11_isFragment, .selects RX11 yX11_isFragment yX11_isFragment, .initialized RX11, .code yX11_isFragment cX11_isFragment 2 (some .boolean), .fieldLink RX11 94 "ClayAccounts" "fragmentCount" "I"]) := goodIn_r _ [983, 34, 984, 899, 900, 901, 2, 902, 52] (by decide +kernel) (by decide +kernel)
set_option maxRecDepth 20000 in
theorem ggL_law_X11_matched : GoodIn wsL_law wsX11_matched := (goodIn_ca (goodIn_ca zbL_law_X11_matched (goodIn_sub inlX11 zgw_X11)) (goodIn_sub inlX3 zgw_X3))
set_option maxRecDepth 20000 in
theorem gL_law_X11_matched : GoodIn wsL_law (wsV RL 110 RX11 yX11_matched wsX11_matched) := goodIn_app (goodIn_of _ (by decide +kernel)) ggL_law_X11_matched
set_option maxRecDepth 20000 in
theorem zbL_law_X12_matched : GoodIn wsL_law (Cond.code yX12_matched cX12_matched 2 (some .int) :: [.fieldLink RX12 86 "ClayAccountsModel" "thrown" "I", .fieldLink RX12 307 "ClayAccountsModel" "made" "Z", .fieldLink RX12 83 "ClayAccountsModel" "mate" "[I", .methodLink RX12 295 yX12_isFragment, .instanceMethod yX12_isFragment, .selects RX12 yX12_isFragment yX12_isFragment, .initialized RX12, .code yX12_isFragment cX12_isFragment 2 (some .boolean), .fieldLink RX12 289 "ClayAccountsModel" "fragments" "I"]) := goodIn_r _ [988, 183, 446, 165, 907, 908, 909, 5, 910, 889] (by decide +kernel) (by decide +kernel)
set_option maxRecDepth 20000 in
theorem ggL_law_X12_matched : GoodIn wsL_law wsX12_matched := (goodIn_ca zbL_law_X12_matched (goodIn_sub inlX12 zgw_X12))
set_option maxRecDepth 20000 in
theorem gL_law_X12_matched : GoodIn wsL_law (wsV RL 113 RX12 yX12_matched wsX12_matched) := goodIn_app (goodIn_of _ (by decide +kernel)) ggL_law_X12_matched
set_option maxRecDepth 20000 in
theorem zbL_law_X11_count : GoodIn wsL_law (Cond.code yX11_count cX11_count 2 (some .int) :: [.fieldLink RX11 76 "ClayAccounts" "units" "LClayAccounts$Units;", .fieldLink RX11 128 "ClayAccounts$Units" "systemCount" "I", .fieldLink RX11 90 "ClayAccounts" "tabletCount" "I", .fieldLink RX11 94 "ClayAccounts" "fragmentCount" "I", .fieldLink RX11 48 "ClayAccounts" "matcher" "LClayAccounts$Matcher;", .fieldLink RX11 260 "ClayAccounts$Matcher" "sureCount" "I", .fieldLink RX11 14 "ClayAccounts" "tape" "LClayAccounts$Text;", .fieldLink RX11 100 "ClayAccounts$Text" "size" "I", .fieldLink RX11 18 "ClayAccounts" "out" "LClayAccounts$Text;"]) := goodIn_r _ [992, 47, 204, 51, 52, 34, 993, 16, 170, 17] (by decide +kernel) (by decide +kernel)
set_option maxRecDepth 20000 in
theorem ggL_law_X11_count : GoodIn wsL_law wsX11_count := (goodIn_ca (goodIn_ca (goodIn_ca (goodIn_ca zbL_law_X11_count (goodIn_sub inlX11 zgw_X11)) (goodIn_sub inlX9 zgw_X9)) (goodIn_sub inlX3 zgw_X3)) (goodIn_sub inlX7 zgw_X7))
set_option maxRecDepth 20000 in
theorem gL_law_X11_count : GoodIn wsL_law (wsV RL 114 RX11 yX11_count wsX11_count) := goodIn_app (goodIn_of _ (by decide +kernel)) ggL_law_X11_count
set_option maxRecDepth 20000 in
theorem zbL_law_X12_count : GoodIn wsL_law (Cond.code yX12_count cX12_count 2 (some .int) :: [.fieldLink RX12 86 "ClayAccountsModel" "thrown" "I", .fieldLink RX12 201 "ClayAccountsModel" "systems" "I", .fieldLink RX12 204 "ClayAccountsModel" "tablets" "I", .fieldLink RX12 289 "ClayAccountsModel" "fragments" "I", .fieldLink RX12 310 "ClayAccountsModel" "sure" "I", .fieldLink RX12 90 "ClayAccountsModel" "taped" "I", .fieldLink RX12 214 "ClayAccountsModel" "outs" "I"]) := goodIn_r _ [997, 183, 366, 367, 889, 447, 184, 503] (by decide +kernel) (by decide +kernel)
set_option maxRecDepth 20000 in
theorem ggL_law_X12_count : GoodIn wsL_law wsX12_count := (goodIn_ca zbL_law_X12_count (goodIn_sub inlX12 zgw_X12))
set_option maxRecDepth 20000 in
theorem gL_law_X12_count : GoodIn wsL_law (wsV RL 117 RX12 yX12_count wsX12_count) := goodIn_app (goodIn_of _ (by decide +kernel)) ggL_law_X12_count
