theorem in_L_system_X11 : ∀ w ∈ wsX110, w ∈ wsL_system := fun _ h => List.mem_cons_of_mem _ (List.mem_append_left _ (List.mem_append_left _ (List.mem_append_right _ h)))
theorem in_L_system_X9 : ∀ w ∈ wsX90, w ∈ wsL_system := fun _ h => List.mem_cons_of_mem _ (List.mem_append_left _ (List.mem_append_right _ h))
set_option maxRecDepth 20000 in
theorem zbL_system_X11_system : GoodIn wsL_system (Cond.code yX11_system cX11_system 3 (some .int) :: [.classLink RX11 135 "java/util/NoSuchElementException", .initialized "java/util/NoSuchElementException", .fieldLink RX11 76 "ClayAccounts" "units" "LClayAccounts$Units;", .fieldLink RX11 142 "ClayAccounts$Units" "unitCounts" "[I", .fieldLink RX11 145 "ClayAccounts$Units" "factors" "[I", .methodLink RX11 131 yX11_isSystem, .instanceMethod yX11_isSystem, .selects RX11 yX11_isSystem yX11_isSystem, .initialized RX11, .code yX11_isSystem cX11_isSystem 2 (some .boolean), .fieldLink RX11 128 "ClayAccounts$Units" "systemCount" "I", .methodLink RX11 148 yX9_slot, .static yX9_slot, .initialized RX9, .code yX9_slot cX9_slot 2 (some .int)]) := goodIn_r _ [6, 7, 8, 9, 10, 11, 12, 13, 14, 5, 15, 16, 17, 18, 19, 20] rfl (by decide +kernel)
set_option maxRecDepth 20000 in
theorem ggL_system_X11_system : GoodIn wsL_system wsX11_system := (goodIn_ca (goodIn_ca (goodIn_ca zbL_system_X11_system (goodIn_sub in_L_system_X11 zgw_X11)) (goodIn_sub in_L_system_X9 zgw_X9)) (goodIn_sub (fun _ h => List.mem_cons_of_mem _ (List.mem_append_right _ h)) (by decide +kernel)))
set_option maxRecDepth 20000 in
theorem gL_system_X11_system : GoodIn wsL_system (wsV RL 7 RX11 yX11_system wsX11_system) := goodIn_app (goodIn_of _ (by decide +kernel)) ggL_system_X11_system
theorem dL_system_0 : decode cL_system 0 = .ok (.aload_n 3, 1) := by decide +kernel
theorem dL_system_1 : decode cL_system 1 = .ok (.iconst 0, 1) := by decide +kernel
theorem dL_system_2 : decode cL_system 2 = .ok (.aload_n 0, 1) := by decide +kernel
theorem dL_system_3 : decode cL_system 3 = .ok (.iload_n 1, 1) := by decide +kernel
theorem dL_system_4 : decode cL_system 4 = .ok (.iload_n 2, 1) := by decide +kernel
theorem dL_system_5 : decode cL_system 5 = .ok (.invokevirtual 7, 3) := by decide +kernel
theorem dL_system_8 : decode cL_system 8 = .ok (.i2l, 1) := by decide +kernel
theorem dL_system_9 : decode cL_system 9 = .ok (.lastore, 1) := by decide +kernel
theorem dL_system_10 : decode cL_system 10 = .ok (.goto 7, 3) := by decide +kernel
theorem dL_system_13 : decode cL_system 13 = .ok (.astore 4, 2) := by decide +kernel
theorem dL_system_15 : decode cL_system 15 = .ok (.iconst 1, 1) := by decide +kernel
theorem dL_system_16 : decode cL_system 16 = .ok (.ireturn, 1) := by decide +kernel
theorem dL_system_17 : decode cL_system 17 = .ok (.iconst 0, 1) := by decide +kernel
theorem dL_system_18 : decode cL_system 18 = .ok (.ireturn, 1) := by decide +kernel
theorem in_L_octet_X11 : ∀ w ∈ wsX110, w ∈ wsL_octet := fun _ h => List.mem_cons_of_mem _ (List.mem_append_left _ (List.mem_append_left _ (List.mem_append_right _ h)))
theorem in_L_octet_X7 : ∀ w ∈ wsX70, w ∈ wsL_octet := fun _ h => List.mem_cons_of_mem _ (List.mem_append_left _ (List.mem_append_right _ h))
set_option maxRecDepth 20000 in
theorem zbL_octet_X11_octet : GoodIn wsL_octet (Cond.code yX11_octet cX11_octet 2 (some .int) :: [.classLink RX11 135 "java/util/NoSuchElementException", .initialized "java/util/NoSuchElementException", .fieldLink RX11 18 "ClayAccounts" "out" "LClayAccounts$Text;", .fieldLink RX11 100 "ClayAccounts$Text" "size" "I", .methodLink RX11 162 yX7_byteAt, .instanceMethod yX7_byteAt, .selects RX7 yX7_byteAt yX7_byteAt, .initialized RX7, .code yX7_byteAt cX7_byteAt 2 (some .int), .fieldLink RX7 21 "ClayAccounts$Text" "size" "I", .fieldLink RX7 15 "ClayAccounts$Text" "bytes" "[B"]) := goodIn_r _ [6, 7, 8, 9, 10, 11, 12, 13, 14, 15, 16, 17] rfl (by decide +kernel)
set_option maxRecDepth 20000 in
theorem ggL_octet_X11_octet : GoodIn wsL_octet wsX11_octet := (goodIn_ca (goodIn_ca (goodIn_ca zbL_octet_X11_octet (goodIn_sub in_L_octet_X11 zgw_X11)) (goodIn_sub in_L_octet_X7 zgw_X7)) (goodIn_sub (fun _ h => List.mem_cons_of_mem _ (List.mem_append_right _ h)) (by decide +kernel)))
set_option maxRecDepth 20000 in
theorem gL_octet_X11_octet : GoodIn wsL_octet (wsV RL 15 RX11 yX11_octet wsX11_octet) := goodIn_app (goodIn_of _ (by decide +kernel)) ggL_octet_X11_octet
theorem dL_octet_0 : decode cL_octet 0 = .ok (.aload_n 2, 1) := by decide +kernel
theorem dL_octet_1 : decode cL_octet 1 = .ok (.iconst 0, 1) := by decide +kernel
theorem dL_octet_2 : decode cL_octet 2 = .ok (.aload_n 0, 1) := by decide +kernel
theorem dL_octet_3 : decode cL_octet 3 = .ok (.iload_n 1, 1) := by decide +kernel
theorem dL_octet_4 : decode cL_octet 4 = .ok (.invokevirtual 15, 3) := by decide +kernel
theorem dL_octet_7 : decode cL_octet 7 = .ok (.i2l, 1) := by decide +kernel
theorem dL_octet_8 : decode cL_octet 8 = .ok (.lastore, 1) := by decide +kernel
theorem dL_octet_9 : decode cL_octet 9 = .ok (.goto 6, 3) := by decide +kernel
theorem dL_octet_12 : decode cL_octet 12 = .ok (.astore_n 3, 1) := by decide +kernel
theorem dL_octet_13 : decode cL_octet 13 = .ok (.iconst 1, 1) := by decide +kernel
theorem dL_octet_14 : decode cL_octet 14 = .ok (.ireturn, 1) := by decide +kernel
theorem dL_octet_15 : decode cL_octet 15 = .ok (.iconst 0, 1) := by decide +kernel
theorem dL_octet_16 : decode cL_octet 16 = .ok (.ireturn, 1) := by decide +kernel
theorem in_L_line_X11 : ∀ w ∈ wsX110, w ∈ wsL_line := fun _ h => List.mem_cons_of_mem _ (List.mem_append_left _ (List.mem_append_left _ (List.mem_append_left _ (List.mem_append_right _ h))))
theorem in_L_line_X2 : ∀ w ∈ wsX20, w ∈ wsL_line := fun _ h => List.mem_cons_of_mem _ (List.mem_append_left _ (List.mem_append_right _ h))
theorem in_L_line_X5 : ∀ w ∈ wsX50, w ∈ wsL_line := fun _ h => List.mem_cons_of_mem _ (List.mem_append_left _ (List.mem_append_left _ (List.mem_append_right _ h)))
set_option maxRecDepth 20000 in
theorem zbL_line_X11_line : GoodIn wsL_line (Cond.code yX11_line cX11_line 5 (some .int) :: [.classLink RX11 135 "java/util/NoSuchElementException", .initialized "java/util/NoSuchElementException", .fieldLink RX11 54 "ClayAccounts" "tablets" "[LClayAccounts$Tablet;", .fieldLink RX11 175 "ClayAccounts$Tablet" "lines" "[LClayAccounts$Line;", .fieldLink RX11 179 "ClayAccounts$Line" "kind" "I", .fieldLink RX11 184 "ClayAccounts$Line" "system" "I", .fieldLink RX11 187 "ClayAccounts$Line" "holeCount" "I", .fieldLink RX11 190 "ClayAccounts$Line" "value" "I", .methodLink RX11 170 yX11_isLine, .instanceMethod yX11_isLine, .selects RX11 yX11_isLine yX11_isLine, .initialized RX11, .code yX11_isLine cX11_isLine 3 (some .boolean), .fieldLink RX11 196 "ClayAccounts$Tablet" "lineCount" "I", .methodLink RX11 193 yX11_isTablet, .instanceMethod yX11_isTablet, .selects RX11 yX11_isTablet yX11_isTablet, .code yX11_isTablet cX11_isTablet 2 (some .boolean), .fieldLink RX11 90 "ClayAccounts" "tabletCount" "I"]) := goodIn_r _ [6, 7, 8, 9, 10, 11, 12, 13, 14, 15, 16, 17, 5, 18, 19, 20, 21, 22, 23, 24] rfl (by decide +kernel)
set_option maxRecDepth 20000 in
theorem ggL_line_X11_line : GoodIn wsL_line wsX11_line := (goodIn_ca (goodIn_ca (goodIn_ca (goodIn_ca zbL_line_X11_line (goodIn_sub in_L_line_X11 zgw_X11)) (goodIn_sub in_L_line_X5 zgw_X5)) (goodIn_sub in_L_line_X2 zgw_X2)) (goodIn_sub (fun _ h => List.mem_cons_of_mem _ (List.mem_append_right _ h)) (by decide +kernel)))
set_option maxRecDepth 20000 in
theorem gL_line_X11_line : GoodIn wsL_line (wsV RL 19 RX11 yX11_line wsX11_line) := goodIn_app (goodIn_of _ (by decide +kernel)) ggL_line_X11_line
theorem dL_line_0 : decode cL_line 0 = .ok (.aload 4, 2) := by decide +kernel
theorem dL_line_2 : decode cL_line 2 = .ok (.iconst 0, 1) := by decide +kernel
theorem dL_line_3 : decode cL_line 3 = .ok (.aload_n 0, 1) := by decide +kernel
theorem dL_line_4 : decode cL_line 4 = .ok (.iload_n 1, 1) := by decide +kernel
theorem dL_line_5 : decode cL_line 5 = .ok (.iload_n 2, 1) := by decide +kernel
theorem dL_line_6 : decode cL_line 6 = .ok (.iload_n 3, 1) := by decide +kernel
theorem dL_line_7 : decode cL_line 7 = .ok (.invokevirtual 19, 3) := by decide +kernel
theorem dL_line_10 : decode cL_line 10 = .ok (.i2l, 1) := by decide +kernel
theorem dL_line_11 : decode cL_line 11 = .ok (.lastore, 1) := by decide +kernel
theorem dL_line_12 : decode cL_line 12 = .ok (.goto 7, 3) := by decide +kernel
theorem dL_line_15 : decode cL_line 15 = .ok (.astore 5, 2) := by decide +kernel
theorem dL_line_17 : decode cL_line 17 = .ok (.iconst 1, 1) := by decide +kernel
theorem dL_line_18 : decode cL_line 18 = .ok (.ireturn, 1) := by decide +kernel
theorem dL_line_19 : decode cL_line 19 = .ok (.iconst 0, 1) := by decide +kernel
theorem dL_line_20 : decode cL_line 20 = .ok (.ireturn, 1) := by decide +kernel
theorem in_L_bound_X1 : ∀ w ∈ wsX10, w ∈ wsL_bound := fun _ h => List.mem_cons_of_mem _ (List.mem_append_left _ (List.mem_append_right _ h))
theorem in_L_bound_X11 : ∀ w ∈ wsX110, w ∈ wsL_bound := fun _ h => List.mem_cons_of_mem _ (List.mem_append_left _ (List.mem_append_left _ (List.mem_append_left _ (List.mem_append_left _ (List.mem_append_right _ h)))))
theorem in_L_bound_X2 : ∀ w ∈ wsX20, w ∈ wsL_bound := fun _ h => List.mem_cons_of_mem _ (List.mem_append_left _ (List.mem_append_left _ (List.mem_append_right _ h)))
theorem in_L_bound_X4 : ∀ w ∈ wsX40, w ∈ wsL_bound := fun _ h => List.mem_cons_of_mem _ (List.mem_append_left _ (List.mem_append_left _ (List.mem_append_left _ (List.mem_append_right _ h))))
theorem in_L_bound_X5 : ∀ w ∈ wsX50, w ∈ wsL_bound := fun _ h => List.mem_cons_of_mem _ (List.mem_append_left _ (List.mem_append_left _ (List.mem_append_left _ (List.mem_append_left _ (List.mem_append_left _ (List.mem_append_right _ h))))))
def cks_L_bound : List (List Cond) := [wsL_bound_r1, wsL_bound_r2, wsL_bound_r3, wsL_bound_r4, wsL_bound_r5]
theorem ck_L_bound : ∀ c ∈ cks_L_bound, ∀ w ∈ c, w ∈ wsL_bound := fun c hc w hw => List.mem_cons_of_mem _ (List.mem_append_left _ (List.mem_append_left _ (List.mem_append_left _ (List.mem_append_left _ (List.mem_append_left _ (List.mem_append_left _ (goodIn_cat [wsL_bound_r1, wsL_bound_r2, wsL_bound_r3, wsL_bound_r4] wsL_bound_r5 c hc w hw)))))))
set_option maxRecDepth 20000 in
theorem zbL_bound_X11_bound_0 : GoodIn wsL_bound [Cond.code yX11_bound cX11_bound 5 (some .int)] := goodIn_k _ cks_L_bound ck_L_bound [(0, 5)] rfl (by decide +kernel)
set_option maxRecDepth 20000 in
theorem zbL_bound_X11_bound_1 : GoodIn wsL_bound wsX11_bound_r1 := goodIn_k _ cks_L_bound ck_L_bound [(0, 6), (0, 7), (0, 8), (0, 9), (0, 10), (0, 11), (0, 12), (0, 4), (0, 13), (0, 14), (0, 15), (0, 16), (0, 17), (0, 18), (0, 19), (0, 20), (0, 21), (0, 22), (0, 23), (1, 0), (1, 1), (1, 2), (1, 3), (1, 4)] rfl (by decide +kernel)
set_option maxRecDepth 20000 in
theorem zbL_bound_X11_bound_2 : GoodIn wsL_bound wsX11_bound_r2 := goodIn_k _ cks_L_bound ck_L_bound [(1, 5), (1, 6), (1, 7), (1, 8), (1, 9), (1, 10), (1, 11), (1, 12), (1, 13), (1, 14), (1, 15), (1, 16), (1, 17), (1, 18), (1, 19), (1, 20), (1, 21), (1, 22), (1, 23), (2, 0), (2, 1), (2, 2), (2, 3), (2, 4)] rfl (by decide +kernel)
set_option maxRecDepth 20000 in
theorem zbL_bound_X11_bound_3 : GoodIn wsL_bound wsX11_bound_r3 := goodIn_k _ cks_L_bound ck_L_bound [(2, 5), (2, 6), (2, 7), (2, 8), (2, 9), (2, 10), (2, 11), (2, 12), (2, 13), (2, 14), (2, 15), (2, 16), (2, 17), (2, 18), (2, 19), (2, 20), (2, 21), (2, 22), (2, 23), (3, 0), (3, 1), (3, 2), (3, 3), (3, 4)] rfl (by decide +kernel)
set_option maxRecDepth 20000 in
theorem zbL_bound_X11_bound_4 : GoodIn wsL_bound wsX11_bound_r4 := goodIn_k _ cks_L_bound ck_L_bound [(3, 5), (3, 6), (3, 7), (3, 8), (3, 9), (3, 10), (3, 11), (3, 12), (3, 13), (3, 14), (3, 15), (3, 16), (3, 17), (3, 18), (3, 19), (3, 20), (3, 21), (3, 22), (3, 23), (4, 0), (4, 1), (4, 2), (4, 3), (4, 4)] rfl (by decide +kernel)
set_option maxRecDepth 20000 in
theorem zbL_bound_X11_bound_5 : GoodIn wsL_bound wsX11_bound_r5 := goodIn_k _ cks_L_bound ck_L_bound [(4, 5), (4, 6), (4, 7), (4, 8), (4, 9), (4, 10), (4, 11), (4, 12), (4, 13), (4, 14), (4, 15), (4, 16), (4, 17), (4, 18), (4, 19)] rfl (by decide +kernel)
set_option maxRecDepth 20000 in
theorem ggL_bound_X11_bound : GoodIn wsL_bound wsX11_bound := (goodIn_ca (goodIn_ca (goodIn_ca (goodIn_ca (goodIn_ca (goodIn_ca (goodIn_cc zbL_bound_X11_bound_0 (goodIn_app zbL_bound_X11_bound_1 (goodIn_app zbL_bound_X11_bound_2 (goodIn_app zbL_bound_X11_bound_3 (goodIn_app zbL_bound_X11_bound_4 zbL_bound_X11_bound_5))))) (goodIn_sub in_L_bound_X5 zgw_X5)) (goodIn_sub in_L_bound_X11 zgw_X11)) (goodIn_sub in_L_bound_X4 zgw_X4)) (goodIn_sub in_L_bound_X2 zgw_X2)) (goodIn_sub in_L_bound_X1 zgw_X1)) (goodIn_sub (fun _ h => List.mem_cons_of_mem _ (List.mem_append_right _ h)) (by decide +kernel)))
set_option maxRecDepth 20000 in
theorem gL_bound_X11_bound : GoodIn wsL_bound (wsV RL 23 RX11 yX11_bound wsX11_bound) := goodIn_app (goodIn_of _ (by decide +kernel)) ggL_bound_X11_bound
theorem dL_bound_0 : decode cL_bound 0 = .ok (.aload 4, 2) := by decide +kernel
theorem dL_bound_2 : decode cL_bound 2 = .ok (.iconst 0, 1) := by decide +kernel
theorem dL_bound_3 : decode cL_bound 3 = .ok (.aload_n 0, 1) := by decide +kernel
theorem dL_bound_4 : decode cL_bound 4 = .ok (.iload_n 1, 1) := by decide +kernel
theorem dL_bound_5 : decode cL_bound 5 = .ok (.iload_n 2, 1) := by decide +kernel
theorem dL_bound_6 : decode cL_bound 6 = .ok (.iload_n 3, 1) := by decide +kernel
theorem dL_bound_7 : decode cL_bound 7 = .ok (.invokevirtual 23, 3) := by decide +kernel
theorem dL_bound_10 : decode cL_bound 10 = .ok (.i2l, 1) := by decide +kernel
theorem dL_bound_11 : decode cL_bound 11 = .ok (.lastore, 1) := by decide +kernel
theorem dL_bound_12 : decode cL_bound 12 = .ok (.goto 7, 3) := by decide +kernel
theorem dL_bound_15 : decode cL_bound 15 = .ok (.astore 5, 2) := by decide +kernel
theorem dL_bound_17 : decode cL_bound 17 = .ok (.iconst 1, 1) := by decide +kernel
theorem dL_bound_18 : decode cL_bound 18 = .ok (.ireturn, 1) := by decide +kernel
theorem dL_bound_19 : decode cL_bound 19 = .ok (.iconst 0, 1) := by decide +kernel
theorem dL_bound_20 : decode cL_bound 20 = .ok (.ireturn, 1) := by decide +kernel
theorem in_L_digit_X1 : ∀ w ∈ wsX10, w ∈ wsL_digit := fun _ h => List.mem_cons_of_mem _ (List.mem_append_left _ (List.mem_append_left _ (List.mem_append_left _ (List.mem_append_right _ h))))
theorem in_L_digit_X11 : ∀ w ∈ wsX110, w ∈ wsL_digit := fun _ h => List.mem_cons_of_mem _ (List.mem_append_left _ (List.mem_append_left _ (List.mem_append_left _ (List.mem_append_left _ (List.mem_append_left _ (List.mem_append_right _ h))))))
theorem in_L_digit_X2 : ∀ w ∈ wsX20, w ∈ wsL_digit := fun _ h => List.mem_cons_of_mem _ (List.mem_append_left _ (List.mem_append_right _ h))
theorem in_L_digit_X4 : ∀ w ∈ wsX40, w ∈ wsL_digit := fun _ h => List.mem_cons_of_mem _ (List.mem_append_left _ (List.mem_append_left _ (List.mem_append_right _ h)))
theorem in_L_digit_X5 : ∀ w ∈ wsX50, w ∈ wsL_digit := fun _ h => List.mem_cons_of_mem _ (List.mem_append_left _ (List.mem_append_left _ (List.mem_append_left _ (List.mem_append_left _ (List.mem_append_right _ h)))))
def cks_L_digit : List (List Cond) := [wsL_digit_r1, wsL_digit_r2, wsL_digit_r3, wsL_digit_r4, wsL_digit_r5]
theorem ck_L_digit : ∀ c ∈ cks_L_digit, ∀ w ∈ c, w ∈ wsL_digit := fun c hc w hw => List.mem_cons_of_mem _ (List.mem_append_left _ (List.mem_append_left _ (List.mem_append_left _ (List.mem_append_left _ (List.mem_append_left _ (List.mem_append_left _ (goodIn_cat [wsL_digit_r1, wsL_digit_r2, wsL_digit_r3, wsL_digit_r4] wsL_digit_r5 c hc w hw)))))))
set_option maxRecDepth 20000 in
theorem zbL_digit_X11_digit_0 : GoodIn wsL_digit [Cond.code yX11_digit cX11_digit 4 (some .int)] := goodIn_k _ cks_L_digit ck_L_digit [(0, 5)] rfl (by decide +kernel)
set_option maxRecDepth 20000 in
theorem zbL_digit_X11_digit_1 : GoodIn wsL_digit wsX11_digit_r1 := goodIn_k _ cks_L_digit ck_L_digit [(0, 6), (0, 7), (0, 8), (0, 9), (0, 10), (0, 11), (0, 12), (0, 13), (0, 14), (0, 15), (0, 4), (0, 16), (0, 17), (0, 18), (0, 19), (0, 20), (0, 21), (0, 22), (0, 23), (1, 0), (1, 1), (1, 2), (1, 3), (1, 4)] rfl (by decide +kernel)
set_option maxRecDepth 20000 in
theorem zbL_digit_X11_digit_2 : GoodIn wsL_digit wsX11_digit_r2 := goodIn_k _ cks_L_digit ck_L_digit [(1, 5), (1, 6), (1, 7), (1, 8), (1, 9), (1, 10), (1, 11), (1, 12), (1, 13), (1, 14), (1, 15), (1, 16), (1, 17), (1, 18), (1, 19), (1, 20), (1, 21), (1, 22), (1, 23), (2, 0), (2, 1), (2, 2), (2, 3), (2, 4)] rfl (by decide +kernel)
set_option maxRecDepth 20000 in
theorem zbL_digit_X11_digit_3 : GoodIn wsL_digit wsX11_digit_r3 := goodIn_k _ cks_L_digit ck_L_digit [(2, 5), (2, 6), (2, 7), (2, 8), (2, 9), (2, 10), (2, 11), (2, 12), (2, 13), (2, 14), (2, 15), (2, 16), (2, 17), (2, 18), (2, 19), (2, 20), (2, 21), (2, 22), (2, 23), (3, 0), (3, 1), (3, 2), (3, 3), (3, 4)] rfl (by decide +kernel)
set_option maxRecDepth 20000 in
theorem zbL_digit_X11_digit_4 : GoodIn wsL_digit wsX11_digit_r4 := goodIn_k _ cks_L_digit ck_L_digit [(3, 5), (3, 6), (3, 7), (3, 8), (3, 9), (3, 10), (3, 11), (3, 12), (3, 13), (3, 14), (3, 15), (3, 16), (3, 17), (3, 18), (3, 19), (3, 20), (3, 21), (3, 22), (3, 23), (4, 0), (4, 1), (4, 2), (4, 3), (4, 4)] rfl (by decide +kernel)
set_option maxRecDepth 20000 in
theorem zbL_digit_X11_digit_5 : GoodIn wsL_digit wsX11_digit_r5 := goodIn_k _ cks_L_digit ck_L_digit [(4, 5), (4, 6), (4, 7), (4, 8), (4, 9), (4, 10)] rfl (by decide +kernel)
set_option maxRecDepth 20000 in
theorem ggL_digit_X11_digit : GoodIn wsL_digit wsX11_digit := (goodIn_ca (goodIn_ca (goodIn_ca (goodIn_ca (goodIn_ca (goodIn_ca (goodIn_cc zbL_digit_X11_digit_0 (goodIn_app zbL_digit_X11_digit_1 (goodIn_app zbL_digit_X11_digit_2 (goodIn_app zbL_digit_X11_digit_3 (goodIn_app zbL_digit_X11_digit_4 zbL_digit_X11_digit_5))))) (goodIn_sub in_L_digit_X11 zgw_X11)) (goodIn_sub in_L_digit_X5 zgw_X5)) (goodIn_sub in_L_digit_X1 zgw_X1)) (goodIn_sub in_L_digit_X4 zgw_X4)) (goodIn_sub in_L_digit_X2 zgw_X2)) (goodIn_sub (fun _ h => List.mem_cons_of_mem _ (List.mem_append_right _ h)) (by decide +kernel)))
set_option maxRecDepth 20000 in
theorem gL_digit_X11_digit : GoodIn wsL_digit (wsV RL 27 RX11 yX11_digit wsX11_digit) := goodIn_app (goodIn_of _ (by decide +kernel)) ggL_digit_X11_digit
theorem dL_digit_0 : decode cL_digit 0 = .ok (.aload_n 3, 1) := by decide +kernel
theorem dL_digit_1 : decode cL_digit 1 = .ok (.iconst 0, 1) := by decide +kernel
theorem dL_digit_2 : decode cL_digit 2 = .ok (.aload_n 0, 1) := by decide +kernel
theorem dL_digit_3 : decode cL_digit 3 = .ok (.iload_n 1, 1) := by decide +kernel
theorem dL_digit_4 : decode cL_digit 4 = .ok (.iload_n 2, 1) := by decide +kernel
theorem dL_digit_5 : decode cL_digit 5 = .ok (.invokevirtual 27, 3) := by decide +kernel
theorem dL_digit_8 : decode cL_digit 8 = .ok (.i2l, 1) := by decide +kernel
theorem dL_digit_9 : decode cL_digit 9 = .ok (.lastore, 1) := by decide +kernel
theorem dL_digit_10 : decode cL_digit 10 = .ok (.goto 7, 3) := by decide +kernel
theorem dL_digit_13 : decode cL_digit 13 = .ok (.astore 4, 2) := by decide +kernel
theorem dL_digit_15 : decode cL_digit 15 = .ok (.iconst 1, 1) := by decide +kernel
theorem dL_digit_16 : decode cL_digit 16 = .ok (.ireturn, 1) := by decide +kernel
theorem dL_digit_17 : decode cL_digit 17 = .ok (.iconst 0, 1) := by decide +kernel
theorem dL_digit_18 : decode cL_digit 18 = .ok (.ireturn, 1) := by decide +kernel
