theorem in_X12_feed_X12 : ∀ w ∈ wsX120, w ∈ wsX12_feed := fun _ h => List.mem_cons_of_mem _ (List.mem_append_right _ h)
set_option maxRecDepth 20000 in
theorem zbX12_feed_X12_come : GoodIn wsX12_feed (Cond.code yX12_come cX12_come 3 none :: [.fieldLink RX12 7 "ClayAccountsModel" "tape" "[I", .fieldLink RX12 90 "ClayAccountsModel" "taped" "I"]) := goodIn_r _ [7, 8, 2] rfl (by decide +kernel)
set_option maxRecDepth 20000 in
theorem ggX12_feed_X12_come : GoodIn wsX12_feed wsX12_come := (goodIn_ca zbX12_feed_X12_come (goodIn_sub in_X12_feed_X12 zgw_X12))
set_option maxRecDepth 20000 in
theorem gX12_feed_X12_come : GoodIn wsX12_feed (wsV RX12 93 RX12 yX12_come wsX12_come) := goodIn_app (goodIn_of _ (by decide +kernel)) ggX12_feed_X12_come
set_option maxRecDepth 20000 in
theorem zbX12_isCount_X12_isDigit : GoodIn wsX12_isCount (Cond.code yX12_isDigit cX12_isDigit 1 (some .boolean) :: []) := goodIn_r _ [5] rfl (by decide +kernel)
set_option maxRecDepth 20000 in
theorem ggX12_isCount_X12_isDigit : GoodIn wsX12_isCount wsX12_isDigit := zbX12_isCount_X12_isDigit
set_option maxRecDepth 20000 in
theorem gX12_isCount_X12_isDigit : GoodIn wsX12_isCount (va_wsS RX12 100 yX12_isDigit wsX12_isDigit) := goodIn_app (goodIn_of _ (by decide +kernel)) ggX12_isCount_X12_isDigit
def cks_X12_go : List (List Cond) := [wsX12_go_r1, wsX12_go_r2]
theorem ck_X12_go : ∀ c ∈ cks_X12_go, ∀ w ∈ c, w ∈ wsX12_go := fun c hc w hw => List.mem_cons_of_mem _ (List.mem_append_left _ (goodIn_cat [wsX12_go_r1] wsX12_go_r2 c hc w hw))
set_option maxRecDepth 20000 in
theorem zbX12_go_X12_isLetter : GoodIn wsX12_go (Cond.code yX12_isLetter cX12_isLetter 1 (some .boolean) :: []) := goodIn_k _ cks_X12_go ck_X12_go [(0, 15)] rfl (by decide +kernel)
set_option maxRecDepth 20000 in
theorem ggX12_go_X12_isLetter : GoodIn wsX12_go wsX12_isLetter := zbX12_go_X12_isLetter
set_option maxRecDepth 20000 in
theorem gX12_go_X12_isLetter : GoodIn wsX12_go (va_wsS RX12 120 yX12_isLetter wsX12_isLetter) := goodIn_app (goodIn_of _ (by decide +kernel)) ggX12_go_X12_isLetter
theorem in_X12_go_X12 : ∀ w ∈ wsX120, w ∈ wsX12_go := fun _ h => List.mem_cons_of_mem _ (List.mem_append_right _ h)
set_option maxRecDepth 20000 in
theorem zbX12_go_X12_isCount : GoodIn wsX12_go (Cond.code yX12_isCount cX12_isCount 2 (some .boolean) :: [.fieldLink RX12 104 "ClayAccountsModel" "broken" "Z", .methodLink RX12 100 yX12_isDigit, .static yX12_isDigit, .initialized RX12, .code yX12_isDigit cX12_isDigit 1 (some .boolean)]) := goodIn_k _ cks_X12_go ck_X12_go [(0, 19), (0, 20), (0, 21), (0, 22), (0, 14), (0, 23)] rfl (by decide +kernel)
set_option maxRecDepth 20000 in
theorem ggX12_go_X12_isCount : GoodIn wsX12_go wsX12_isCount := (goodIn_ca zbX12_go_X12_isCount (goodIn_sub in_X12_go_X12 zgw_X12))
set_option maxRecDepth 20000 in
theorem gX12_go_X12_isCount : GoodIn wsX12_go (wsV RX12 123 RX12 yX12_isCount wsX12_isCount) := goodIn_app (goodIn_of _ (by decide +kernel)) ggX12_go_X12_isCount
set_option maxRecDepth 20000 in
theorem zbX12_go_X12_at : GoodIn wsX12_go (Cond.code yX12_at cX12_at 2 (some .int) :: [.fieldLink RX12 97 "ClayAccountsModel" "size" "I", .fieldLink RX12 13 "ClayAccountsModel" "text" "[I"]) := goodIn_k _ cks_X12_go ck_X12_go [(1, 3), (0, 1), (0, 2)] rfl (by decide +kernel)
set_option maxRecDepth 20000 in
theorem ggX12_go_X12_at : GoodIn wsX12_go wsX12_at := (goodIn_ca zbX12_go_X12_at (goodIn_sub in_X12_go_X12 zgw_X12))
set_option maxRecDepth 20000 in
theorem gX12_go_X12_at : GoodIn wsX12_go (wsV RX12 133 RX12 yX12_at wsX12_at) := goodIn_app (goodIn_of _ (by decide +kernel)) ggX12_go_X12_at
set_option maxRecDepth 20000 in
theorem zbX12_go_X12_digitOf : GoodIn wsX12_go (Cond.code yX12_digitOf cX12_digitOf 1 (some .int) :: []) := goodIn_k _ cks_X12_go ck_X12_go [(1, 6)] rfl (by decide +kernel)
set_option maxRecDepth 20000 in
theorem ggX12_go_X12_digitOf : GoodIn wsX12_go wsX12_digitOf := zbX12_go_X12_digitOf
set_option maxRecDepth 20000 in
theorem gX12_go_X12_digitOf : GoodIn wsX12_go (va_wsS RX12 141 yX12_digitOf wsX12_digitOf) := goodIn_app (goodIn_of _ (by decide +kernel)) ggX12_go_X12_digitOf
theorem in_X12_takes_X12 : ∀ w ∈ wsX120, w ∈ wsX12_takes := fun _ h => List.mem_cons_of_mem _ (List.mem_append_right _ h)
def cks_X12_takes : List (List Cond) := [wsX12_takes_r1, wsX12_takes_r2]
theorem ck_X12_takes : ∀ c ∈ cks_X12_takes, ∀ w ∈ c, w ∈ wsX12_takes := fun c hc w hw => List.mem_cons_of_mem _ (List.mem_append_left _ (goodIn_cat [wsX12_takes_r1] wsX12_takes_r2 c hc w hw))
set_option maxRecDepth 20000 in
theorem zbX12_takes_X12_begins_0 : GoodIn wsX12_takes [Cond.code yX12_begins cX12_begins 3 none] := goodIn_k _ cks_X12_takes ck_X12_takes [(0, 8)] rfl (by decide +kernel)
set_option maxRecDepth 20000 in
theorem zbX12_takes_X12_begins_1 : GoodIn wsX12_takes wsX12_begins_r1 := goodIn_k _ cks_X12_takes ck_X12_takes [(0, 9), (0, 10), (0, 11), (0, 12), (0, 13), (0, 14), (0, 7), (0, 15), (0, 1), (0, 2), (0, 16), (0, 17), (0, 18), (0, 19), (0, 20), (0, 21), (0, 22), (0, 23), (1, 0), (1, 1), (1, 2), (1, 3), (1, 4), (1, 5)] rfl (by decide +kernel)
set_option maxRecDepth 20000 in
theorem zbX12_takes_X12_begins_2 : GoodIn wsX12_takes wsX12_begins_r2 := goodIn_k _ cks_X12_takes ck_X12_takes [(1, 6), (1, 7), (1, 8), (1, 9), (1, 10), (1, 11), (1, 12), (1, 13), (1, 14), (1, 15), (1, 16)] rfl (by decide +kernel)
set_option maxRecDepth 20000 in
theorem ggX12_takes_X12_begins : GoodIn wsX12_takes wsX12_begins := (goodIn_ca (goodIn_cc zbX12_takes_X12_begins_0 (goodIn_app zbX12_takes_X12_begins_1 zbX12_takes_X12_begins_2)) (goodIn_sub in_X12_takes_X12 zgw_X12))
set_option maxRecDepth 20000 in
theorem gX12_takes_X12_begins : GoodIn wsX12_takes (wsV RX12 165 RX12 yX12_begins wsX12_begins) := goodIn_app (goodIn_of _ (by decide +kernel)) ggX12_takes_X12_begins
theorem in_X12_begins_X12 : ∀ w ∈ wsX120, w ∈ wsX12_begins := fun _ h => List.mem_cons_of_mem _ (List.mem_append_right _ h)
def cks_X12_begins : List (List Cond) := [wsX12_begins_r1, wsX12_begins_r2]
theorem ck_X12_begins : ∀ c ∈ cks_X12_begins, ∀ w ∈ c, w ∈ wsX12_begins := fun c hc w hw => List.mem_cons_of_mem _ (List.mem_append_left _ (goodIn_cat [wsX12_begins_r1] wsX12_begins_r2 c hc w hw))
set_option maxRecDepth 20000 in
theorem zbX12_begins_X12_go_0 : GoodIn wsX12_begins [Cond.code yX12_go cX12_go 5 none] := goodIn_k _ cks_X12_begins ck_X12_begins [(0, 7)] rfl (by decide +kernel)
set_option maxRecDepth 20000 in
theorem zbX12_begins_X12_go_1 : GoodIn wsX12_begins wsX12_go_r1 := goodIn_k _ cks_X12_begins ck_X12_begins [(0, 2), (0, 8), (0, 9), (0, 10), (0, 0), (0, 11), (0, 12), (0, 13), (0, 14), (0, 15), (0, 16), (0, 17), (0, 18), (0, 19), (0, 6), (0, 20), (0, 21), (0, 22), (0, 23), (1, 0), (0, 1), (1, 1), (1, 2), (1, 3)] rfl (by decide +kernel)
set_option maxRecDepth 20000 in
theorem zbX12_begins_X12_go_2 : GoodIn wsX12_begins wsX12_go_r2 := goodIn_k _ cks_X12_begins ck_X12_begins [(1, 4), (1, 5), (1, 6), (1, 7), (1, 8), (1, 9), (1, 10)] rfl (by decide +kernel)
set_option maxRecDepth 20000 in
theorem ggX12_begins_X12_go : GoodIn wsX12_begins wsX12_go := (goodIn_ca (goodIn_cc zbX12_begins_X12_go_0 (goodIn_app zbX12_begins_X12_go_1 zbX12_begins_X12_go_2)) (goodIn_sub in_X12_begins_X12 zgw_X12))
set_option maxRecDepth 20000 in
theorem gX12_begins_X12_go : GoodIn wsX12_begins (wsV RX12 169 RX12 yX12_go wsX12_go) := goodIn_app (goodIn_of _ (by decide +kernel)) ggX12_begins_X12_go
theorem in_X12_readSystem_X12 : ∀ w ∈ wsX120, w ∈ wsX12_readSystem := fun _ h => List.mem_cons_of_mem _ (List.mem_append_right _ h)
def cks_X12_readSystem : List (List Cond) := [wsX12_readSystem_r1, wsX12_readSystem_r2, wsX12_readSystem_r3]
theorem ck_X12_readSystem : ∀ c ∈ cks_X12_readSystem, ∀ w ∈ c, w ∈ wsX12_readSystem := fun c hc w hw => List.mem_cons_of_mem _ (List.mem_append_left _ (goodIn_cat [wsX12_readSystem_r1, wsX12_readSystem_r2] wsX12_readSystem_r3 c hc w hw))
set_option maxRecDepth 20000 in
theorem zbX12_readSystem_X12_isFree : GoodIn wsX12_readSystem (Cond.code yX12_isFree cX12_isFree 1 (some .boolean) :: [.fieldLink RX12 117 "ClayAccountsModel" "kind" "I", .fieldLink RX12 129 "ClayAccountsModel" "name" "J", .fieldLink RX12 156 "ClayAccountsModel" "SYSTEM_NAME" "J", .fieldLink RX12 159 "ClayAccountsModel" "TOTAL_NAME" "J", .fieldLink RX12 162 "ClayAccountsModel" "GRAND_NAME" "J"]) := goodIn_k _ cks_X12_readSystem ck_X12_readSystem [(0, 11), (0, 3), (0, 2), (0, 12), (0, 13), (0, 14)] rfl (by decide +kernel)
set_option maxRecDepth 20000 in
theorem ggX12_readSystem_X12_isFree : GoodIn wsX12_readSystem wsX12_isFree := (goodIn_ca zbX12_readSystem_X12_isFree (goodIn_sub in_X12_readSystem_X12 zgw_X12))
set_option maxRecDepth 20000 in
theorem gX12_readSystem_X12_isFree : GoodIn wsX12_readSystem (wsV RX12 172 RX12 yX12_isFree wsX12_isFree) := goodIn_app (goodIn_of _ (by decide +kernel)) ggX12_readSystem_X12_isFree
set_option maxRecDepth 20000 in
theorem zbX12_readSystem_X12_bad : GoodIn wsX12_readSystem (Cond.code yX12_bad cX12_bad 2 (some .boolean) :: [.fieldLink RX12 117 "ClayAccountsModel" "kind" "I", .fieldLink RX12 150 "ClayAccountsModel" "fault" "I", .fieldLink RX12 111 "ClayAccountsModel" "from" "I", .fieldLink RX12 153 "ClayAccountsModel" "place" "I"]) := goodIn_k _ cks_X12_readSystem ck_X12_readSystem [(0, 18), (0, 3), (0, 19), (0, 20), (0, 21)] rfl (by decide +kernel)
set_option maxRecDepth 20000 in
theorem ggX12_readSystem_X12_bad : GoodIn wsX12_readSystem wsX12_bad := (goodIn_ca zbX12_readSystem_X12_bad (goodIn_sub in_X12_readSystem_X12 zgw_X12))
set_option maxRecDepth 20000 in
theorem gX12_readSystem_X12_bad : GoodIn wsX12_readSystem (wsV RX12 176 RX12 yX12_bad wsX12_bad) := goodIn_app (goodIn_of _ (by decide +kernel)) ggX12_readSystem_X12_bad
set_option maxRecDepth 20000 in
theorem zbX12_readSystem_X12_isTaken : GoodIn wsX12_readSystem (Cond.code yX12_isTaken cX12_isTaken 4 (some .boolean) :: [.fieldLink RX12 16 "ClayAccountsModel" "systemName" "[J", .fieldLink RX12 129 "ClayAccountsModel" "name" "J", .fieldLink RX12 23 "ClayAccountsModel" "units" "[I", .fieldLink RX12 20 "ClayAccountsModel" "unitName" "[J"]) := goodIn_k _ cks_X12_readSystem ck_X12_readSystem [(1, 1), (0, 0), (0, 2), (0, 1), (1, 2)] rfl (by decide +kernel)
set_option maxRecDepth 20000 in
theorem ggX12_readSystem_X12_isTaken : GoodIn wsX12_readSystem wsX12_isTaken := (goodIn_ca zbX12_readSystem_X12_isTaken (goodIn_sub in_X12_readSystem_X12 zgw_X12))
set_option maxRecDepth 20000 in
theorem gX12_readSystem_X12_isTaken : GoodIn wsX12_readSystem (wsV RX12 179 RX12 yX12_isTaken wsX12_isTaken) := goodIn_app (goodIn_of _ (by decide +kernel)) ggX12_readSystem_X12_isTaken
set_option maxRecDepth 20000 in
theorem zbX12_readSystem_X12_go_0 : GoodIn wsX12_readSystem [Cond.code yX12_go cX12_go 5 none] := goodIn_k _ cks_X12_readSystem ck_X12_readSystem [(1, 6)] rfl (by decide +kernel)
set_option maxRecDepth 20000 in
theorem zbX12_readSystem_X12_go_1 : GoodIn wsX12_readSystem wsX12_go_r1 := goodIn_k _ cks_X12_readSystem ck_X12_readSystem [(1, 7), (1, 8), (1, 9), (0, 20), (1, 10), (0, 3), (1, 11), (0, 2), (1, 12), (1, 13), (0, 6), (0, 5), (1, 14), (1, 15), (0, 10), (1, 16), (1, 17), (1, 18), (1, 19), (1, 20), (1, 21), (1, 22), (1, 23), (2, 0)] rfl (by decide +kernel)
set_option maxRecDepth 20000 in
theorem zbX12_readSystem_X12_go_2 : GoodIn wsX12_readSystem wsX12_go_r2 := goodIn_k _ cks_X12_readSystem ck_X12_readSystem [(2, 1), (2, 2), (2, 3), (2, 4), (2, 5), (2, 6), (2, 7)] rfl (by decide +kernel)
set_option maxRecDepth 20000 in
theorem ggX12_readSystem_X12_go : GoodIn wsX12_readSystem wsX12_go := (goodIn_ca (goodIn_cc zbX12_readSystem_X12_go_0 (goodIn_app zbX12_readSystem_X12_go_1 zbX12_readSystem_X12_go_2)) (goodIn_sub in_X12_readSystem_X12 zgw_X12))
set_option maxRecDepth 20000 in
theorem gX12_readSystem_X12_go : GoodIn wsX12_readSystem (wsV RX12 169 RX12 yX12_go wsX12_go) := goodIn_app (goodIn_of _ (by decide +kernel)) ggX12_readSystem_X12_go
set_option maxRecDepth 20000 in
theorem zbX12_readSystem_X12_isSign : GoodIn wsX12_readSystem (Cond.code yX12_isSign cX12_isSign 2 (some .boolean) :: [.fieldLink RX12 117 "ClayAccountsModel" "kind" "I", .fieldLink RX12 126 "ClayAccountsModel" "sign" "I"]) := goodIn_k _ cks_X12_readSystem ck_X12_readSystem [(2, 11), (0, 3), (1, 11)] rfl (by decide +kernel)
set_option maxRecDepth 20000 in
theorem ggX12_readSystem_X12_isSign : GoodIn wsX12_readSystem wsX12_isSign := (goodIn_ca zbX12_readSystem_X12_isSign (goodIn_sub in_X12_readSystem_X12 zgw_X12))
set_option maxRecDepth 20000 in
theorem gX12_readSystem_X12_isSign : GoodIn wsX12_readSystem (wsV RX12 182 RX12 yX12_isSign wsX12_isSign) := goodIn_app (goodIn_of _ (by decide +kernel)) ggX12_readSystem_X12_isSign
set_option maxRecDepth 20000 in
theorem zbX12_readSystem_X12_readUnit_0 : GoodIn wsX12_readSystem [Cond.code yX12_readUnit cX12_readUnit 3 (some .boolean)] := goodIn_k _ cks_X12_readSystem ck_X12_readSystem [(2, 15)] rfl (by decide +kernel)
set_option maxRecDepth 20000 in
theorem zbX12_readSystem_X12_readUnit_1 : GoodIn wsX12_readSystem wsX12_readUnit_r1 := goodIn_k _ cks_X12_readSystem ck_X12_readSystem [(1, 2), (0, 1), (0, 2), (0, 7), (0, 8), (0, 9), (0, 10), (0, 11), (0, 3), (0, 12), (0, 13), (0, 14), (0, 15), (0, 16), (0, 17), (0, 18), (0, 19), (0, 20), (0, 21), (0, 22), (0, 23), (1, 0), (1, 1), (0, 0)] rfl (by decide +kernel)
set_option maxRecDepth 20000 in
theorem zbX12_readSystem_X12_readUnit_2 : GoodIn wsX12_readSystem wsX12_readUnit_r2 := goodIn_k _ cks_X12_readSystem ck_X12_readSystem [(1, 3), (1, 4), (1, 5), (1, 6), (1, 7), (1, 8), (1, 9), (1, 10), (1, 11), (1, 12), (1, 13), (0, 6), (0, 5), (1, 14), (1, 15), (1, 16), (1, 17), (1, 18), (1, 19), (1, 20), (1, 21), (1, 22), (1, 23), (2, 0)] rfl (by decide +kernel)
set_option maxRecDepth 20000 in
theorem zbX12_readSystem_X12_readUnit_3 : GoodIn wsX12_readSystem wsX12_readUnit_r3 := goodIn_k _ cks_X12_readSystem ck_X12_readSystem [(2, 1), (2, 2), (2, 3), (2, 4), (2, 5), (2, 6), (2, 7)] rfl (by decide +kernel)
set_option maxRecDepth 20000 in
theorem ggX12_readSystem_X12_readUnit : GoodIn wsX12_readSystem wsX12_readUnit := (goodIn_ca (goodIn_cc zbX12_readSystem_X12_readUnit_0 (goodIn_app zbX12_readSystem_X12_readUnit_1 (goodIn_app zbX12_readSystem_X12_readUnit_2 zbX12_readSystem_X12_readUnit_3))) (goodIn_sub in_X12_readSystem_X12 zgw_X12))
set_option maxRecDepth 20000 in
theorem gX12_readSystem_X12_readUnit : GoodIn wsX12_readSystem (wsV RX12 185 RX12 yX12_readUnit wsX12_readUnit) := goodIn_app (goodIn_of _ (by decide +kernel)) ggX12_readSystem_X12_readUnit
set_option maxRecDepth 20000 in
theorem zbX12_readSystem_X12_isFactor : GoodIn wsX12_readSystem (Cond.code yX12_isFactor cX12_isFactor 2 (some .boolean) :: [.fieldLink RX12 147 "ClayAccountsModel" "second" "I", .fieldLink RX12 144 "ClayAccountsModel" "first" "I"]) := goodIn_k _ cks_X12_readSystem ck_X12_readSystem [(2, 19), (0, 5), (0, 6)] rfl (by decide +kernel)
set_option maxRecDepth 20000 in
theorem ggX12_readSystem_X12_isFactor : GoodIn wsX12_readSystem wsX12_isFactor := (goodIn_ca zbX12_readSystem_X12_isFactor (goodIn_sub in_X12_readSystem_X12 zgw_X12))
set_option maxRecDepth 20000 in
theorem gX12_readSystem_X12_isFactor : GoodIn wsX12_readSystem (wsV RX12 188 RX12 yX12_isFactor wsX12_isFactor) := goodIn_app (goodIn_of _ (by decide +kernel)) ggX12_readSystem_X12_isFactor
theorem in_X12_readUnit_X12 : ∀ w ∈ wsX120, w ∈ wsX12_readUnit := fun _ h => List.mem_cons_of_mem _ (List.mem_append_right _ h)
def cks_X12_readUnit : List (List Cond) := [wsX12_readUnit_r1, wsX12_readUnit_r2, wsX12_readUnit_r3]
theorem ck_X12_readUnit : ∀ c ∈ cks_X12_readUnit, ∀ w ∈ c, w ∈ wsX12_readUnit := fun c hc w hw => List.mem_cons_of_mem _ (List.mem_append_left _ (goodIn_cat [wsX12_readUnit_r1, wsX12_readUnit_r2] wsX12_readUnit_r3 c hc w hw))
set_option maxRecDepth 20000 in
theorem zbX12_readUnit_X12_isFree : GoodIn wsX12_readUnit (Cond.code yX12_isFree cX12_isFree 1 (some .boolean) :: [.fieldLink RX12 117 "ClayAccountsModel" "kind" "I", .fieldLink RX12 129 "ClayAccountsModel" "name" "J", .fieldLink RX12 156 "ClayAccountsModel" "SYSTEM_NAME" "J", .fieldLink RX12 159 "ClayAccountsModel" "TOTAL_NAME" "J", .fieldLink RX12 162 "ClayAccountsModel" "GRAND_NAME" "J"]) := goodIn_k _ cks_X12_readUnit ck_X12_readUnit [(0, 7), (0, 8), (0, 2), (0, 9), (0, 10), (0, 11)] rfl (by decide +kernel)
set_option maxRecDepth 20000 in
theorem ggX12_readUnit_X12_isFree : GoodIn wsX12_readUnit wsX12_isFree := (goodIn_ca zbX12_readUnit_X12_isFree (goodIn_sub in_X12_readUnit_X12 zgw_X12))
set_option maxRecDepth 20000 in
theorem gX12_readUnit_X12_isFree : GoodIn wsX12_readUnit (wsV RX12 172 RX12 yX12_isFree wsX12_isFree) := goodIn_app (goodIn_of _ (by decide +kernel)) ggX12_readUnit_X12_isFree
set_option maxRecDepth 20000 in
theorem zbX12_readUnit_X12_bad : GoodIn wsX12_readUnit (Cond.code yX12_bad cX12_bad 2 (some .boolean) :: [.fieldLink RX12 117 "ClayAccountsModel" "kind" "I", .fieldLink RX12 150 "ClayAccountsModel" "fault" "I", .fieldLink RX12 111 "ClayAccountsModel" "from" "I", .fieldLink RX12 153 "ClayAccountsModel" "place" "I"]) := goodIn_k _ cks_X12_readUnit ck_X12_readUnit [(0, 15), (0, 8), (0, 16), (0, 17), (0, 18)] rfl (by decide +kernel)
set_option maxRecDepth 20000 in
theorem ggX12_readUnit_X12_bad : GoodIn wsX12_readUnit wsX12_bad := (goodIn_ca zbX12_readUnit_X12_bad (goodIn_sub in_X12_readUnit_X12 zgw_X12))
set_option maxRecDepth 20000 in
theorem gX12_readUnit_X12_bad : GoodIn wsX12_readUnit (wsV RX12 176 RX12 yX12_bad wsX12_bad) := goodIn_app (goodIn_of _ (by decide +kernel)) ggX12_readUnit_X12_bad
set_option maxRecDepth 20000 in
theorem zbX12_readUnit_X12_isTaken : GoodIn wsX12_readUnit (Cond.code yX12_isTaken cX12_isTaken 4 (some .boolean) :: [.fieldLink RX12 16 "ClayAccountsModel" "systemName" "[J", .fieldLink RX12 129 "ClayAccountsModel" "name" "J", .fieldLink RX12 23 "ClayAccountsModel" "units" "[I", .fieldLink RX12 20 "ClayAccountsModel" "unitName" "[J"]) := goodIn_k _ cks_X12_readUnit ck_X12_readUnit [(0, 22), (0, 23), (0, 2), (0, 1), (0, 0)] rfl (by decide +kernel)
set_option maxRecDepth 20000 in
theorem ggX12_readUnit_X12_isTaken : GoodIn wsX12_readUnit wsX12_isTaken := (goodIn_ca zbX12_readUnit_X12_isTaken (goodIn_sub in_X12_readUnit_X12 zgw_X12))
set_option maxRecDepth 20000 in
theorem gX12_readUnit_X12_isTaken : GoodIn wsX12_readUnit (wsV RX12 179 RX12 yX12_isTaken wsX12_isTaken) := goodIn_app (goodIn_of _ (by decide +kernel)) ggX12_readUnit_X12_isTaken
set_option maxRecDepth 20000 in
theorem zbX12_readUnit_X12_go_0 : GoodIn wsX12_readUnit [Cond.code yX12_go cX12_go 5 none] := goodIn_k _ cks_X12_readUnit ck_X12_readUnit [(1, 3)] rfl (by decide +kernel)
set_option maxRecDepth 20000 in
theorem zbX12_readUnit_X12_go_1 : GoodIn wsX12_readUnit wsX12_go_r1 := goodIn_k _ cks_X12_readUnit ck_X12_readUnit [(1, 4), (1, 5), (1, 6), (0, 17), (1, 7), (0, 8), (1, 8), (0, 2), (1, 9), (1, 10), (1, 11), (1, 12), (1, 13), (1, 14), (0, 6), (1, 15), (1, 16), (1, 17), (1, 18), (1, 19), (1, 20), (1, 21), (1, 22), (1, 23)] rfl (by decide +kernel)
set_option maxRecDepth 20000 in
theorem zbX12_readUnit_X12_go_2 : GoodIn wsX12_readUnit wsX12_go_r2 := goodIn_k _ cks_X12_readUnit ck_X12_readUnit [(2, 0), (2, 1), (2, 2), (2, 3), (2, 4), (2, 5), (2, 6)] rfl (by decide +kernel)
set_option maxRecDepth 20000 in
theorem ggX12_readUnit_X12_go : GoodIn wsX12_readUnit wsX12_go := (goodIn_ca (goodIn_cc zbX12_readUnit_X12_go_0 (goodIn_app zbX12_readUnit_X12_go_1 zbX12_readUnit_X12_go_2)) (goodIn_sub in_X12_readUnit_X12 zgw_X12))
set_option maxRecDepth 20000 in
theorem gX12_readUnit_X12_go : GoodIn wsX12_readUnit (wsV RX12 169 RX12 yX12_go wsX12_go) := goodIn_app (goodIn_of _ (by decide +kernel)) ggX12_readUnit_X12_go
theorem in_X12_systems_X12 : ∀ w ∈ wsX120, w ∈ wsX12_systems := fun _ h => List.mem_cons_of_mem _ (List.mem_append_right _ h)
def cks_X12_systems : List (List Cond) := [wsX12_systems_r1, wsX12_systems_r2, wsX12_systems_r3, wsX12_systems_r4]
theorem ck_X12_systems : ∀ c ∈ cks_X12_systems, ∀ w ∈ c, w ∈ wsX12_systems := fun c hc w hw => List.mem_cons_of_mem _ (List.mem_append_left _ (goodIn_cat [wsX12_systems_r1, wsX12_systems_r2, wsX12_systems_r3] wsX12_systems_r4 c hc w hw))
set_option maxRecDepth 20000 in
theorem zbX12_systems_X12_takes_0 : GoodIn wsX12_systems [Cond.code yX12_takes cX12_takes 4 none] := goodIn_k _ cks_X12_systems ck_X12_systems [(0, 14)] rfl (by decide +kernel)
set_option maxRecDepth 20000 in
theorem zbX12_systems_X12_takes_1 : GoodIn wsX12_systems wsX12_takes_r1 := goodIn_k _ cks_X12_systems ck_X12_systems [(0, 15), (0, 16), (0, 17), (0, 18), (0, 19), (0, 20), (0, 21), (0, 13), (0, 22), (0, 23), (1, 0), (1, 1), (1, 2), (1, 3), (1, 4), (1, 5), (1, 6), (0, 4), (1, 7), (1, 8), (1, 9), (1, 10), (1, 11), (1, 12)] rfl (by decide +kernel)
set_option maxRecDepth 20000 in
theorem zbX12_systems_X12_takes_2 : GoodIn wsX12_systems wsX12_takes_r2 := goodIn_k _ cks_X12_systems ck_X12_systems [(1, 13), (1, 14), (1, 15), (1, 16), (1, 17), (1, 18), (1, 19), (1, 20), (1, 21), (1, 22), (1, 23), (2, 0), (2, 1), (2, 2), (2, 3), (2, 4), (2, 5)] rfl (by decide +kernel)
set_option maxRecDepth 20000 in
theorem ggX12_systems_X12_takes : GoodIn wsX12_systems wsX12_takes := (goodIn_ca (goodIn_cc zbX12_systems_X12_takes_0 (goodIn_app zbX12_systems_X12_takes_1 zbX12_systems_X12_takes_2)) (goodIn_sub in_X12_systems_X12 zgw_X12))
set_option maxRecDepth 20000 in
theorem gX12_systems_X12_takes : GoodIn wsX12_systems (wsV RX12 191 RX12 yX12_takes wsX12_takes) := goodIn_app (goodIn_of _ (by decide +kernel)) ggX12_systems_X12_takes
set_option maxRecDepth 20000 in
theorem zbX12_systems_X12_isKey : GoodIn wsX12_systems (Cond.code yX12_isKey cX12_isKey 3 (some .boolean) :: [.fieldLink RX12 117 "ClayAccountsModel" "kind" "I", .fieldLink RX12 129 "ClayAccountsModel" "name" "J"]) := goodIn_k _ cks_X12_systems ck_X12_systems [(2, 9), (0, 4), (1, 8)] rfl (by decide +kernel)
set_option maxRecDepth 20000 in
theorem ggX12_systems_X12_isKey : GoodIn wsX12_systems wsX12_isKey := (goodIn_ca zbX12_systems_X12_isKey (goodIn_sub in_X12_systems_X12 zgw_X12))
set_option maxRecDepth 20000 in
theorem gX12_systems_X12_isKey : GoodIn wsX12_systems (wsV RX12 194 RX12 yX12_isKey wsX12_isKey) := goodIn_app (goodIn_of _ (by decide +kernel)) ggX12_systems_X12_isKey
set_option maxRecDepth 20000 in
theorem zbX12_systems_X12_bad : GoodIn wsX12_systems (Cond.code yX12_bad cX12_bad 2 (some .boolean) :: [.fieldLink RX12 117 "ClayAccountsModel" "kind" "I", .fieldLink RX12 150 "ClayAccountsModel" "fault" "I", .fieldLink RX12 111 "ClayAccountsModel" "from" "I", .fieldLink RX12 153 "ClayAccountsModel" "place" "I"]) := goodIn_k _ cks_X12_systems ck_X12_systems [(2, 13), (0, 4), (0, 1), (1, 6), (0, 3)] rfl (by decide +kernel)
set_option maxRecDepth 20000 in
theorem ggX12_systems_X12_bad : GoodIn wsX12_systems wsX12_bad := (goodIn_ca zbX12_systems_X12_bad (goodIn_sub in_X12_systems_X12 zgw_X12))
set_option maxRecDepth 20000 in
theorem gX12_systems_X12_bad : GoodIn wsX12_systems (wsV RX12 176 RX12 yX12_bad wsX12_bad) := goodIn_app (goodIn_of _ (by decide +kernel)) ggX12_systems_X12_bad
set_option maxRecDepth 20000 in
theorem zbX12_systems_X12_go_0 : GoodIn wsX12_systems [Cond.code yX12_go cX12_go 5 none] := goodIn_k _ cks_X12_systems ck_X12_systems [(1, 5)] rfl (by decide +kernel)
set_option maxRecDepth 20000 in
theorem zbX12_systems_X12_go_1 : GoodIn wsX12_systems wsX12_go_r1 := goodIn_k _ cks_X12_systems ck_X12_systems [(1, 1), (0, 16), (0, 17), (1, 6), (0, 23), (0, 4), (1, 7), (1, 8), (1, 9), (1, 10), (1, 11), (1, 12), (1, 13), (1, 14), (0, 13), (1, 15), (1, 16), (1, 17), (1, 18), (1, 19), (1, 0), (1, 20), (1, 21), (1, 22)] rfl (by decide +kernel)
set_option maxRecDepth 20000 in
theorem zbX12_systems_X12_go_2 : GoodIn wsX12_systems wsX12_go_r2 := goodIn_k _ cks_X12_systems ck_X12_systems [(1, 23), (2, 0), (2, 1), (2, 2), (2, 3), (2, 4), (2, 5)] rfl (by decide +kernel)
set_option maxRecDepth 20000 in
theorem ggX12_systems_X12_go : GoodIn wsX12_systems wsX12_go := (goodIn_ca (goodIn_cc zbX12_systems_X12_go_0 (goodIn_app zbX12_systems_X12_go_1 zbX12_systems_X12_go_2)) (goodIn_sub in_X12_systems_X12 zgw_X12))
set_option maxRecDepth 20000 in
theorem gX12_systems_X12_go : GoodIn wsX12_systems (wsV RX12 169 RX12 yX12_go wsX12_go) := goodIn_app (goodIn_of _ (by decide +kernel)) ggX12_systems_X12_go
set_option maxRecDepth 20000 in
theorem zbX12_systems_X12_readSystem_0 : GoodIn wsX12_systems [Cond.code yX12_readSystem cX12_readSystem 3 (some .boolean)] := goodIn_k _ cks_X12_systems ck_X12_systems [(2, 17)] rfl (by decide +kernel)
set_option maxRecDepth 20000 in
theorem zbX12_systems_X12_readSystem_1 : GoodIn wsX12_systems wsX12_readSystem_r1 := goodIn_k _ cks_X12_systems ck_X12_systems [(2, 18), (0, 6), (1, 8), (0, 4), (0, 8), (1, 12), (1, 11), (2, 19), (2, 20), (2, 21), (0, 13), (2, 22), (0, 2), (2, 23), (3, 0), (2, 10), (2, 11), (2, 12), (2, 13), (0, 1), (1, 6), (0, 3), (3, 1), (3, 2)] rfl (by decide +kernel)
set_option maxRecDepth 20000 in
theorem zbX12_systems_X12_readSystem_2 : GoodIn wsX12_systems wsX12_readSystem_r2 := goodIn_k _ cks_X12_systems ck_X12_systems [(3, 3), (3, 4), (0, 7), (1, 2), (1, 3), (1, 4), (1, 5), (1, 1), (0, 16), (0, 17), (0, 23), (1, 7), (1, 9), (1, 10), (1, 13), (1, 14), (1, 15), (1, 16), (1, 17), (1, 18), (1, 19), (1, 0), (1, 20), (1, 21)] rfl (by decide +kernel)
set_option maxRecDepth 20000 in
theorem zbX12_systems_X12_readSystem_3 : GoodIn wsX12_systems wsX12_readSystem_r3 := goodIn_k _ cks_X12_systems ck_X12_systems [(1, 22), (1, 23), (2, 0), (2, 1), (2, 2), (2, 3), (2, 4), (2, 5), (3, 5), (3, 6), (3, 7), (3, 8), (3, 9), (3, 10), (3, 11), (3, 12), (3, 13), (3, 14), (3, 15), (3, 16)] rfl (by decide +kernel)
set_option maxRecDepth 20000 in
theorem ggX12_systems_X12_readSystem : GoodIn wsX12_systems wsX12_readSystem := (goodIn_ca (goodIn_cc zbX12_systems_X12_readSystem_0 (goodIn_app zbX12_systems_X12_readSystem_1 (goodIn_app zbX12_systems_X12_readSystem_2 zbX12_systems_X12_readSystem_3))) (goodIn_sub in_X12_systems_X12 zgw_X12))
set_option maxRecDepth 20000 in
theorem gX12_systems_X12_readSystem : GoodIn wsX12_systems (wsV RX12 198 RX12 yX12_readSystem wsX12_readSystem) := goodIn_app (goodIn_of _ (by decide +kernel)) ggX12_systems_X12_readSystem
set_option maxRecDepth 20000 in
theorem zbX12_systems_X12_forget : GoodIn wsX12_systems (Cond.code yX12_forget cX12_forget 1 none :: [.fieldLink RX12 307 "ClayAccountsModel" "made" "Z", .fieldLink RX12 310 "ClayAccountsModel" "sure" "I"]) := goodIn_k _ cks_X12_systems ck_X12_systems [(3, 20), (3, 21), (3, 22)] rfl (by decide +kernel)
set_option maxRecDepth 20000 in
theorem ggX12_systems_X12_forget : GoodIn wsX12_systems wsX12_forget := (goodIn_ca zbX12_systems_X12_forget (goodIn_sub in_X12_systems_X12 zgw_X12))
set_option maxRecDepth 20000 in
theorem gX12_systems_X12_forget : GoodIn wsX12_systems (wsV RX12 207 RX12 yX12_forget wsX12_forget) := goodIn_app (goodIn_of _ (by decide +kernel)) ggX12_systems_X12_forget
theorem in_X12_system_X12 : ∀ w ∈ wsX120, w ∈ wsX12_system := fun _ h => List.mem_cons_of_mem _ (List.mem_append_right _ h)
set_option maxRecDepth 20000 in
theorem zbX12_system_X12_refuse : GoodIn wsX12_system (Cond.code yX12_refuse cX12_refuse 1 (some .int) :: [.fieldLink RX12 86 "ClayAccountsModel" "thrown" "I"]) := goodIn_r _ [9, 2] rfl (by decide +kernel)
set_option maxRecDepth 20000 in
theorem ggX12_system_X12_refuse : GoodIn wsX12_system wsX12_refuse := (goodIn_ca zbX12_system_X12_refuse (goodIn_sub in_X12_system_X12 zgw_X12))
set_option maxRecDepth 20000 in
theorem gX12_system_X12_refuse : GoodIn wsX12_system (wsV RX12 210 RX12 yX12_refuse wsX12_refuse) := goodIn_app (goodIn_of _ (by decide +kernel)) ggX12_system_X12_refuse
theorem in_X12_outName_X12 : ∀ w ∈ wsX120, w ∈ wsX12_outName := fun _ h => List.mem_cons_of_mem _ (List.mem_append_right _ h)
set_option maxRecDepth 20000 in
theorem zbX12_outName_X12_outByte : GoodIn wsX12_outName (Cond.code yX12_outByte cX12_outByte 2 none :: [.fieldLink RX12 29 "ClayAccountsModel" "out" "[I", .fieldLink RX12 214 "ClayAccountsModel" "outs" "I"]) := goodIn_r _ [6, 7, 8] rfl (by decide +kernel)
set_option maxRecDepth 20000 in
theorem ggX12_outName_X12_outByte : GoodIn wsX12_outName wsX12_outByte := (goodIn_ca zbX12_outName_X12_outByte (goodIn_sub in_X12_outName_X12 zgw_X12))
set_option maxRecDepth 20000 in
theorem gX12_outName_X12_outByte : GoodIn wsX12_outName (wsV RX12 217 RX12 yX12_outByte wsX12_outByte) := goodIn_app (goodIn_of _ (by decide +kernel)) ggX12_outName_X12_outByte
theorem in_X12_write_X12 : ∀ w ∈ wsX120, w ∈ wsX12_write := fun _ h => List.mem_cons_of_mem _ (List.mem_append_right _ h)
set_option maxRecDepth 20000 in
theorem zbX12_write_X12_worth : GoodIn wsX12_write (Cond.code yX12_worth cX12_worth 5 (some .int) :: [.fieldLink RX12 26 "ClayAccountsModel" "factor" "[I"]) := goodIn_r _ [10, 11] rfl (by decide +kernel)
set_option maxRecDepth 20000 in
theorem ggX12_write_X12_worth : GoodIn wsX12_write wsX12_worth := (goodIn_ca zbX12_write_X12_worth (goodIn_sub in_X12_write_X12 zgw_X12))
set_option maxRecDepth 20000 in
theorem gX12_write_X12_worth : GoodIn wsX12_write (wsV RX12 220 RX12 yX12_worth wsX12_worth) := goodIn_app (goodIn_of _ (by decide +kernel)) ggX12_write_X12_worth
set_option maxRecDepth 20000 in
theorem zbX12_write_X12_outByte : GoodIn wsX12_write (Cond.code yX12_outByte cX12_outByte 2 none :: [.fieldLink RX12 29 "ClayAccountsModel" "out" "[I", .fieldLink RX12 214 "ClayAccountsModel" "outs" "I"]) := goodIn_r _ [15, 16, 4] rfl (by decide +kernel)
set_option maxRecDepth 20000 in
theorem ggX12_write_X12_outByte : GoodIn wsX12_write wsX12_outByte := (goodIn_ca zbX12_write_X12_outByte (goodIn_sub in_X12_write_X12 zgw_X12))
set_option maxRecDepth 20000 in
theorem gX12_write_X12_outByte : GoodIn wsX12_write (wsV RX12 217 RX12 yX12_outByte wsX12_outByte) := goodIn_app (goodIn_of _ (by decide +kernel)) ggX12_write_X12_outByte
set_option maxRecDepth 20000 in
theorem zbX12_write_X12_outName : GoodIn wsX12_write (Cond.code yX12_outName cX12_outName 5 none :: [.constantLong RX12 137 (27), .methodLink RX12 217 yX12_outByte, .instanceMethod yX12_outByte, .selects RX12 yX12_outByte yX12_outByte, .initialized RX12, .code yX12_outByte cX12_outByte 2 none, .fieldLink RX12 29 "ClayAccountsModel" "out" "[I", .fieldLink RX12 214 "ClayAccountsModel" "outs" "I"]) := goodIn_r _ [20, 21, 12, 13, 14, 9, 15, 16, 4] rfl (by decide +kernel)
set_option maxRecDepth 20000 in
theorem ggX12_write_X12_outName : GoodIn wsX12_write wsX12_outName := (goodIn_ca zbX12_write_X12_outName (goodIn_sub in_X12_write_X12 zgw_X12))
set_option maxRecDepth 20000 in
theorem gX12_write_X12_outName : GoodIn wsX12_write (wsV RX12 224 RX12 yX12_outName wsX12_outName) := goodIn_app (goodIn_of _ (by decide +kernel)) ggX12_write_X12_outName
theorem in_X12_octet_X12 : ∀ w ∈ wsX120, w ∈ wsX12_octet := fun _ h => List.mem_cons_of_mem _ (List.mem_append_right _ h)
set_option maxRecDepth 20000 in
theorem zbX12_octet_X12_refuse : GoodIn wsX12_octet (Cond.code yX12_refuse cX12_refuse 1 (some .int) :: [.fieldLink RX12 86 "ClayAccountsModel" "thrown" "I"]) := goodIn_r _ [8, 2] rfl (by decide +kernel)
set_option maxRecDepth 20000 in
theorem ggX12_octet_X12_refuse : GoodIn wsX12_octet wsX12_refuse := (goodIn_ca zbX12_octet_X12_refuse (goodIn_sub in_X12_octet_X12 zgw_X12))
set_option maxRecDepth 20000 in
theorem gX12_octet_X12_refuse : GoodIn wsX12_octet (wsV RX12 210 RX12 yX12_refuse wsX12_refuse) := goodIn_app (goodIn_of _ (by decide +kernel)) ggX12_octet_X12_refuse
set_option maxRecDepth 20000 in
theorem zbX12_canBe_X12_isGood : GoodIn wsX12_canBe (Cond.code yX12_isGood cX12_isGood 5 (some .boolean) :: []) := goodIn_r _ [5] rfl (by decide +kernel)
set_option maxRecDepth 20000 in
theorem ggX12_canBe_X12_isGood : GoodIn wsX12_canBe wsX12_isGood := zbX12_canBe_X12_isGood
set_option maxRecDepth 20000 in
theorem gX12_canBe_X12_isGood : GoodIn wsX12_canBe (wsV RX12 234 RX12 yX12_isGood wsX12_isGood) := goodIn_app (goodIn_of _ (by decide +kernel)) ggX12_canBe_X12_isGood
def cks_X12_readAmount : List (List Cond) := [wsX12_readAmount_r1, wsX12_readAmount_r2, wsX12_readAmount_r3, wsX12_readAmount_r4]
theorem ck_X12_readAmount : ∀ c ∈ cks_X12_readAmount, ∀ w ∈ c, w ∈ wsX12_readAmount := fun c hc w hw => List.mem_cons_of_mem _ (List.mem_append_left _ (goodIn_cat [wsX12_readAmount_r1, wsX12_readAmount_r2, wsX12_readAmount_r3] wsX12_readAmount_r4 c hc w hw))
set_option maxRecDepth 20000 in
theorem zbX12_readAmount_X12_canBe : GoodIn wsX12_readAmount (Cond.code yX12_canBe cX12_canBe 6 (some .boolean) :: [.methodLink RX12 234 yX12_isGood, .instanceMethod yX12_isGood, .selects RX12 yX12_isGood yX12_isGood, .initialized RX12, .code yX12_isGood cX12_isGood 5 (some .boolean)]) := goodIn_k _ cks_X12_readAmount ck_X12_readAmount [(0, 16), (0, 17), (0, 18), (0, 19), (0, 15), (0, 20)] rfl (by decide +kernel)
set_option maxRecDepth 20000 in
theorem ggX12_readAmount_X12_canBe : GoodIn wsX12_readAmount wsX12_canBe := zbX12_readAmount_X12_canBe
set_option maxRecDepth 20000 in
theorem gX12_readAmount_X12_canBe : GoodIn wsX12_readAmount (wsV RX12 238 RX12 yX12_canBe wsX12_canBe) := goodIn_app (goodIn_of _ (by decide +kernel)) ggX12_readAmount_X12_canBe
theorem in_X12_readAmount_X12 : ∀ w ∈ wsX120, w ∈ wsX12_readAmount := fun _ h => List.mem_cons_of_mem _ (List.mem_append_right _ h)
set_option maxRecDepth 20000 in
theorem zbX12_readAmount_X12_bad : GoodIn wsX12_readAmount (Cond.code yX12_bad cX12_bad 2 (some .boolean) :: [.fieldLink RX12 117 "ClayAccountsModel" "kind" "I", .fieldLink RX12 150 "ClayAccountsModel" "fault" "I", .fieldLink RX12 111 "ClayAccountsModel" "from" "I", .fieldLink RX12 153 "ClayAccountsModel" "place" "I"]) := goodIn_k _ cks_X12_readAmount ck_X12_readAmount [(1, 0), (0, 4), (1, 1), (0, 0), (1, 2)] rfl (by decide +kernel)
set_option maxRecDepth 20000 in
theorem ggX12_readAmount_X12_bad : GoodIn wsX12_readAmount wsX12_bad := (goodIn_ca zbX12_readAmount_X12_bad (goodIn_sub in_X12_readAmount_X12 zgw_X12))
set_option maxRecDepth 20000 in
theorem gX12_readAmount_X12_bad : GoodIn wsX12_readAmount (wsV RX12 176 RX12 yX12_bad wsX12_bad) := goodIn_app (goodIn_of _ (by decide +kernel)) ggX12_readAmount_X12_bad
set_option maxRecDepth 20000 in
theorem zbX12_readAmount_X12_go_0 : GoodIn wsX12_readAmount [Cond.code yX12_go cX12_go 5 none] := goodIn_k _ cks_X12_readAmount ck_X12_readAmount [(1, 6)] rfl (by decide +kernel)
set_option maxRecDepth 20000 in
theorem zbX12_readAmount_X12_go_1 : GoodIn wsX12_readAmount wsX12_go_r1 := goodIn_k _ cks_X12_readAmount ck_X12_readAmount [(1, 7), (1, 8), (1, 9), (0, 0), (1, 10), (0, 4), (1, 11), (1, 12), (1, 13), (1, 14), (0, 1), (0, 2), (1, 15), (1, 16), (0, 15), (1, 17), (1, 18), (1, 19), (1, 20), (1, 21), (1, 22), (1, 23), (2, 0), (2, 1)] rfl (by decide +kernel)
set_option maxRecDepth 20000 in
theorem zbX12_readAmount_X12_go_2 : GoodIn wsX12_readAmount wsX12_go_r2 := goodIn_k _ cks_X12_readAmount ck_X12_readAmount [(2, 2), (2, 3), (2, 4), (2, 5), (2, 6), (2, 7), (2, 8)] rfl (by decide +kernel)
set_option maxRecDepth 20000 in
theorem ggX12_readAmount_X12_go : GoodIn wsX12_readAmount wsX12_go := (goodIn_ca (goodIn_cc zbX12_readAmount_X12_go_0 (goodIn_app zbX12_readAmount_X12_go_1 zbX12_readAmount_X12_go_2)) (goodIn_sub in_X12_readAmount_X12 zgw_X12))
set_option maxRecDepth 20000 in
theorem gX12_readAmount_X12_go : GoodIn wsX12_readAmount (wsV RX12 169 RX12 yX12_go wsX12_go) := goodIn_app (goodIn_of _ (by decide +kernel)) ggX12_readAmount_X12_go
set_option maxRecDepth 20000 in
theorem zbX12_readAmount_X12_isFree : GoodIn wsX12_readAmount (Cond.code yX12_isFree cX12_isFree 1 (some .boolean) :: [.fieldLink RX12 117 "ClayAccountsModel" "kind" "I", .fieldLink RX12 129 "ClayAccountsModel" "name" "J", .fieldLink RX12 156 "ClayAccountsModel" "SYSTEM_NAME" "J", .fieldLink RX12 159 "ClayAccountsModel" "TOTAL_NAME" "J", .fieldLink RX12 162 "ClayAccountsModel" "GRAND_NAME" "J"]) := goodIn_k _ cks_X12_readAmount ck_X12_readAmount [(2, 12), (0, 4), (1, 12), (2, 13), (2, 14), (2, 15)] rfl (by decide +kernel)
set_option maxRecDepth 20000 in
theorem ggX12_readAmount_X12_isFree : GoodIn wsX12_readAmount wsX12_isFree := (goodIn_ca zbX12_readAmount_X12_isFree (goodIn_sub in_X12_readAmount_X12 zgw_X12))
set_option maxRecDepth 20000 in
theorem gX12_readAmount_X12_isFree : GoodIn wsX12_readAmount (wsV RX12 172 RX12 yX12_isFree wsX12_isFree) := goodIn_app (goodIn_of _ (by decide +kernel)) ggX12_readAmount_X12_isFree
set_option maxRecDepth 20000 in
theorem zbX12_readAmount_X12_isUnit : GoodIn wsX12_readAmount (Cond.code yX12_isUnit cX12_isUnit 3 (some .boolean) :: [.fieldLink RX12 201 "ClayAccountsModel" "systems" "I", .fieldLink RX12 23 "ClayAccountsModel" "units" "[I", .fieldLink RX12 117 "ClayAccountsModel" "kind" "I", .fieldLink RX12 20 "ClayAccountsModel" "unitName" "[J", .fieldLink RX12 129 "ClayAccountsModel" "name" "J", .fieldLink RX12 228 "ClayAccountsModel" "unitSystem" "I", .fieldLink RX12 231 "ClayAccountsModel" "unitNumber" "I"]) := goodIn_k _ cks_X12_readAmount ck_X12_readAmount [(2, 19), (2, 20), (2, 21), (0, 4), (2, 22), (1, 12), (0, 5), (0, 6)] rfl (by decide +kernel)
set_option maxRecDepth 20000 in
theorem ggX12_readAmount_X12_isUnit : GoodIn wsX12_readAmount wsX12_isUnit := (goodIn_ca zbX12_readAmount_X12_isUnit (goodIn_sub in_X12_readAmount_X12 zgw_X12))
set_option maxRecDepth 20000 in
theorem gX12_readAmount_X12_isUnit : GoodIn wsX12_readAmount (wsV RX12 241 RX12 yX12_isUnit wsX12_isUnit) := goodIn_app (goodIn_of _ (by decide +kernel)) ggX12_readAmount_X12_isUnit
set_option maxRecDepth 20000 in
theorem zbX12_readAmount_X12_mostOf : GoodIn wsX12_readAmount (Cond.code yX12_mostOf cX12_mostOf 3 (some .int) :: [.fieldLink RX12 23 "ClayAccountsModel" "units" "[I", .fieldLink RX12 26 "ClayAccountsModel" "factor" "[I"]) := goodIn_k _ cks_X12_readAmount ck_X12_readAmount [(3, 2), (2, 21), (3, 3)] rfl (by decide +kernel)
set_option maxRecDepth 20000 in
theorem ggX12_readAmount_X12_mostOf : GoodIn wsX12_readAmount wsX12_mostOf := (goodIn_ca zbX12_readAmount_X12_mostOf (goodIn_sub in_X12_readAmount_X12 zgw_X12))
set_option maxRecDepth 20000 in
theorem gX12_readAmount_X12_mostOf : GoodIn wsX12_readAmount (wsV RX12 244 RX12 yX12_mostOf wsX12_mostOf) := goodIn_app (goodIn_of _ (by decide +kernel)) ggX12_readAmount_X12_mostOf
set_option maxRecDepth 20000 in
theorem zbX12_readAmount_X12_badAt : GoodIn wsX12_readAmount (Cond.code yX12_badAt cX12_badAt 3 (some .boolean) :: [.fieldLink RX12 150 "ClayAccountsModel" "fault" "I", .fieldLink RX12 153 "ClayAccountsModel" "place" "I"]) := goodIn_k _ cks_X12_readAmount ck_X12_readAmount [(3, 7), (1, 1), (1, 2)] rfl (by decide +kernel)
set_option maxRecDepth 20000 in
theorem ggX12_readAmount_X12_badAt : GoodIn wsX12_readAmount wsX12_badAt := (goodIn_ca zbX12_readAmount_X12_badAt (goodIn_sub in_X12_readAmount_X12 zgw_X12))
set_option maxRecDepth 20000 in
theorem gX12_readAmount_X12_badAt : GoodIn wsX12_readAmount (wsV RX12 247 RX12 yX12_badAt wsX12_badAt) := goodIn_app (goodIn_of _ (by decide +kernel)) ggX12_readAmount_X12_badAt
theorem in_X12_readTablet_X12 : ∀ w ∈ wsX120, w ∈ wsX12_readTablet := fun _ h => List.mem_cons_of_mem _ (List.mem_append_right _ h)
def cks_X12_readTablet : List (List Cond) := [wsX12_readTablet_r1, wsX12_readTablet_r2, wsX12_readTablet_r3, wsX12_readTablet_r4]
theorem ck_X12_readTablet : ∀ c ∈ cks_X12_readTablet, ∀ w ∈ c, w ∈ wsX12_readTablet := fun c hc w hw => List.mem_cons_of_mem _ (List.mem_append_left _ (goodIn_cat [wsX12_readTablet_r1, wsX12_readTablet_r2, wsX12_readTablet_r3] wsX12_readTablet_r4 c hc w hw))
set_option maxRecDepth 20000 in
theorem zbX12_readTablet_X12_isKey : GoodIn wsX12_readTablet (Cond.code yX12_isKey cX12_isKey 3 (some .boolean) :: [.fieldLink RX12 117 "ClayAccountsModel" "kind" "I", .fieldLink RX12 129 "ClayAccountsModel" "name" "J"]) := goodIn_k _ cks_X12_readTablet ck_X12_readTablet [(0, 11), (0, 4), (0, 12)] rfl (by decide +kernel)
set_option maxRecDepth 20000 in
theorem ggX12_readTablet_X12_isKey : GoodIn wsX12_readTablet wsX12_isKey := (goodIn_ca zbX12_readTablet_X12_isKey (goodIn_sub in_X12_readTablet_X12 zgw_X12))
set_option maxRecDepth 20000 in
theorem gX12_readTablet_X12_isKey : GoodIn wsX12_readTablet (wsV RX12 194 RX12 yX12_isKey wsX12_isKey) := goodIn_app (goodIn_of _ (by decide +kernel)) ggX12_readTablet_X12_isKey
set_option maxRecDepth 20000 in
theorem zbX12_readTablet_X12_bad : GoodIn wsX12_readTablet (Cond.code yX12_bad cX12_bad 2 (some .boolean) :: [.fieldLink RX12 117 "ClayAccountsModel" "kind" "I", .fieldLink RX12 150 "ClayAccountsModel" "fault" "I", .fieldLink RX12 111 "ClayAccountsModel" "from" "I", .fieldLink RX12 153 "ClayAccountsModel" "place" "I"]) := goodIn_k _ cks_X12_readTablet ck_X12_readTablet [(0, 16), (0, 4), (0, 17), (0, 18), (0, 19)] rfl (by decide +kernel)
set_option maxRecDepth 20000 in
theorem ggX12_readTablet_X12_bad : GoodIn wsX12_readTablet wsX12_bad := (goodIn_ca zbX12_readTablet_X12_bad (goodIn_sub in_X12_readTablet_X12 zgw_X12))
set_option maxRecDepth 20000 in
theorem gX12_readTablet_X12_bad : GoodIn wsX12_readTablet (wsV RX12 176 RX12 yX12_bad wsX12_bad) := goodIn_app (goodIn_of _ (by decide +kernel)) ggX12_readTablet_X12_bad
set_option maxRecDepth 20000 in
theorem zbX12_readTablet_X12_go_0 : GoodIn wsX12_readTablet [Cond.code yX12_go cX12_go 5 none] := goodIn_k _ cks_X12_readTablet ck_X12_readTablet [(0, 23)] rfl (by decide +kernel)
set_option maxRecDepth 20000 in
theorem zbX12_readTablet_X12_go_1 : GoodIn wsX12_readTablet wsX12_go_r1 := goodIn_k _ cks_X12_readTablet ck_X12_readTablet [(1, 0), (1, 1), (1, 2), (0, 18), (1, 3), (0, 4), (1, 4), (0, 12), (1, 5), (1, 6), (1, 7), (1, 8), (1, 9), (1, 10), (0, 10), (1, 11), (1, 12), (1, 13), (1, 14), (1, 15), (1, 16), (1, 17), (1, 18), (1, 19)] rfl (by decide +kernel)
set_option maxRecDepth 20000 in
theorem zbX12_readTablet_X12_go_2 : GoodIn wsX12_readTablet wsX12_go_r2 := goodIn_k _ cks_X12_readTablet ck_X12_readTablet [(1, 20), (1, 21), (1, 22), (1, 23), (2, 0), (2, 1), (2, 2)] rfl (by decide +kernel)
set_option maxRecDepth 20000 in
theorem ggX12_readTablet_X12_go : GoodIn wsX12_readTablet wsX12_go := (goodIn_ca (goodIn_cc zbX12_readTablet_X12_go_0 (goodIn_app zbX12_readTablet_X12_go_1 zbX12_readTablet_X12_go_2)) (goodIn_sub in_X12_readTablet_X12 zgw_X12))
set_option maxRecDepth 20000 in
theorem gX12_readTablet_X12_go : GoodIn wsX12_readTablet (wsV RX12 169 RX12 yX12_go wsX12_go) := goodIn_app (goodIn_of _ (by decide +kernel)) ggX12_readTablet_X12_go
set_option maxRecDepth 20000 in
theorem zbX12_readTablet_X12_readAmount_0 : GoodIn wsX12_readTablet [Cond.code yX12_readAmount cX12_readAmount 11 (some .boolean)] := goodIn_k _ cks_X12_readTablet ck_X12_readTablet [(2, 6)] rfl (by decide +kernel)
set_option maxRecDepth 20000 in
theorem zbX12_readTablet_X12_readAmount_1 : GoodIn wsX12_readTablet wsX12_readAmount_r1 := goodIn_k _ cks_X12_readTablet ck_X12_readTablet [(0, 18), (1, 7), (1, 8), (0, 1), (0, 4), (2, 7), (2, 8), (0, 6), (2, 9), (2, 10), (2, 11), (2, 12), (2, 13), (2, 14), (2, 15), (0, 10), (2, 16), (2, 17), (2, 18), (2, 19), (2, 20), (0, 13), (0, 14), (0, 15)] rfl (by decide +kernel)
set_option maxRecDepth 20000 in
theorem zbX12_readTablet_X12_readAmount_2 : GoodIn wsX12_readTablet wsX12_readAmount_r2 := goodIn_k _ cks_X12_readTablet ck_X12_readTablet [(0, 16), (0, 17), (0, 19), (0, 20), (0, 21), (0, 22), (0, 23), (1, 0), (1, 1), (1, 2), (1, 3), (1, 4), (0, 12), (1, 5), (1, 6), (1, 9), (1, 10), (1, 11), (1, 12), (1, 13), (1, 14), (1, 15), (1, 16), (1, 17)] rfl (by decide +kernel)
set_option maxRecDepth 20000 in
theorem zbX12_readTablet_X12_readAmount_3 : GoodIn wsX12_readTablet wsX12_readAmount_r3 := goodIn_k _ cks_X12_readTablet ck_X12_readTablet [(1, 18), (1, 19), (1, 20), (1, 21), (1, 22), (1, 23), (2, 0), (2, 1), (2, 2), (2, 21), (2, 22), (2, 23), (3, 0), (3, 1), (0, 2), (0, 3), (3, 2), (3, 3), (3, 4), (3, 5), (3, 6), (3, 7), (3, 8), (3, 9)] rfl (by decide +kernel)
set_option maxRecDepth 20000 in
theorem zbX12_readTablet_X12_readAmount_4 : GoodIn wsX12_readTablet wsX12_readAmount_r4 := goodIn_k _ cks_X12_readTablet ck_X12_readTablet [(3, 10), (3, 11), (3, 12), (3, 13), (3, 14), (3, 15), (3, 16), (3, 17)] rfl (by decide +kernel)
set_option maxRecDepth 20000 in
theorem ggX12_readTablet_X12_readAmount : GoodIn wsX12_readTablet wsX12_readAmount := (goodIn_ca (goodIn_cc zbX12_readTablet_X12_readAmount_0 (goodIn_app zbX12_readTablet_X12_readAmount_1 (goodIn_app zbX12_readTablet_X12_readAmount_2 (goodIn_app zbX12_readTablet_X12_readAmount_3 zbX12_readTablet_X12_readAmount_4)))) (goodIn_sub in_X12_readTablet_X12 zgw_X12))
set_option maxRecDepth 20000 in
theorem gX12_readTablet_X12_readAmount : GoodIn wsX12_readTablet (wsV RX12 251 RX12 yX12_readAmount wsX12_readAmount) := goodIn_app (goodIn_of _ (by decide +kernel)) ggX12_readTablet_X12_readAmount
set_option maxRecDepth 20000 in
theorem zbX12_readTablet_X12_isFree : GoodIn wsX12_readTablet (Cond.code yX12_isFree cX12_isFree 1 (some .boolean) :: [.fieldLink RX12 117 "ClayAccountsModel" "kind" "I", .fieldLink RX12 129 "ClayAccountsModel" "name" "J", .fieldLink RX12 156 "ClayAccountsModel" "SYSTEM_NAME" "J", .fieldLink RX12 159 "ClayAccountsModel" "TOTAL_NAME" "J", .fieldLink RX12 162 "ClayAccountsModel" "GRAND_NAME" "J"]) := goodIn_k _ cks_X12_readTablet ck_X12_readTablet [(3, 0), (0, 4), (0, 12), (3, 1), (0, 2), (0, 3)] rfl (by decide +kernel)
set_option maxRecDepth 20000 in
theorem ggX12_readTablet_X12_isFree : GoodIn wsX12_readTablet wsX12_isFree := (goodIn_ca zbX12_readTablet_X12_isFree (goodIn_sub in_X12_readTablet_X12 zgw_X12))
set_option maxRecDepth 20000 in
theorem gX12_readTablet_X12_isFree : GoodIn wsX12_readTablet (wsV RX12 172 RX12 yX12_isFree wsX12_isFree) := goodIn_app (goodIn_of _ (by decide +kernel)) ggX12_readTablet_X12_isFree
set_option maxRecDepth 20000 in
theorem zbX12_readTablet_X12_isUnit : GoodIn wsX12_readTablet (Cond.code yX12_isUnit cX12_isUnit 3 (some .boolean) :: [.fieldLink RX12 201 "ClayAccountsModel" "systems" "I", .fieldLink RX12 23 "ClayAccountsModel" "units" "[I", .fieldLink RX12 117 "ClayAccountsModel" "kind" "I", .fieldLink RX12 20 "ClayAccountsModel" "unitName" "[J", .fieldLink RX12 129 "ClayAccountsModel" "name" "J", .fieldLink RX12 228 "ClayAccountsModel" "unitSystem" "I", .fieldLink RX12 231 "ClayAccountsModel" "unitNumber" "I"]) := goodIn_k _ cks_X12_readTablet ck_X12_readTablet [(3, 5), (3, 6), (3, 7), (0, 4), (3, 8), (0, 12), (2, 7), (2, 8)] rfl (by decide +kernel)
set_option maxRecDepth 20000 in
theorem ggX12_readTablet_X12_isUnit : GoodIn wsX12_readTablet wsX12_isUnit := (goodIn_ca zbX12_readTablet_X12_isUnit (goodIn_sub in_X12_readTablet_X12 zgw_X12))
set_option maxRecDepth 20000 in
theorem gX12_readTablet_X12_isUnit : GoodIn wsX12_readTablet (wsV RX12 241 RX12 yX12_isUnit wsX12_isUnit) := goodIn_app (goodIn_of _ (by decide +kernel)) ggX12_readTablet_X12_isUnit
set_option maxRecDepth 20000 in
theorem zbX12_readTablet_X12_isSign : GoodIn wsX12_readTablet (Cond.code yX12_isSign cX12_isSign 2 (some .boolean) :: [.fieldLink RX12 117 "ClayAccountsModel" "kind" "I", .fieldLink RX12 126 "ClayAccountsModel" "sign" "I"]) := goodIn_k _ cks_X12_readTablet ck_X12_readTablet [(3, 21), (0, 4), (1, 4)] rfl (by decide +kernel)
set_option maxRecDepth 20000 in
theorem ggX12_readTablet_X12_isSign : GoodIn wsX12_readTablet wsX12_isSign := (goodIn_ca zbX12_readTablet_X12_isSign (goodIn_sub in_X12_readTablet_X12 zgw_X12))
set_option maxRecDepth 20000 in
theorem gX12_readTablet_X12_isSign : GoodIn wsX12_readTablet (wsV RX12 182 RX12 yX12_isSign wsX12_isSign) := goodIn_app (goodIn_of _ (by decide +kernel)) ggX12_readTablet_X12_isSign
theorem in_X12_tablet_X12 : ∀ w ∈ wsX120, w ∈ wsX12_tablet := fun _ h => List.mem_cons_of_mem _ (List.mem_append_right _ h)
def cks_X12_tablet : List (List Cond) := [wsX12_tablet_r1, wsX12_tablet_r2, wsX12_tablet_r3, wsX12_tablet_r4, wsX12_tablet_r5]
theorem ck_X12_tablet : ∀ c ∈ cks_X12_tablet, ∀ w ∈ c, w ∈ wsX12_tablet := fun c hc w hw => List.mem_cons_of_mem _ (List.mem_append_left _ (goodIn_cat [wsX12_tablet_r1, wsX12_tablet_r2, wsX12_tablet_r3, wsX12_tablet_r4] wsX12_tablet_r5 c hc w hw))
set_option maxRecDepth 20000 in
theorem zbX12_tablet_X12_takes_0 : GoodIn wsX12_tablet [Cond.code yX12_takes cX12_takes 4 none] := goodIn_k _ cks_X12_tablet ck_X12_tablet [(0, 10)] rfl (by decide +kernel)
set_option maxRecDepth 20000 in
theorem zbX12_tablet_X12_takes_1 : GoodIn wsX12_tablet wsX12_takes_r1 := goodIn_k _ cks_X12_tablet ck_X12_tablet [(0, 3), (0, 11), (0, 12), (0, 13), (0, 14), (0, 15), (0, 16), (0, 9), (0, 17), (0, 18), (0, 19), (0, 20), (0, 21), (0, 22), (0, 23), (1, 0), (1, 1), (1, 2), (1, 3), (1, 4), (1, 5), (1, 6), (1, 7), (1, 8)] rfl (by decide +kernel)
set_option maxRecDepth 20000 in
theorem zbX12_tablet_X12_takes_2 : GoodIn wsX12_tablet wsX12_takes_r2 := goodIn_k _ cks_X12_tablet ck_X12_tablet [(1, 9), (1, 10), (1, 11), (1, 12), (1, 13), (1, 14), (1, 15), (1, 16), (1, 17), (1, 18), (1, 19), (1, 20), (1, 21), (1, 22), (1, 23), (2, 0), (2, 1)] rfl (by decide +kernel)
set_option maxRecDepth 20000 in
theorem ggX12_tablet_X12_takes : GoodIn wsX12_tablet wsX12_takes := (goodIn_ca (goodIn_cc zbX12_tablet_X12_takes_0 (goodIn_app zbX12_tablet_X12_takes_1 zbX12_tablet_X12_takes_2)) (goodIn_sub in_X12_tablet_X12 zgw_X12))
set_option maxRecDepth 20000 in
theorem gX12_tablet_X12_takes : GoodIn wsX12_tablet (wsV RX12 191 RX12 yX12_takes wsX12_takes) := goodIn_app (goodIn_of _ (by decide +kernel)) ggX12_tablet_X12_takes
set_option maxRecDepth 20000 in
theorem zbX12_tablet_X12_readTablet_0 : GoodIn wsX12_tablet [Cond.code yX12_readTablet cX12_readTablet 5 (some .boolean)] := goodIn_k _ cks_X12_tablet ck_X12_tablet [(2, 5)] rfl (by decide +kernel)
set_option maxRecDepth 20000 in
theorem zbX12_tablet_X12_readTablet_1 : GoodIn wsX12_tablet wsX12_readTablet_r1 := goodIn_k _ cks_X12_tablet ck_X12_tablet [(2, 6), (2, 7), (2, 8), (2, 9), (1, 2), (2, 10), (2, 11), (2, 12), (2, 13), (2, 14), (0, 9), (2, 15), (1, 4), (2, 16), (2, 17), (2, 18), (2, 19), (0, 4), (1, 1), (0, 5), (0, 21), (0, 22), (0, 23), (1, 0)] rfl (by decide +kernel)
set_option maxRecDepth 20000 in
theorem zbX12_tablet_X12_readTablet_2 : GoodIn wsX12_tablet wsX12_readTablet_r2 := goodIn_k _ cks_X12_tablet ck_X12_tablet [(0, 20), (0, 11), (0, 12), (0, 18), (1, 3), (1, 5), (1, 6), (1, 7), (1, 8), (1, 9), (1, 10), (1, 11), (1, 12), (1, 13), (1, 14), (1, 15), (0, 19), (1, 16), (1, 17), (1, 18), (1, 19), (1, 20), (1, 21), (1, 22)] rfl (by decide +kernel)
set_option maxRecDepth 20000 in
theorem zbX12_tablet_X12_readTablet_3 : GoodIn wsX12_tablet wsX12_readTablet_r3 := goodIn_k _ cks_X12_tablet ck_X12_tablet [(1, 23), (2, 0), (2, 1), (2, 20), (2, 21), (2, 22), (2, 23), (3, 0), (3, 1), (3, 2), (3, 3), (3, 4), (3, 5), (3, 6), (3, 7), (3, 8), (3, 9), (3, 10), (3, 11), (3, 12), (3, 13), (3, 14), (3, 15), (3, 16)] rfl (by decide +kernel)
set_option maxRecDepth 20000 in
theorem zbX12_tablet_X12_readTablet_4 : GoodIn wsX12_tablet wsX12_readTablet_r4 := goodIn_k _ cks_X12_tablet ck_X12_tablet [(3, 17), (3, 18), (3, 19), (3, 20), (3, 21), (3, 22), (0, 2), (3, 23), (4, 0), (4, 1), (4, 2), (4, 3), (4, 4), (4, 5), (4, 6), (4, 7), (4, 8), (4, 9), (4, 10), (4, 11), (4, 12), (4, 13)] rfl (by decide +kernel)
set_option maxRecDepth 20000 in
theorem ggX12_tablet_X12_readTablet : GoodIn wsX12_tablet wsX12_readTablet := (goodIn_ca (goodIn_cc zbX12_tablet_X12_readTablet_0 (goodIn_app zbX12_tablet_X12_readTablet_1 (goodIn_app zbX12_tablet_X12_readTablet_2 (goodIn_app zbX12_tablet_X12_readTablet_3 zbX12_tablet_X12_readTablet_4)))) (goodIn_sub in_X12_tablet_X12 zgw_X12))
set_option maxRecDepth 20000 in
theorem gX12_tablet_X12_readTablet : GoodIn wsX12_tablet (wsV RX12 254 RX12 yX12_readTablet wsX12_readTablet) := goodIn_app (goodIn_of _ (by decide +kernel)) ggX12_tablet_X12_readTablet
theorem in_X12_isLine_X12 : ∀ w ∈ wsX120, w ∈ wsX12_isLine := fun _ h => List.mem_cons_of_mem _ (List.mem_append_right _ h)
set_option maxRecDepth 20000 in
theorem zbX12_isLine_X12_isTablet : GoodIn wsX12_isLine (Cond.code yX12_isTablet cX12_isTablet 2 (some .boolean) :: [.fieldLink RX12 204 "ClayAccountsModel" "tablets" "I"]) := goodIn_r _ [6, 7] rfl (by decide +kernel)
set_option maxRecDepth 20000 in
theorem ggX12_isLine_X12_isTablet : GoodIn wsX12_isLine wsX12_isTablet := (goodIn_ca zbX12_isLine_X12_isTablet (goodIn_sub in_X12_isLine_X12 zgw_X12))
set_option maxRecDepth 20000 in
theorem gX12_isLine_X12_isTablet : GoodIn wsX12_isLine (wsV RX12 257 RX12 yX12_isTablet wsX12_isTablet) := goodIn_app (goodIn_of _ (by decide +kernel)) ggX12_isLine_X12_isTablet
theorem in_X12_fills_X12 : ∀ w ∈ wsX120, w ∈ wsX12_fills := fun _ h => List.mem_cons_of_mem _ (List.mem_append_right _ h)
set_option maxRecDepth 20000 in
theorem zbX12_fills_X12_mostOf : GoodIn wsX12_fills (Cond.code yX12_mostOf cX12_mostOf 3 (some .int) :: [.fieldLink RX12 23 "ClayAccountsModel" "units" "[I", .fieldLink RX12 26 "ClayAccountsModel" "factor" "[I"]) := goodIn_r _ [14, 15, 16] rfl (by decide +kernel)
set_option maxRecDepth 20000 in
theorem ggX12_fills_X12_mostOf : GoodIn wsX12_fills wsX12_mostOf := (goodIn_ca zbX12_fills_X12_mostOf (goodIn_sub in_X12_fills_X12 zgw_X12))
set_option maxRecDepth 20000 in
theorem gX12_fills_X12_mostOf : GoodIn wsX12_fills (wsV RX12 244 RX12 yX12_mostOf wsX12_mostOf) := goodIn_app (goodIn_of _ (by decide +kernel)) ggX12_fills_X12_mostOf
set_option maxRecDepth 20000 in
theorem zbX12_fills_X12_isGood : GoodIn wsX12_fills (Cond.code yX12_isGood cX12_isGood 5 (some .boolean) :: []) := goodIn_r _ [20] rfl (by decide +kernel)
set_option maxRecDepth 20000 in
theorem ggX12_fills_X12_isGood : GoodIn wsX12_fills wsX12_isGood := zbX12_fills_X12_isGood
set_option maxRecDepth 20000 in
theorem gX12_fills_X12_isGood : GoodIn wsX12_fills (wsV RX12 234 RX12 yX12_isGood wsX12_isGood) := goodIn_app (goodIn_of _ (by decide +kernel)) ggX12_fills_X12_isGood
set_option maxRecDepth 20000 in
theorem zbX12_fills_X12_worth : GoodIn wsX12_fills (Cond.code yX12_worth cX12_worth 5 (some .int) :: [.fieldLink RX12 26 "ClayAccountsModel" "factor" "[I"]) := goodIn_r _ [24, 16] rfl (by decide +kernel)
set_option maxRecDepth 20000 in
theorem ggX12_fills_X12_worth : GoodIn wsX12_fills wsX12_worth := (goodIn_ca zbX12_fills_X12_worth (goodIn_sub in_X12_fills_X12 zgw_X12))
set_option maxRecDepth 20000 in
theorem gX12_fills_X12_worth : GoodIn wsX12_fills (wsV RX12 220 RX12 yX12_worth wsX12_worth) := goodIn_app (goodIn_of _ (by decide +kernel)) ggX12_fills_X12_worth
theorem in_X12_readAll_X12 : ∀ w ∈ wsX120, w ∈ wsX12_readAll := fun _ h => List.mem_cons_of_mem _ (List.mem_append_right _ h)
def cks_X12_readAll : List (List Cond) := [wsX12_readAll_r1, wsX12_readAll_r2]
theorem ck_X12_readAll : ∀ c ∈ cks_X12_readAll, ∀ w ∈ c, w ∈ wsX12_readAll := fun c hc w hw => List.mem_cons_of_mem _ (List.mem_append_left _ (goodIn_cat [wsX12_readAll_r1] wsX12_readAll_r2 c hc w hw))
set_option maxRecDepth 20000 in
theorem zbX12_readAll_X12_ways : GoodIn wsX12_readAll (Cond.code yX12_ways cX12_ways 4 (some .int) :: [.fieldLink RX12 44 "ClayAccountsModel" "asked" "[I"]) := goodIn_k _ cks_X12_readAll ck_X12_readAll [(0, 10), (0, 11)] rfl (by decide +kernel)
set_option maxRecDepth 20000 in
theorem ggX12_readAll_X12_ways : GoodIn wsX12_readAll wsX12_ways := (goodIn_ca zbX12_readAll_X12_ways (goodIn_sub in_X12_readAll_X12 zgw_X12))
set_option maxRecDepth 20000 in
theorem gX12_readAll_X12_ways : GoodIn wsX12_readAll (wsV RX12 266 RX12 yX12_ways wsX12_ways) := goodIn_app (goodIn_of _ (by decide +kernel)) ggX12_readAll_X12_ways
set_option maxRecDepth 20000 in
theorem zbX12_readAll_X12_fills : GoodIn wsX12_readAll (Cond.code yX12_fills cX12_fills 12 (some .boolean) :: [.fieldLink RX12 44 "ClayAccountsModel" "asked" "[I", .fieldLink RX12 56 "ClayAccountsModel" "filled" "[I", .fieldLink RX12 32 "ClayAccountsModel" "lineMany" "[I", .fieldLink RX12 38 "ClayAccountsModel" "lineSystem" "[I", .fieldLink RX12 59 "ClayAccountsModel" "value" "[J", .fieldLink RX12 41 "ClayAccountsModel" "amounts" "[I", .fieldLink RX12 47 "ClayAccountsModel" "digit1" "[I", .fieldLink RX12 50 "ClayAccountsModel" "digit2" "[I", .fieldLink RX12 53 "ClayAccountsModel" "unitOf" "[I", .methodLink RX12 244 yX12_mostOf, .instanceMethod yX12_mostOf, .selects RX12 yX12_mostOf yX12_mostOf, .initialized RX12, .code yX12_mostOf cX12_mostOf 3 (some .int), .fieldLink RX12 23 "ClayAccountsModel" "units" "[I", .fieldLink RX12 26 "ClayAccountsModel" "factor" "[I", .methodLink RX12 234 yX12_isGood, .instanceMethod yX12_isGood, .selects RX12 yX12_isGood yX12_isGood, .code yX12_isGood cX12_isGood 5 (some .boolean), .methodLink RX12 220 yX12_worth, .instanceMethod yX12_worth, .selects RX12 yX12_worth yX12_worth, .code yX12_worth cX12_worth 5 (some .int)]) := goodIn_k _ cks_X12_readAll ck_X12_readAll [(0, 15), (0, 11), (0, 5), (0, 16), (0, 17), (0, 2), (0, 18), (0, 19), (0, 20), (0, 21), (0, 22), (0, 23), (1, 0), (0, 9), (1, 1), (1, 2), (1, 3), (1, 4), (1, 5), (1, 6), (1, 7), (1, 8), (1, 9), (1, 10), (1, 11)] rfl (by decide +kernel)
set_option maxRecDepth 20000 in
theorem ggX12_readAll_X12_fills : GoodIn wsX12_readAll wsX12_fills := (goodIn_ca zbX12_readAll_X12_fills (goodIn_sub in_X12_readAll_X12 zgw_X12))
set_option maxRecDepth 20000 in
theorem gX12_readAll_X12_fills : GoodIn wsX12_readAll (wsV RX12 269 RX12 yX12_fills wsX12_fills) := goodIn_app (goodIn_of _ (by decide +kernel)) ggX12_readAll_X12_fills
set_option maxRecDepth 20000 in
theorem zbX12_readAll_X12_wrongs : GoodIn wsX12_readAll (Cond.code yX12_wrongs cX12_wrongs 10 (some .int) :: [.fieldLink RX12 32 "ClayAccountsModel" "lineMany" "[I", .fieldLink RX12 35 "ClayAccountsModel" "lineKind" "[I", .fieldLink RX12 38 "ClayAccountsModel" "lineSystem" "[I", .fieldLink RX12 59 "ClayAccountsModel" "value" "[J"]) := goodIn_k _ cks_X12_readAll ck_X12_readAll [(1, 15), (0, 16), (1, 16), (0, 17), (0, 2)] rfl (by decide +kernel)
set_option maxRecDepth 20000 in
theorem ggX12_readAll_X12_wrongs : GoodIn wsX12_readAll wsX12_wrongs := (goodIn_ca zbX12_readAll_X12_wrongs (goodIn_sub in_X12_readAll_X12 zgw_X12))
set_option maxRecDepth 20000 in
theorem gX12_readAll_X12_wrongs : GoodIn wsX12_readAll (wsV RX12 272 RX12 yX12_wrongs wsX12_wrongs) := goodIn_app (goodIn_of _ (by decide +kernel)) ggX12_readAll_X12_wrongs
theorem in_X12_line_X12 : ∀ w ∈ wsX120, w ∈ wsX12_line := fun _ h => List.mem_cons_of_mem _ (List.mem_append_right _ h)
def cks_X12_line : List (List Cond) := [wsX12_line_r1, wsX12_line_r2]
theorem ck_X12_line : ∀ c ∈ cks_X12_line, ∀ w ∈ c, w ∈ wsX12_line := fun c hc w hw => List.mem_cons_of_mem _ (List.mem_append_left _ (goodIn_cat [wsX12_line_r1] wsX12_line_r2 c hc w hw))
set_option maxRecDepth 20000 in
theorem zbX12_line_X12_isLine : GoodIn wsX12_line (Cond.code yX12_isLine cX12_isLine 3 (some .boolean) :: [.fieldLink RX12 32 "ClayAccountsModel" "lineMany" "[I", .methodLink RX12 257 yX12_isTablet, .instanceMethod yX12_isTablet, .selects RX12 yX12_isTablet yX12_isTablet, .initialized RX12, .code yX12_isTablet cX12_isTablet 2 (some .boolean), .fieldLink RX12 204 "ClayAccountsModel" "tablets" "I"]) := goodIn_k _ cks_X12_line ck_X12_line [(0, 11), (0, 12), (0, 13), (0, 14), (0, 15), (0, 10), (0, 16), (0, 17)] rfl (by decide +kernel)
set_option maxRecDepth 20000 in
theorem ggX12_line_X12_isLine : GoodIn wsX12_line wsX12_isLine := (goodIn_ca zbX12_line_X12_isLine (goodIn_sub in_X12_line_X12 zgw_X12))
set_option maxRecDepth 20000 in
theorem gX12_line_X12_isLine : GoodIn wsX12_line (wsV RX12 281 RX12 yX12_isLine wsX12_isLine) := goodIn_app (goodIn_of _ (by decide +kernel)) ggX12_line_X12_isLine
set_option maxRecDepth 20000 in
theorem zbX12_line_X12_refuse : GoodIn wsX12_line (Cond.code yX12_refuse cX12_refuse 1 (some .int) :: [.fieldLink RX12 86 "ClayAccountsModel" "thrown" "I"]) := goodIn_k _ cks_X12_line ck_X12_line [(0, 21), (0, 0)] rfl (by decide +kernel)
set_option maxRecDepth 20000 in
theorem ggX12_line_X12_refuse : GoodIn wsX12_line wsX12_refuse := (goodIn_ca zbX12_line_X12_refuse (goodIn_sub in_X12_line_X12 zgw_X12))
set_option maxRecDepth 20000 in
theorem gX12_line_X12_refuse : GoodIn wsX12_line (wsV RX12 210 RX12 yX12_refuse wsX12_refuse) := goodIn_app (goodIn_of _ (by decide +kernel)) ggX12_line_X12_refuse
set_option maxRecDepth 20000 in
theorem zbX12_line_X12_worth : GoodIn wsX12_line (Cond.code yX12_worth cX12_worth 5 (some .int) :: [.fieldLink RX12 26 "ClayAccountsModel" "factor" "[I"]) := goodIn_k _ cks_X12_line ck_X12_line [(1, 1), (1, 2)] rfl (by decide +kernel)
set_option maxRecDepth 20000 in
theorem ggX12_line_X12_worth : GoodIn wsX12_line wsX12_worth := (goodIn_ca zbX12_line_X12_worth (goodIn_sub in_X12_line_X12 zgw_X12))
set_option maxRecDepth 20000 in
theorem gX12_line_X12_worth : GoodIn wsX12_line (wsV RX12 220 RX12 yX12_worth wsX12_worth) := goodIn_app (goodIn_of _ (by decide +kernel)) ggX12_line_X12_worth
theorem in_X12_lines_X12 : ∀ w ∈ wsX120, w ∈ wsX12_lines := fun _ h => List.mem_cons_of_mem _ (List.mem_append_right _ h)
set_option maxRecDepth 20000 in
theorem zbX12_lines_X12_isTablet : GoodIn wsX12_lines (Cond.code yX12_isTablet cX12_isTablet 2 (some .boolean) :: [.fieldLink RX12 204 "ClayAccountsModel" "tablets" "I"]) := goodIn_r _ [7, 8] rfl (by decide +kernel)
set_option maxRecDepth 20000 in
theorem ggX12_lines_X12_isTablet : GoodIn wsX12_lines wsX12_isTablet := (goodIn_ca zbX12_lines_X12_isTablet (goodIn_sub in_X12_lines_X12 zgw_X12))
set_option maxRecDepth 20000 in
theorem gX12_lines_X12_isTablet : GoodIn wsX12_lines (wsV RX12 257 RX12 yX12_isTablet wsX12_isTablet) := goodIn_app (goodIn_of _ (by decide +kernel)) ggX12_lines_X12_isTablet
theorem in_X12_readings_X12 : ∀ w ∈ wsX120, w ∈ wsX12_readings := fun _ h => List.mem_cons_of_mem _ (List.mem_append_right _ h)
def cks_X12_readings : List (List Cond) := [wsX12_readings_r1, wsX12_readings_r2, wsX12_readings_r3]
theorem ck_X12_readings : ∀ c ∈ cks_X12_readings, ∀ w ∈ c, w ∈ wsX12_readings := fun c hc w hw => List.mem_cons_of_mem _ (List.mem_append_left _ (goodIn_cat [wsX12_readings_r1, wsX12_readings_r2] wsX12_readings_r3 c hc w hw))
set_option maxRecDepth 20000 in
theorem zbX12_readings_X12_isTablet : GoodIn wsX12_readings (Cond.code yX12_isTablet cX12_isTablet 2 (some .boolean) :: [.fieldLink RX12 204 "ClayAccountsModel" "tablets" "I"]) := goodIn_k _ cks_X12_readings ck_X12_readings [(0, 6), (0, 7)] rfl (by decide +kernel)
set_option maxRecDepth 20000 in
theorem ggX12_readings_X12_isTablet : GoodIn wsX12_readings wsX12_isTablet := (goodIn_ca zbX12_readings_X12_isTablet (goodIn_sub in_X12_readings_X12 zgw_X12))
set_option maxRecDepth 20000 in
theorem gX12_readings_X12_isTablet : GoodIn wsX12_readings (wsV RX12 257 RX12 yX12_isTablet wsX12_isTablet) := goodIn_app (goodIn_of _ (by decide +kernel)) ggX12_readings_X12_isTablet
set_option maxRecDepth 20000 in
theorem zbX12_readings_X12_readAll_0 : GoodIn wsX12_readings [Cond.code yX12_readAll cX12_readAll 5 none] := goodIn_k _ cks_X12_readings ck_X12_readings [(0, 11)] rfl (by decide +kernel)
set_option maxRecDepth 20000 in
theorem zbX12_readings_X12_readAll_1 : GoodIn wsX12_readings wsX12_readAll_r1 := goodIn_k _ cks_X12_readings ck_X12_readings [(0, 1), (0, 12), (0, 13), (0, 14), (0, 15), (0, 16), (0, 17), (0, 18), (0, 19), (0, 5), (0, 20), (0, 21), (0, 22), (0, 23), (1, 0), (1, 1), (1, 2), (1, 3), (1, 4), (1, 5), (1, 6), (1, 7), (1, 8), (1, 9)] rfl (by decide +kernel)
set_option maxRecDepth 20000 in
theorem zbX12_readings_X12_readAll_2 : GoodIn wsX12_readings wsX12_readAll_r2 := goodIn_k _ cks_X12_readings ck_X12_readings [(1, 10), (1, 11), (1, 12), (1, 13), (1, 14), (1, 15), (1, 16), (1, 17), (1, 18), (1, 19), (1, 20), (1, 21), (1, 22), (1, 23), (2, 0), (2, 1), (2, 2)] rfl (by decide +kernel)
set_option maxRecDepth 20000 in
theorem ggX12_readings_X12_readAll : GoodIn wsX12_readings wsX12_readAll := (goodIn_ca (goodIn_cc zbX12_readings_X12_readAll_0 (goodIn_app zbX12_readings_X12_readAll_1 zbX12_readings_X12_readAll_2)) (goodIn_sub in_X12_readings_X12 zgw_X12))
set_option maxRecDepth 20000 in
theorem gX12_readings_X12_readAll : GoodIn wsX12_readings (wsV RX12 284 RX12 yX12_readAll wsX12_readAll) := goodIn_app (goodIn_of _ (by decide +kernel)) ggX12_readings_X12_readAll
theorem in_X12_bound_X12 : ∀ w ∈ wsX120, w ∈ wsX12_bound := fun _ h => List.mem_cons_of_mem _ (List.mem_append_right _ h)
def cks_X12_bound : List (List Cond) := [wsX12_bound_r1, wsX12_bound_r2, wsX12_bound_r3]
theorem ck_X12_bound : ∀ c ∈ cks_X12_bound, ∀ w ∈ c, w ∈ wsX12_bound := fun c hc w hw => List.mem_cons_of_mem _ (List.mem_append_left _ (goodIn_cat [wsX12_bound_r1, wsX12_bound_r2] wsX12_bound_r3 c hc w hw))
set_option maxRecDepth 20000 in
theorem zbX12_bound_X12_isLine : GoodIn wsX12_bound (Cond.code yX12_isLine cX12_isLine 3 (some .boolean) :: [.fieldLink RX12 32 "ClayAccountsModel" "lineMany" "[I", .methodLink RX12 257 yX12_isTablet, .instanceMethod yX12_isTablet, .selects RX12 yX12_isTablet yX12_isTablet, .initialized RX12, .code yX12_isTablet cX12_isTablet 2 (some .boolean), .fieldLink RX12 204 "ClayAccountsModel" "tablets" "I"]) := goodIn_k _ cks_X12_bound ck_X12_bound [(0, 8), (0, 9), (0, 10), (0, 11), (0, 12), (0, 7), (0, 13), (0, 14)] rfl (by decide +kernel)
set_option maxRecDepth 20000 in
theorem ggX12_bound_X12_isLine : GoodIn wsX12_bound wsX12_isLine := (goodIn_ca zbX12_bound_X12_isLine (goodIn_sub in_X12_bound_X12 zgw_X12))
set_option maxRecDepth 20000 in
theorem gX12_bound_X12_isLine : GoodIn wsX12_bound (wsV RX12 281 RX12 yX12_isLine wsX12_isLine) := goodIn_app (goodIn_of _ (by decide +kernel)) ggX12_bound_X12_isLine
set_option maxRecDepth 20000 in
theorem zbX12_bound_X12_refuse : GoodIn wsX12_bound (Cond.code yX12_refuse cX12_refuse 1 (some .int) :: [.fieldLink RX12 86 "ClayAccountsModel" "thrown" "I"]) := goodIn_k _ cks_X12_bound ck_X12_bound [(0, 18), (0, 0)] rfl (by decide +kernel)
set_option maxRecDepth 20000 in
theorem ggX12_bound_X12_refuse : GoodIn wsX12_bound wsX12_refuse := (goodIn_ca zbX12_bound_X12_refuse (goodIn_sub in_X12_bound_X12 zgw_X12))
set_option maxRecDepth 20000 in
theorem gX12_bound_X12_refuse : GoodIn wsX12_bound (wsV RX12 210 RX12 yX12_refuse wsX12_refuse) := goodIn_app (goodIn_of _ (by decide +kernel)) ggX12_bound_X12_refuse
set_option maxRecDepth 20000 in
theorem zbX12_bound_X12_readAll_0 : GoodIn wsX12_bound [Cond.code yX12_readAll cX12_readAll 5 none] := goodIn_k _ cks_X12_bound ck_X12_bound [(0, 22)] rfl (by decide +kernel)
set_option maxRecDepth 20000 in
theorem zbX12_bound_X12_readAll_1 : GoodIn wsX12_bound wsX12_readAll_r1 := goodIn_k _ cks_X12_bound ck_X12_bound [(0, 1), (0, 23), (1, 0), (0, 3), (0, 2), (1, 1), (1, 2), (1, 3), (1, 4), (0, 7), (1, 5), (1, 6), (1, 7), (1, 8), (1, 9), (1, 10), (0, 9), (1, 11), (1, 12), (1, 13), (1, 14), (1, 15), (1, 16), (1, 17)] rfl (by decide +kernel)
set_option maxRecDepth 20000 in
theorem zbX12_bound_X12_readAll_2 : GoodIn wsX12_bound wsX12_readAll_r2 := goodIn_k _ cks_X12_bound ck_X12_bound [(1, 18), (1, 19), (1, 20), (1, 21), (1, 22), (1, 23), (2, 0), (2, 1), (2, 2), (2, 3), (2, 4), (2, 5), (2, 6), (2, 7), (2, 8), (2, 9), (2, 10)] rfl (by decide +kernel)
set_option maxRecDepth 20000 in
theorem ggX12_bound_X12_readAll : GoodIn wsX12_bound wsX12_readAll := (goodIn_ca (goodIn_cc zbX12_bound_X12_readAll_0 (goodIn_app zbX12_bound_X12_readAll_1 zbX12_bound_X12_readAll_2)) (goodIn_sub in_X12_bound_X12 zgw_X12))
set_option maxRecDepth 20000 in
theorem gX12_bound_X12_readAll : GoodIn wsX12_bound (wsV RX12 284 RX12 yX12_readAll wsX12_readAll) := goodIn_app (goodIn_of _ (by decide +kernel)) ggX12_bound_X12_readAll
theorem in_X12_digit_X12 : ∀ w ∈ wsX120, w ∈ wsX12_digit := fun _ h => List.mem_cons_of_mem _ (List.mem_append_right _ h)
def cks_X12_digit : List (List Cond) := [wsX12_digit_r1, wsX12_digit_r2, wsX12_digit_r3]
theorem ck_X12_digit : ∀ c ∈ cks_X12_digit, ∀ w ∈ c, w ∈ wsX12_digit := fun c hc w hw => List.mem_cons_of_mem _ (List.mem_append_left _ (goodIn_cat [wsX12_digit_r1, wsX12_digit_r2] wsX12_digit_r3 c hc w hw))
set_option maxRecDepth 20000 in
theorem zbX12_digit_X12_isTablet : GoodIn wsX12_digit (Cond.code yX12_isTablet cX12_isTablet 2 (some .boolean) :: [.fieldLink RX12 204 "ClayAccountsModel" "tablets" "I"]) := goodIn_k _ cks_X12_digit ck_X12_digit [(0, 8), (0, 9)] rfl (by decide +kernel)
set_option maxRecDepth 20000 in
theorem ggX12_digit_X12_isTablet : GoodIn wsX12_digit wsX12_isTablet := (goodIn_ca zbX12_digit_X12_isTablet (goodIn_sub in_X12_digit_X12 zgw_X12))
set_option maxRecDepth 20000 in
theorem gX12_digit_X12_isTablet : GoodIn wsX12_digit (wsV RX12 257 RX12 yX12_isTablet wsX12_isTablet) := goodIn_app (goodIn_of _ (by decide +kernel)) ggX12_digit_X12_isTablet
set_option maxRecDepth 20000 in
theorem zbX12_digit_X12_refuse : GoodIn wsX12_digit (Cond.code yX12_refuse cX12_refuse 1 (some .int) :: [.fieldLink RX12 86 "ClayAccountsModel" "thrown" "I"]) := goodIn_k _ cks_X12_digit ck_X12_digit [(0, 13), (0, 1)] rfl (by decide +kernel)
set_option maxRecDepth 20000 in
theorem ggX12_digit_X12_refuse : GoodIn wsX12_digit wsX12_refuse := (goodIn_ca zbX12_digit_X12_refuse (goodIn_sub in_X12_digit_X12 zgw_X12))
set_option maxRecDepth 20000 in
theorem gX12_digit_X12_refuse : GoodIn wsX12_digit (wsV RX12 210 RX12 yX12_refuse wsX12_refuse) := goodIn_app (goodIn_of _ (by decide +kernel)) ggX12_digit_X12_refuse
set_option maxRecDepth 20000 in
theorem zbX12_digit_X12_readAll_0 : GoodIn wsX12_digit [Cond.code yX12_readAll cX12_readAll 5 none] := goodIn_k _ cks_X12_digit ck_X12_digit [(0, 17)] rfl (by decide +kernel)
set_option maxRecDepth 20000 in
theorem zbX12_digit_X12_readAll_1 : GoodIn wsX12_digit wsX12_readAll_r1 := goodIn_k _ cks_X12_digit ck_X12_digit [(0, 2), (0, 3), (0, 18), (0, 19), (0, 20), (0, 21), (0, 22), (0, 23), (1, 0), (0, 7), (1, 1), (0, 0), (1, 2), (1, 3), (1, 4), (1, 5), (1, 6), (1, 7), (1, 8), (1, 9), (1, 10), (1, 11), (1, 12), (1, 13)] rfl (by decide +kernel)
set_option maxRecDepth 20000 in
theorem zbX12_digit_X12_readAll_2 : GoodIn wsX12_digit wsX12_readAll_r2 := goodIn_k _ cks_X12_digit ck_X12_digit [(1, 14), (1, 15), (1, 16), (1, 17), (1, 18), (1, 19), (1, 20), (1, 21), (1, 22), (1, 23), (2, 0), (2, 1), (2, 2), (2, 3), (2, 4), (2, 5), (2, 6)] rfl (by decide +kernel)
set_option maxRecDepth 20000 in
theorem ggX12_digit_X12_readAll : GoodIn wsX12_digit wsX12_readAll := (goodIn_ca (goodIn_cc zbX12_digit_X12_readAll_0 (goodIn_app zbX12_digit_X12_readAll_1 zbX12_digit_X12_readAll_2)) (goodIn_sub in_X12_digit_X12 zgw_X12))
set_option maxRecDepth 20000 in
theorem gX12_digit_X12_readAll : GoodIn wsX12_digit (wsV RX12 284 RX12 yX12_readAll wsX12_readAll) := goodIn_app (goodIn_of _ (by decide +kernel)) ggX12_digit_X12_readAll
theorem in_X12_wrong_X12 : ∀ w ∈ wsX120, w ∈ wsX12_wrong := fun _ h => List.mem_cons_of_mem _ (List.mem_append_right _ h)
def cks_X12_wrong : List (List Cond) := [wsX12_wrong_r1, wsX12_wrong_r2]
theorem ck_X12_wrong : ∀ c ∈ cks_X12_wrong, ∀ w ∈ c, w ∈ wsX12_wrong := fun c hc w hw => List.mem_cons_of_mem _ (List.mem_append_left _ (goodIn_cat [wsX12_wrong_r1] wsX12_wrong_r2 c hc w hw))
set_option maxRecDepth 20000 in
theorem zbX12_wrong_X12_isTablet : GoodIn wsX12_wrong (Cond.code yX12_isTablet cX12_isTablet 2 (some .boolean) :: [.fieldLink RX12 204 "ClayAccountsModel" "tablets" "I"]) := goodIn_k _ cks_X12_wrong ck_X12_wrong [(0, 5), (0, 6)] rfl (by decide +kernel)
set_option maxRecDepth 20000 in
theorem ggX12_wrong_X12_isTablet : GoodIn wsX12_wrong wsX12_isTablet := (goodIn_ca zbX12_wrong_X12_isTablet (goodIn_sub in_X12_wrong_X12 zgw_X12))
set_option maxRecDepth 20000 in
theorem gX12_wrong_X12_isTablet : GoodIn wsX12_wrong (wsV RX12 257 RX12 yX12_isTablet wsX12_isTablet) := goodIn_app (goodIn_of _ (by decide +kernel)) ggX12_wrong_X12_isTablet
set_option maxRecDepth 20000 in
theorem zbX12_wrong_X12_ways : GoodIn wsX12_wrong (Cond.code yX12_ways cX12_ways 4 (some .int) :: [.fieldLink RX12 44 "ClayAccountsModel" "asked" "[I"]) := goodIn_k _ cks_X12_wrong ck_X12_wrong [(0, 10), (0, 11)] rfl (by decide +kernel)
set_option maxRecDepth 20000 in
theorem ggX12_wrong_X12_ways : GoodIn wsX12_wrong wsX12_ways := (goodIn_ca zbX12_wrong_X12_ways (goodIn_sub in_X12_wrong_X12 zgw_X12))
set_option maxRecDepth 20000 in
theorem gX12_wrong_X12_ways : GoodIn wsX12_wrong (wsV RX12 266 RX12 yX12_ways wsX12_ways) := goodIn_app (goodIn_of _ (by decide +kernel)) ggX12_wrong_X12_ways
set_option maxRecDepth 20000 in
theorem zbX12_wrong_X12_fills : GoodIn wsX12_wrong (Cond.code yX12_fills cX12_fills 12 (some .boolean) :: [.fieldLink RX12 44 "ClayAccountsModel" "asked" "[I", .fieldLink RX12 56 "ClayAccountsModel" "filled" "[I", .fieldLink RX12 32 "ClayAccountsModel" "lineMany" "[I", .fieldLink RX12 38 "ClayAccountsModel" "lineSystem" "[I", .fieldLink RX12 59 "ClayAccountsModel" "value" "[J", .fieldLink RX12 41 "ClayAccountsModel" "amounts" "[I", .fieldLink RX12 47 "ClayAccountsModel" "digit1" "[I", .fieldLink RX12 50 "ClayAccountsModel" "digit2" "[I", .fieldLink RX12 53 "ClayAccountsModel" "unitOf" "[I", .methodLink RX12 244 yX12_mostOf, .instanceMethod yX12_mostOf, .selects RX12 yX12_mostOf yX12_mostOf, .initialized RX12, .code yX12_mostOf cX12_mostOf 3 (some .int), .fieldLink RX12 23 "ClayAccountsModel" "units" "[I", .fieldLink RX12 26 "ClayAccountsModel" "factor" "[I", .methodLink RX12 234 yX12_isGood, .instanceMethod yX12_isGood, .selects RX12 yX12_isGood yX12_isGood, .code yX12_isGood cX12_isGood 5 (some .boolean), .methodLink RX12 220 yX12_worth, .instanceMethod yX12_worth, .selects RX12 yX12_worth yX12_worth, .code yX12_worth cX12_worth 5 (some .int)]) := goodIn_k _ cks_X12_wrong ck_X12_wrong [(0, 15), (0, 11), (0, 16), (0, 17), (0, 18), (0, 19), (0, 20), (0, 21), (0, 22), (0, 23), (1, 0), (1, 1), (1, 2), (0, 4), (1, 3), (1, 4), (1, 5), (1, 6), (1, 7), (1, 8), (1, 9), (1, 10), (1, 11), (1, 12), (1, 13)] rfl (by decide +kernel)
set_option maxRecDepth 20000 in
theorem ggX12_wrong_X12_fills : GoodIn wsX12_wrong wsX12_fills := (goodIn_ca zbX12_wrong_X12_fills (goodIn_sub in_X12_wrong_X12 zgw_X12))
set_option maxRecDepth 20000 in
theorem gX12_wrong_X12_fills : GoodIn wsX12_wrong (wsV RX12 269 RX12 yX12_fills wsX12_fills) := goodIn_app (goodIn_of _ (by decide +kernel)) ggX12_wrong_X12_fills
set_option maxRecDepth 20000 in
theorem zbX12_wrong_X12_wrongs : GoodIn wsX12_wrong (Cond.code yX12_wrongs cX12_wrongs 10 (some .int) :: [.fieldLink RX12 32 "ClayAccountsModel" "lineMany" "[I", .fieldLink RX12 35 "ClayAccountsModel" "lineKind" "[I", .fieldLink RX12 38 "ClayAccountsModel" "lineSystem" "[I", .fieldLink RX12 59 "ClayAccountsModel" "value" "[J"]) := goodIn_k _ cks_X12_wrong ck_X12_wrong [(1, 17), (0, 17), (1, 18), (0, 18), (0, 19)] rfl (by decide +kernel)
set_option maxRecDepth 20000 in
theorem ggX12_wrong_X12_wrongs : GoodIn wsX12_wrong wsX12_wrongs := (goodIn_ca zbX12_wrong_X12_wrongs (goodIn_sub in_X12_wrong_X12 zgw_X12))
set_option maxRecDepth 20000 in
theorem gX12_wrong_X12_wrongs : GoodIn wsX12_wrong (wsV RX12 272 RX12 yX12_wrongs wsX12_wrongs) := goodIn_app (goodIn_of _ (by decide +kernel)) ggX12_wrong_X12_wrongs
set_option maxRecDepth 20000 in
theorem zbX12_fragment_X12_isEdge : GoodIn wsX12_fragment (Cond.code yX12_isEdge cX12_isEdge 1 (some .boolean) :: [.constant RX12 288 (99999999)]) := goodIn_r _ [13, 14] rfl (by decide +kernel)
set_option maxRecDepth 20000 in
theorem ggX12_fragment_X12_isEdge : GoodIn wsX12_fragment wsX12_isEdge := zbX12_fragment_X12_isEdge
set_option maxRecDepth 20000 in
theorem gX12_fragment_X12_isEdge : GoodIn wsX12_fragment (va_wsS RX12 292 yX12_isEdge wsX12_isEdge) := goodIn_app (goodIn_of _ (by decide +kernel)) ggX12_fragment_X12_isEdge
theorem in_X12_rows_X12 : ∀ w ∈ wsX120, w ∈ wsX12_rows := fun _ h => List.mem_cons_of_mem _ (List.mem_append_right _ h)
set_option maxRecDepth 20000 in
theorem zbX12_rows_X12_isFragment : GoodIn wsX12_rows (Cond.code yX12_isFragment cX12_isFragment 2 (some .boolean) :: [.fieldLink RX12 289 "ClayAccountsModel" "fragments" "I"]) := goodIn_r _ [7, 8] rfl (by decide +kernel)
set_option maxRecDepth 20000 in
theorem ggX12_rows_X12_isFragment : GoodIn wsX12_rows wsX12_isFragment := (goodIn_ca zbX12_rows_X12_isFragment (goodIn_sub in_X12_rows_X12 zgw_X12))
set_option maxRecDepth 20000 in
theorem gX12_rows_X12_isFragment : GoodIn wsX12_rows (wsV RX12 295 RX12 yX12_isFragment wsX12_isFragment) := goodIn_app (goodIn_of _ (by decide +kernel)) ggX12_rows_X12_isFragment
theorem in_X12_sayRow_X12 : ∀ w ∈ wsX120, w ∈ wsX12_sayRow := fun _ h => List.mem_cons_of_mem _ (List.mem_append_right _ h)
set_option maxRecDepth 20000 in
theorem zbX12_sayRow_X12_say : GoodIn wsX12_sayRow (Cond.code yX12_say cX12_say 2 none :: [.fieldLink RX12 13 "ClayAccountsModel" "text" "[I", .fieldLink RX12 97 "ClayAccountsModel" "size" "I"]) := goodIn_r _ [7, 8, 9] rfl (by decide +kernel)
set_option maxRecDepth 20000 in
theorem ggX12_sayRow_X12_say : GoodIn wsX12_sayRow wsX12_say := (goodIn_ca zbX12_sayRow_X12_say (goodIn_sub in_X12_sayRow_X12 zgw_X12))
set_option maxRecDepth 20000 in
theorem gX12_sayRow_X12_say : GoodIn wsX12_sayRow (wsV RX12 298 RX12 yX12_say wsX12_say) := goodIn_app (goodIn_of _ (by decide +kernel)) ggX12_sayRow_X12_say
theorem in_X12_joined_X12 : ∀ w ∈ wsX120, w ∈ wsX12_joined := fun _ h => List.mem_cons_of_mem _ (List.mem_append_right _ h)
def cks_X12_joined : List (List Cond) := [wsX12_joined_r1, wsX12_joined_r2, wsX12_joined_r3, wsX12_joined_r4, wsX12_joined_r5, wsX12_joined_r6]
theorem ck_X12_joined : ∀ c ∈ cks_X12_joined, ∀ w ∈ c, w ∈ wsX12_joined := fun c hc w hw => List.mem_cons_of_mem _ (List.mem_append_left _ (goodIn_cat [wsX12_joined_r1, wsX12_joined_r2, wsX12_joined_r3, wsX12_joined_r4, wsX12_joined_r5] wsX12_joined_r6 c hc w hw))
set_option maxRecDepth 20000 in
theorem zbX12_joined_X12_sayRow : GoodIn wsX12_joined (Cond.code yX12_sayRow cX12_sayRow 4 (some .int) :: [.fieldLink RX12 65 "ClayAccountsModel" "fragmentLong" "[I", .fieldLink RX12 62 "ClayAccountsModel" "letters" "[I", .methodLink RX12 298 yX12_say, .instanceMethod yX12_say, .selects RX12 yX12_say yX12_say, .initialized RX12, .code yX12_say cX12_say 2 none, .fieldLink RX12 13 "ClayAccountsModel" "text" "[I", .fieldLink RX12 97 "ClayAccountsModel" "size" "I"]) := goodIn_k _ cks_X12_joined ck_X12_joined [(0, 13), (0, 14), (0, 15), (0, 16), (0, 17), (0, 18), (0, 12), (0, 19), (0, 20), (0, 5)] rfl (by decide +kernel)
set_option maxRecDepth 20000 in
theorem ggX12_joined_X12_sayRow : GoodIn wsX12_joined wsX12_sayRow := (goodIn_ca zbX12_joined_X12_sayRow (goodIn_sub in_X12_joined_X12 zgw_X12))
set_option maxRecDepth 20000 in
theorem gX12_joined_X12_sayRow : GoodIn wsX12_joined (wsV RX12 301 RX12 yX12_sayRow wsX12_sayRow) := goodIn_app (goodIn_of _ (by decide +kernel)) ggX12_joined_X12_sayRow
set_option maxRecDepth 20000 in
theorem zbX12_joined_X12_begins_0 : GoodIn wsX12_joined [Cond.code yX12_begins cX12_begins 3 none] := goodIn_k _ cks_X12_joined ck_X12_joined [(1, 0)] rfl (by decide +kernel)
set_option maxRecDepth 20000 in
theorem zbX12_joined_X12_begins_1 : GoodIn wsX12_joined wsX12_begins_r1 := goodIn_k _ cks_X12_joined ck_X12_joined [(1, 1), (1, 2), (1, 3), (1, 4), (1, 5), (1, 6), (0, 12), (1, 7), (0, 5), (0, 20), (1, 8), (1, 9), (1, 10), (1, 11), (1, 12), (1, 13), (1, 14), (1, 15), (1, 16), (1, 17), (1, 18), (1, 19), (1, 20), (1, 21)] rfl (by decide +kernel)
set_option maxRecDepth 20000 in
theorem zbX12_joined_X12_begins_2 : GoodIn wsX12_joined wsX12_begins_r2 := goodIn_k _ cks_X12_joined ck_X12_joined [(1, 22), (1, 23), (2, 0), (2, 1), (2, 2), (2, 3), (2, 4), (2, 5), (2, 6), (2, 7), (2, 8)] rfl (by decide +kernel)
set_option maxRecDepth 20000 in
theorem ggX12_joined_X12_begins : GoodIn wsX12_joined wsX12_begins := (goodIn_ca (goodIn_cc zbX12_joined_X12_begins_0 (goodIn_app zbX12_joined_X12_begins_1 zbX12_joined_X12_begins_2)) (goodIn_sub in_X12_joined_X12 zgw_X12))
set_option maxRecDepth 20000 in
theorem gX12_joined_X12_begins : GoodIn wsX12_joined (wsV RX12 165 RX12 yX12_begins wsX12_begins) := goodIn_app (goodIn_of _ (by decide +kernel)) ggX12_joined_X12_begins
set_option maxRecDepth 20000 in
theorem zbX12_joined_X12_readTablet_0 : GoodIn wsX12_joined [Cond.code yX12_readTablet cX12_readTablet 5 (some .boolean)] := goodIn_k _ cks_X12_joined ck_X12_joined [(2, 12)] rfl (by decide +kernel)
set_option maxRecDepth 20000 in
theorem zbX12_joined_X12_readTablet_1 : GoodIn wsX12_joined wsX12_readTablet_r1 := goodIn_k _ cks_X12_joined ck_X12_joined [(2, 13), (2, 14), (2, 15), (2, 16), (1, 9), (2, 17), (2, 18), (2, 19), (2, 20), (2, 21), (0, 12), (2, 22), (1, 11), (2, 23), (3, 0), (3, 1), (3, 2), (0, 6), (1, 8), (0, 7), (1, 4), (1, 5), (1, 6), (1, 7)] rfl (by decide +kernel)
set_option maxRecDepth 20000 in
theorem zbX12_joined_X12_readTablet_2 : GoodIn wsX12_joined wsX12_readTablet_r2 := goodIn_k _ cks_X12_joined ck_X12_joined [(1, 3), (0, 5), (0, 20), (1, 1), (1, 10), (1, 12), (1, 13), (1, 14), (1, 15), (1, 16), (1, 17), (1, 18), (1, 19), (1, 20), (1, 21), (1, 22), (1, 2), (1, 23), (2, 0), (2, 1), (2, 2), (2, 3), (2, 4), (2, 5)] rfl (by decide +kernel)
set_option maxRecDepth 20000 in
theorem zbX12_joined_X12_readTablet_3 : GoodIn wsX12_joined wsX12_readTablet_r3 := goodIn_k _ cks_X12_joined ck_X12_joined [(2, 6), (2, 7), (2, 8), (3, 3), (3, 4), (3, 5), (3, 6), (3, 7), (3, 8), (3, 9), (3, 10), (3, 11), (3, 12), (3, 13), (3, 14), (3, 15), (3, 16), (3, 17), (3, 18), (3, 19), (3, 20), (3, 21), (3, 22), (3, 23)] rfl (by decide +kernel)
set_option maxRecDepth 20000 in
theorem zbX12_joined_X12_readTablet_4 : GoodIn wsX12_joined wsX12_readTablet_r4 := goodIn_k _ cks_X12_joined ck_X12_joined [(4, 0), (4, 1), (4, 2), (4, 3), (4, 4), (4, 5), (0, 4), (4, 6), (4, 7), (4, 8), (4, 9), (4, 10), (4, 11), (4, 12), (4, 13), (4, 14), (4, 15), (4, 16), (4, 17), (4, 18), (4, 19), (4, 20)] rfl (by decide +kernel)
set_option maxRecDepth 20000 in
theorem ggX12_joined_X12_readTablet : GoodIn wsX12_joined wsX12_readTablet := (goodIn_ca (goodIn_cc zbX12_joined_X12_readTablet_0 (goodIn_app zbX12_joined_X12_readTablet_1 (goodIn_app zbX12_joined_X12_readTablet_2 (goodIn_app zbX12_joined_X12_readTablet_3 zbX12_joined_X12_readTablet_4)))) (goodIn_sub in_X12_joined_X12 zgw_X12))
set_option maxRecDepth 20000 in
theorem gX12_joined_X12_readTablet : GoodIn wsX12_joined (wsV RX12 254 RX12 yX12_readTablet wsX12_readTablet) := goodIn_app (goodIn_of _ (by decide +kernel)) ggX12_joined_X12_readTablet
set_option maxRecDepth 20000 in
theorem zbX12_joined_X12_readAll_0 : GoodIn wsX12_joined [Cond.code yX12_readAll cX12_readAll 5 none] := goodIn_k _ cks_X12_joined ck_X12_joined [(5, 0)] rfl (by decide +kernel)
set_option maxRecDepth 20000 in
theorem zbX12_joined_X12_readAll_1 : GoodIn wsX12_joined wsX12_readAll_r1 := goodIn_k _ cks_X12_joined ck_X12_joined [(0, 8), (5, 1), (5, 2), (5, 3), (5, 4), (5, 5), (5, 6), (5, 7), (5, 8), (0, 12), (5, 9), (2, 14), (5, 10), (5, 11), (5, 12), (5, 13), (2, 13), (3, 9), (2, 18), (3, 11), (3, 12), (3, 10), (4, 8), (4, 9)] rfl (by decide +kernel)
set_option maxRecDepth 20000 in
theorem zbX12_joined_X12_readAll_2 : GoodIn wsX12_joined wsX12_readAll_r2 := goodIn_k _ cks_X12_joined ck_X12_joined [(4, 10), (4, 11), (4, 6), (4, 12), (3, 17), (3, 18), (3, 19), (3, 20), (5, 14), (5, 15), (5, 16), (5, 17), (5, 18), (5, 19), (5, 20), (5, 21), (2, 17)] rfl (by decide +kernel)
set_option maxRecDepth 20000 in
theorem ggX12_joined_X12_readAll : GoodIn wsX12_joined wsX12_readAll := (goodIn_ca (goodIn_cc zbX12_joined_X12_readAll_0 (goodIn_app zbX12_joined_X12_readAll_1 zbX12_joined_X12_readAll_2)) (goodIn_sub in_X12_joined_X12 zgw_X12))
set_option maxRecDepth 20000 in
theorem gX12_joined_X12_readAll : GoodIn wsX12_joined (wsV RX12 284 RX12 yX12_readAll wsX12_readAll) := goodIn_app (goodIn_of _ (by decide +kernel)) ggX12_joined_X12_readAll
theorem in_X12_join_X12 : ∀ w ∈ wsX120, w ∈ wsX12_join := fun _ h => List.mem_cons_of_mem _ (List.mem_append_right _ h)
def cks_X12_join : List (List Cond) := [wsX12_join_r1, wsX12_join_r2, wsX12_join_r3, wsX12_join_r4, wsX12_join_r5, wsX12_join_r6, wsX12_join_r7]
theorem ck_X12_join : ∀ c ∈ cks_X12_join, ∀ w ∈ c, w ∈ wsX12_join := fun c hc w hw => List.mem_cons_of_mem _ (List.mem_append_left _ (goodIn_cat [wsX12_join_r1, wsX12_join_r2, wsX12_join_r3, wsX12_join_r4, wsX12_join_r5, wsX12_join_r6] wsX12_join_r7 c hc w hw))
set_option maxRecDepth 20000 in
theorem zbX12_join_X12_isFragment : GoodIn wsX12_join (Cond.code yX12_isFragment cX12_isFragment 2 (some .boolean) :: [.fieldLink RX12 289 "ClayAccountsModel" "fragments" "I"]) := goodIn_k _ cks_X12_join ck_X12_join [(0, 5), (0, 6)] rfl (by decide +kernel)
set_option maxRecDepth 20000 in
theorem ggX12_join_X12_isFragment : GoodIn wsX12_join wsX12_isFragment := (goodIn_ca zbX12_join_X12_isFragment (goodIn_sub in_X12_join_X12 zgw_X12))
set_option maxRecDepth 20000 in
theorem gX12_join_X12_isFragment : GoodIn wsX12_join (wsV RX12 295 RX12 yX12_isFragment wsX12_isFragment) := goodIn_app (goodIn_of _ (by decide +kernel)) ggX12_join_X12_isFragment
set_option maxRecDepth 20000 in
theorem zbX12_join_X12_joined_0 : GoodIn wsX12_join [Cond.code yX12_joined cX12_joined 8 (some .int)] := goodIn_k _ cks_X12_join ck_X12_join [(0, 10)] rfl (by decide +kernel)
set_option maxRecDepth 20000 in
theorem zbX12_join_X12_joined_1 : GoodIn wsX12_join wsX12_joined_r1 := goodIn_k _ cks_X12_join ck_X12_join [(0, 11), (0, 12), (0, 13), (0, 14), (0, 15), (0, 16), (0, 17), (0, 18), (0, 19), (0, 20), (0, 21), (0, 22), (0, 4), (0, 23), (1, 0), (1, 1), (1, 2), (1, 3), (1, 4), (1, 5), (1, 6), (1, 7), (1, 8), (1, 9)] rfl (by decide +kernel)
set_option maxRecDepth 20000 in
theorem zbX12_join_X12_joined_2 : GoodIn wsX12_join wsX12_joined_r2 := goodIn_k _ cks_X12_join ck_X12_join [(1, 10), (1, 11), (1, 12), (1, 13), (1, 14), (1, 15), (1, 16), (1, 17), (1, 18), (1, 19), (1, 20), (1, 21), (1, 22), (1, 23), (2, 0), (2, 1), (2, 2), (2, 3), (2, 4), (2, 5), (2, 6), (2, 7), (2, 8), (2, 9)] rfl (by decide +kernel)
set_option maxRecDepth 20000 in
theorem zbX12_join_X12_joined_3 : GoodIn wsX12_join wsX12_joined_r3 := goodIn_k _ cks_X12_join ck_X12_join [(2, 10), (2, 11), (2, 12), (2, 13), (2, 14), (2, 15), (2, 16), (2, 17), (2, 18), (2, 19), (2, 20), (2, 21), (2, 22), (2, 23), (3, 0), (3, 1), (3, 2), (3, 3), (3, 4), (3, 5), (3, 6), (3, 7), (3, 8), (3, 9)] rfl (by decide +kernel)
set_option maxRecDepth 20000 in
theorem zbX12_join_X12_joined_4 : GoodIn wsX12_join wsX12_joined_r4 := goodIn_k _ cks_X12_join ck_X12_join [(3, 10), (3, 11), (3, 12), (3, 13), (3, 14), (3, 15), (3, 16), (3, 17), (3, 18), (3, 19), (3, 20), (3, 21), (3, 22), (3, 23), (4, 0), (4, 1), (4, 2), (4, 3), (4, 4), (4, 5), (4, 6), (4, 7), (4, 8), (4, 9)] rfl (by decide +kernel)
set_option maxRecDepth 20000 in
theorem zbX12_join_X12_joined_5 : GoodIn wsX12_join wsX12_joined_r5 := goodIn_k _ cks_X12_join ck_X12_join [(4, 10), (4, 11), (4, 12), (4, 13), (4, 14), (4, 15), (4, 16), (4, 17), (4, 18), (4, 19), (4, 20), (4, 21), (4, 22), (4, 23), (5, 0), (5, 1), (5, 2), (5, 3), (5, 4), (5, 5), (5, 6), (5, 7), (5, 8), (5, 9)] rfl (by decide +kernel)
set_option maxRecDepth 20000 in
theorem zbX12_join_X12_joined_6 : GoodIn wsX12_join wsX12_joined_r6 := goodIn_k _ cks_X12_join ck_X12_join [(5, 10), (5, 11), (5, 12), (5, 13), (5, 14), (5, 15), (5, 16), (5, 17), (5, 18), (5, 19), (5, 20), (5, 21), (5, 22), (5, 23), (6, 0), (6, 1), (6, 2), (6, 3), (6, 4), (6, 5), (6, 6), (6, 7)] rfl (by decide +kernel)
set_option maxRecDepth 20000 in
theorem ggX12_join_X12_joined : GoodIn wsX12_join wsX12_joined := (goodIn_ca (goodIn_cc zbX12_join_X12_joined_0 (goodIn_app zbX12_join_X12_joined_1 (goodIn_app zbX12_join_X12_joined_2 (goodIn_app zbX12_join_X12_joined_3 (goodIn_app zbX12_join_X12_joined_4 (goodIn_app zbX12_join_X12_joined_5 zbX12_join_X12_joined_6)))))) (goodIn_sub in_X12_join_X12 zgw_X12))
set_option maxRecDepth 20000 in
theorem gX12_join_X12_joined : GoodIn wsX12_join (wsV RX12 304 RX12 yX12_joined wsX12_joined) := goodIn_app (goodIn_of _ (by decide +kernel)) ggX12_join_X12_joined
theorem in_X12_match_X12 : ∀ w ∈ wsX120, w ∈ wsX12_match := fun _ h => List.mem_cons_of_mem _ (List.mem_append_right _ h)
def cks_X12_match : List (List Cond) := [wsX12_match_r1, wsX12_match_r2, wsX12_match_r3, wsX12_match_r4, wsX12_match_r5, wsX12_match_r6, wsX12_match_r7]
theorem ck_X12_match : ∀ c ∈ cks_X12_match, ∀ w ∈ c, w ∈ wsX12_match := fun c hc w hw => List.mem_cons_of_mem _ (List.mem_append_left _ (goodIn_cat [wsX12_match_r1, wsX12_match_r2, wsX12_match_r3, wsX12_match_r4, wsX12_match_r5, wsX12_match_r6] wsX12_match_r7 c hc w hw))
set_option maxRecDepth 20000 in
theorem zbX12_match_X12_joined_0 : GoodIn wsX12_match [Cond.code yX12_joined cX12_joined 8 (some .int)] := goodIn_k _ cks_X12_match ck_X12_match [(0, 11)] rfl (by decide +kernel)
set_option maxRecDepth 20000 in
theorem zbX12_match_X12_joined_1 : GoodIn wsX12_match wsX12_joined_r1 := goodIn_k _ cks_X12_match ck_X12_match [(0, 12), (0, 13), (0, 14), (0, 15), (0, 16), (0, 17), (0, 18), (0, 19), (0, 20), (0, 21), (0, 22), (0, 23), (0, 10), (1, 0), (1, 1), (1, 2), (1, 3), (1, 4), (1, 5), (1, 6), (1, 7), (1, 8), (1, 9), (1, 10)] rfl (by decide +kernel)
set_option maxRecDepth 20000 in
theorem zbX12_match_X12_joined_2 : GoodIn wsX12_match wsX12_joined_r2 := goodIn_k _ cks_X12_match ck_X12_match [(1, 11), (1, 12), (1, 13), (1, 14), (1, 15), (1, 16), (1, 17), (1, 18), (1, 19), (1, 20), (1, 21), (1, 22), (1, 23), (2, 0), (2, 1), (2, 2), (2, 3), (2, 4), (2, 5), (2, 6), (2, 7), (2, 8), (2, 9), (2, 10)] rfl (by decide +kernel)
set_option maxRecDepth 20000 in
theorem zbX12_match_X12_joined_3 : GoodIn wsX12_match wsX12_joined_r3 := goodIn_k _ cks_X12_match ck_X12_match [(2, 11), (2, 12), (2, 13), (2, 14), (2, 15), (2, 16), (2, 17), (2, 18), (2, 19), (2, 20), (2, 21), (2, 22), (2, 23), (3, 0), (3, 1), (3, 2), (3, 3), (3, 4), (3, 5), (3, 6), (3, 7), (3, 8), (3, 9), (3, 10)] rfl (by decide +kernel)
set_option maxRecDepth 20000 in
theorem zbX12_match_X12_joined_4 : GoodIn wsX12_match wsX12_joined_r4 := goodIn_k _ cks_X12_match ck_X12_match [(3, 11), (3, 12), (3, 13), (3, 14), (3, 15), (3, 16), (3, 17), (3, 18), (3, 19), (3, 20), (3, 21), (3, 22), (3, 23), (4, 0), (4, 1), (4, 2), (4, 3), (4, 4), (4, 5), (4, 6), (4, 7), (4, 8), (4, 9), (4, 10)] rfl (by decide +kernel)
set_option maxRecDepth 20000 in
theorem zbX12_match_X12_joined_5 : GoodIn wsX12_match wsX12_joined_r5 := goodIn_k _ cks_X12_match ck_X12_match [(4, 11), (4, 12), (4, 13), (4, 14), (4, 15), (4, 16), (4, 17), (4, 18), (4, 19), (4, 20), (4, 21), (4, 22), (4, 23), (5, 0), (5, 1), (5, 2), (5, 3), (5, 4), (5, 5), (5, 6), (5, 7), (5, 8), (5, 9), (5, 10)] rfl (by decide +kernel)
set_option maxRecDepth 20000 in
theorem zbX12_match_X12_joined_6 : GoodIn wsX12_match wsX12_joined_r6 := goodIn_k _ cks_X12_match ck_X12_match [(5, 11), (5, 12), (5, 13), (5, 14), (5, 15), (5, 16), (5, 17), (5, 18), (5, 19), (5, 20), (5, 21), (5, 22), (5, 23), (6, 0), (6, 1), (6, 2), (6, 3), (6, 4), (6, 5), (6, 6), (6, 7), (6, 8)] rfl (by decide +kernel)
set_option maxRecDepth 20000 in
theorem ggX12_match_X12_joined : GoodIn wsX12_match wsX12_joined := (goodIn_ca (goodIn_cc zbX12_match_X12_joined_0 (goodIn_app zbX12_match_X12_joined_1 (goodIn_app zbX12_match_X12_joined_2 (goodIn_app zbX12_match_X12_joined_3 (goodIn_app zbX12_match_X12_joined_4 (goodIn_app zbX12_match_X12_joined_5 zbX12_match_X12_joined_6)))))) (goodIn_sub in_X12_match_X12 zgw_X12))
set_option maxRecDepth 20000 in
theorem gX12_match_X12_joined : GoodIn wsX12_match (wsV RX12 304 RX12 yX12_joined wsX12_joined) := goodIn_app (goodIn_of _ (by decide +kernel)) ggX12_match_X12_joined
set_option maxRecDepth 20000 in
theorem zbX12_match_X12_lowest : GoodIn wsX12_match (Cond.code yX12_lowest cX12_lowest 2 (some .int) :: []) := goodIn_k _ cks_X12_match ck_X12_match [(6, 11)] rfl (by decide +kernel)
set_option maxRecDepth 20000 in
theorem ggX12_match_X12_lowest : GoodIn wsX12_match wsX12_lowest := zbX12_match_X12_lowest
set_option maxRecDepth 20000 in
theorem gX12_match_X12_lowest : GoodIn wsX12_match (va_wsS RX12 313 yX12_lowest wsX12_lowest) := goodIn_app (goodIn_of _ (by decide +kernel)) ggX12_match_X12_lowest
theorem in_X12_matched_X12 : ∀ w ∈ wsX120, w ∈ wsX12_matched := fun _ h => List.mem_cons_of_mem _ (List.mem_append_right _ h)
set_option maxRecDepth 20000 in
theorem zbX12_matched_X12_isFragment : GoodIn wsX12_matched (Cond.code yX12_isFragment cX12_isFragment 2 (some .boolean) :: [.fieldLink RX12 289 "ClayAccountsModel" "fragments" "I"]) := goodIn_r _ [8, 9] rfl (by decide +kernel)
set_option maxRecDepth 20000 in
theorem ggX12_matched_X12_isFragment : GoodIn wsX12_matched wsX12_isFragment := (goodIn_ca zbX12_matched_X12_isFragment (goodIn_sub in_X12_matched_X12 zgw_X12))
set_option maxRecDepth 20000 in
theorem gX12_matched_X12_isFragment : GoodIn wsX12_matched (wsV RX12 295 RX12 yX12_isFragment wsX12_isFragment) := goodIn_app (goodIn_of _ (by decide +kernel)) ggX12_matched_X12_isFragment
