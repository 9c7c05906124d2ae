section
-- ===== PART A: goes FIRST, ahead of the names: the tables' words, and 'selects' of the private methods out of them =====
/-- a private method of a class that the tables say can be made, by its rows of tables_1 -/
def lw_okq (q : MethodName × Nat) : Prop := (q.1.cls ≠ "java/lang/invoke/MethodHandle" ∧ q.1.cls ≠ "java/lang/invoke/VarHandle") ∧ Cond.instantiable q.1.cls q.2 ∈ tables_1 ∧ Cond.privateMethod q.1 ∈ tables_1 ∧ Cond.instanceMethod q.1 ∈ tables_1
theorem lw_p0 : lw_okq (⟨"ClayAccounts$Tokens", "takeName", "()V"⟩, 11) := ⟨⟨by decide +kernel, by decide +kernel⟩, List.mem_of_getElem? (i := 56) (by decide +kernel), List.mem_of_getElem? (i := 490) (by decide +kernel), List.mem_of_getElem? (i := 491) (by decide +kernel)⟩
theorem lw_p1 : lw_okq (⟨"ClayAccounts$Tokens", "kindOfName", "()I"⟩, 11) := ⟨⟨by decide +kernel, by decide +kernel⟩, List.mem_of_getElem? (i := 56) (by decide +kernel), List.mem_of_getElem? (i := 494) (by decide +kernel), List.mem_of_getElem? (i := 495) (by decide +kernel)⟩
theorem lw_p2 : lw_okq (⟨"ClayAccounts$Tokens", "isDigit", "(I)Z"⟩, 11) := ⟨⟨by decide +kernel, by decide +kernel⟩, List.mem_of_getElem? (i := 56) (by decide +kernel), List.mem_of_getElem? (i := 501) (by decide +kernel), List.mem_of_getElem? (i := 502) (by decide +kernel)⟩
theorem lw_p3 : lw_okq (⟨"ClayAccounts$Tokens", "takeNumber", "()V"⟩, 11) := ⟨⟨by decide +kernel, by decide +kernel⟩, List.mem_of_getElem? (i := 56) (by decide +kernel), List.mem_of_getElem? (i := 505) (by decide +kernel), List.mem_of_getElem? (i := 506) (by decide +kernel)⟩
theorem lw_p4 : lw_okq (⟨"ClayAccounts$Tokens", "takeSign", "(I)V"⟩, 11) := ⟨⟨by decide +kernel, by decide +kernel⟩, List.mem_of_getElem? (i := 56) (by decide +kernel), List.mem_of_getElem? (i := 509) (by decide +kernel), List.mem_of_getElem? (i := 510) (by decide +kernel)⟩
theorem lw_p5 : lw_okq (⟨"ClayAccounts$UnitsReader", "takeToken", "(LClayAccounts$Units;)Z"⟩, 3) := ⟨⟨by decide +kernel, by decide +kernel⟩, List.mem_of_getElem? (i := 50) (by decide +kernel), List.mem_of_getElem? (i := 521) (by decide +kernel), List.mem_of_getElem? (i := 522) (by decide +kernel)⟩
theorem lw_p6 : lw_okq (⟨"ClayAccounts$UnitsReader", "beginSystem", "(LClayAccounts$Units;)Z"⟩, 3) := ⟨⟨by decide +kernel, by decide +kernel⟩, List.mem_of_getElem? (i := 50) (by decide +kernel), List.mem_of_getElem? (i := 525) (by decide +kernel), List.mem_of_getElem? (i := 526) (by decide +kernel)⟩
theorem lw_p7 : lw_okq (⟨"ClayAccounts$UnitsReader", "takeSystemName", "(LClayAccounts$Units;)Z"⟩, 3) := ⟨⟨by decide +kernel, by decide +kernel⟩, List.mem_of_getElem? (i := 50) (by decide +kernel), List.mem_of_getElem? (i := 534) (by decide +kernel), List.mem_of_getElem? (i := 535) (by decide +kernel)⟩
theorem lw_p8 : lw_okq (⟨"ClayAccounts$UnitsReader", "isNewName", "(LClayAccounts$Units;)Z"⟩, 3) := ⟨⟨by decide +kernel, by decide +kernel⟩, List.mem_of_getElem? (i := 50) (by decide +kernel), List.mem_of_getElem? (i := 538) (by decide +kernel), List.mem_of_getElem? (i := 539) (by decide +kernel)⟩
theorem lw_p9 : lw_okq (⟨"ClayAccounts$UnitsReader", "takeUnitName", "(LClayAccounts$Units;)Z"⟩, 3) := ⟨⟨by decide +kernel, by decide +kernel⟩, List.mem_of_getElem? (i := 50) (by decide +kernel), List.mem_of_getElem? (i := 554) (by decide +kernel), List.mem_of_getElem? (i := 555) (by decide +kernel)⟩
theorem lw_p10 : lw_okq (⟨"ClayAccounts$UnitsReader", "takeFactor", "(LClayAccounts$Units;)Z"⟩, 3) := ⟨⟨by decide +kernel, by decide +kernel⟩, List.mem_of_getElem? (i := 50) (by decide +kernel), List.mem_of_getElem? (i := 569) (by decide +kernel), List.mem_of_getElem? (i := 570) (by decide +kernel)⟩
theorem lw_p11 : lw_okq (⟨"ClayAccounts$UnitsReader", "endSystem", "()Z"⟩, 3) := ⟨⟨by decide +kernel, by decide +kernel⟩, List.mem_of_getElem? (i := 50) (by decide +kernel), List.mem_of_getElem? (i := 578) (by decide +kernel), List.mem_of_getElem? (i := 579) (by decide +kernel)⟩
theorem lw_p12 : lw_okq (⟨"ClayAccounts", "isSystem", "(I)Z"⟩, 16) := ⟨⟨by decide +kernel, by decide +kernel⟩, List.mem_of_getElem? (i := 21) (by decide +kernel), List.mem_of_getElem? (i := 598) (by decide +kernel), List.mem_of_getElem? (i := 599) (by decide +kernel)⟩
theorem lw_p13 : lw_okq (⟨"ClayAccounts$TabletReader", "takeToken", "(LClayAccounts$Units;LClayAccounts$Tablet;)Z"⟩, 8) := ⟨⟨by decide +kernel, by decide +kernel⟩, List.mem_of_getElem? (i := 119) (by decide +kernel), List.mem_of_getElem? (i := 629) (by decide +kernel), List.mem_of_getElem? (i := 630) (by decide +kernel)⟩
theorem lw_p14 : lw_okq (⟨"ClayAccounts$TabletReader", "beginLine", "(LClayAccounts$Tablet;)Z"⟩, 8) := ⟨⟨by decide +kernel, by decide +kernel⟩, List.mem_of_getElem? (i := 119) (by decide +kernel), List.mem_of_getElem? (i := 633) (by decide +kernel), List.mem_of_getElem? (i := 634) (by decide +kernel)⟩
theorem lw_p15 : lw_okq (⟨"ClayAccounts$TabletReader", "takeCount", "()Z"⟩, 8) := ⟨⟨by decide +kernel, by decide +kernel⟩, List.mem_of_getElem? (i := 119) (by decide +kernel), List.mem_of_getElem? (i := 651) (by decide +kernel), List.mem_of_getElem? (i := 652) (by decide +kernel)⟩
def lw_privs_1 : List (MethodName × Nat) := [(⟨"ClayAccounts$Tokens", "takeName", "()V"⟩, 11), (⟨"ClayAccounts$Tokens", "kindOfName", "()I"⟩, 11), (⟨"ClayAccounts$Tokens", "isDigit", "(I)Z"⟩, 11), (⟨"ClayAccounts$Tokens", "takeNumber", "()V"⟩, 11), (⟨"ClayAccounts$Tokens", "takeSign", "(I)V"⟩, 11), (⟨"ClayAccounts$UnitsReader", "takeToken", "(LClayAccounts$Units;)Z"⟩, 3), (⟨"ClayAccounts$UnitsReader", "beginSystem", "(LClayAccounts$Units;)Z"⟩, 3), (⟨"ClayAccounts$UnitsReader", "takeSystemName", "(LClayAccounts$Units;)Z"⟩, 3), (⟨"ClayAccounts$UnitsReader", "isNewName", "(LClayAccounts$Units;)Z"⟩, 3), (⟨"ClayAccounts$UnitsReader", "takeUnitName", "(LClayAccounts$Units;)Z"⟩, 3), (⟨"ClayAccounts$UnitsReader", "takeFactor", "(LClayAccounts$Units;)Z"⟩, 3), (⟨"ClayAccounts$UnitsReader", "endSystem", "()Z"⟩, 3), (⟨"ClayAccounts", "isSystem", "(I)Z"⟩, 16), (⟨"ClayAccounts$TabletReader", "takeToken", "(LClayAccounts$Units;LClayAccounts$Tablet;)Z"⟩, 8), (⟨"ClayAccounts$TabletReader", "beginLine", "(LClayAccounts$Tablet;)Z"⟩, 8), (⟨"ClayAccounts$TabletReader", "takeCount", "()Z"⟩, 8)]
theorem lw_r1 : ∀ q ∈ lw_privs_1, lw_okq q := List.forall_mem_cons.mpr ⟨lw_p0, List.forall_mem_cons.mpr ⟨lw_p1, List.forall_mem_cons.mpr ⟨lw_p2, List.forall_mem_cons.mpr ⟨lw_p3, List.forall_mem_cons.mpr ⟨lw_p4, List.forall_mem_cons.mpr ⟨lw_p5, List.forall_mem_cons.mpr ⟨lw_p6, List.forall_mem_cons.mpr ⟨lw_p7, List.forall_mem_cons.mpr ⟨lw_p8, List.forall_mem_cons.mpr ⟨lw_p9, List.forall_mem_cons.mpr ⟨lw_p10, List.forall_mem_cons.mpr ⟨lw_p11, List.forall_mem_cons.mpr ⟨lw_p12, List.forall_mem_cons.mpr ⟨lw_p13, List.forall_mem_cons.mpr ⟨lw_p14, List.forall_mem_cons.mpr ⟨lw_p15, fun _ h => absurd h List.not_mem_nil⟩⟩⟩⟩⟩⟩⟩⟩⟩⟩⟩⟩⟩⟩⟩⟩
theorem lw_p16 : lw_okq (⟨"ClayAccounts$TabletReader", "takeAmount", "(LClayAccounts$Units;LClayAccounts$Tablet;)Z"⟩, 8) := ⟨⟨by decide +kernel, by decide +kernel⟩, List.mem_of_getElem? (i := 119) (by decide +kernel), List.mem_of_getElem? (i := 656) (by decide +kernel), List.mem_of_getElem? (i := 657) (by decide +kernel)⟩
theorem lw_p17 : lw_okq (⟨"ClayAccounts$TabletReader", "canCountBe", "(I)Z"⟩, 8) := ⟨⟨by decide +kernel, by decide +kernel⟩, List.mem_of_getElem? (i := 119) (by decide +kernel), List.mem_of_getElem? (i := 661) (by decide +kernel), List.mem_of_getElem? (i := 662) (by decide +kernel)⟩
theorem lw_p18 : lw_okq (⟨"ClayAccounts$TabletReader", "brokenDigits", "()I"⟩, 8) := ⟨⟨by decide +kernel, by decide +kernel⟩, List.mem_of_getElem? (i := 119) (by decide +kernel), List.mem_of_getElem? (i := 665) (by decide +kernel), List.mem_of_getElem? (i := 666) (by decide +kernel)⟩
theorem lw_p19 : lw_okq (⟨"ClayAccounts$TabletReader", "addAmount", "(LClayAccounts$Units;ILClayAccounts$Tablet;)V"⟩, 8) := ⟨⟨by decide +kernel, by decide +kernel⟩, List.mem_of_getElem? (i := 119) (by decide +kernel), List.mem_of_getElem? (i := 675) (by decide +kernel), List.mem_of_getElem? (i := 676) (by decide +kernel)⟩
theorem lw_p20 : lw_okq (⟨"ClayAccounts$TabletReader", "takeNameOrEnd", "(LClayAccounts$Units;)Z"⟩, 8) := ⟨⟨by decide +kernel, by decide +kernel⟩, List.mem_of_getElem? (i := 119) (by decide +kernel), List.mem_of_getElem? (i := 691) (by decide +kernel), List.mem_of_getElem? (i := 692) (by decide +kernel)⟩
theorem lw_p21 : lw_okq (⟨"ClayAccounts$TabletReader", "endLine", "()Z"⟩, 8) := ⟨⟨by decide +kernel, by decide +kernel⟩, List.mem_of_getElem? (i := 119) (by decide +kernel), List.mem_of_getElem? (i := 695) (by decide +kernel), List.mem_of_getElem? (i := 696) (by decide +kernel)⟩
theorem lw_p22 : lw_okq (⟨"ClayAccounts", "isTablet", "(I)Z"⟩, 16) := ⟨⟨by decide +kernel, by decide +kernel⟩, List.mem_of_getElem? (i := 21) (by decide +kernel), List.mem_of_getElem? (i := 703) (by decide +kernel), List.mem_of_getElem? (i := 704) (by decide +kernel)⟩
theorem lw_p23 : lw_okq (⟨"ClayAccounts", "solved", "(I)LClayAccounts$Tablet;"⟩, 16) := ⟨⟨by decide +kernel, by decide +kernel⟩, List.mem_of_getElem? (i := 21) (by decide +kernel), List.mem_of_getElem? (i := 711) (by decide +kernel), List.mem_of_getElem? (i := 712) (by decide +kernel)⟩
theorem lw_p24 : lw_okq (⟨"ClayAccounts$Solver", "weigh", "(LClayAccounts$Tablet;II)V"⟩, 7) := ⟨⟨by decide +kernel, by decide +kernel⟩, List.mem_of_getElem? (i := 153) (by decide +kernel), List.mem_of_getElem? (i := 719) (by decide +kernel), List.mem_of_getElem? (i := 720) (by decide +kernel)⟩
theorem lw_p25 : lw_okq (⟨"ClayAccounts$Solver", "addPart", "(LClayAccounts$Tablet;III)V"⟩, 7) := ⟨⟨by decide +kernel, by decide +kernel⟩, List.mem_of_getElem? (i := 153) (by decide +kernel), List.mem_of_getElem? (i := 723) (by decide +kernel), List.mem_of_getElem? (i := 724) (by decide +kernel)⟩
theorem lw_p26 : lw_okq (⟨"ClayAccounts$Solver", "measure", "(I)V"⟩, 7) := ⟨⟨by decide +kernel, by decide +kernel⟩, List.mem_of_getElem? (i := 153) (by decide +kernel), List.mem_of_getElem? (i := 727) (by decide +kernel), List.mem_of_getElem? (i := 728) (by decide +kernel)⟩
theorem lw_p27 : lw_okq (⟨"ClayAccounts$Solver", "missedWith", "(I)I"⟩, 7) := ⟨⟨by decide +kernel, by decide +kernel⟩, List.mem_of_getElem? (i := 153) (by decide +kernel), List.mem_of_getElem? (i := 738) (by decide +kernel), List.mem_of_getElem? (i := 739) (by decide +kernel)⟩
theorem lw_p28 : lw_okq (⟨"ClayAccounts$Solver", "isWorthwhile", "(LClayAccounts$Tablet;I)Z"⟩, 7) := ⟨⟨by decide +kernel, by decide +kernel⟩, List.mem_of_getElem? (i := 153) (by decide +kernel), List.mem_of_getElem? (i := 742) (by decide +kernel), List.mem_of_getElem? (i := 743) (by decide +kernel)⟩
theorem lw_p29 : lw_okq (⟨"ClayAccounts$Solver", "fill", "(LClayAccounts$Tablet;II)V"⟩, 7) := ⟨⟨by decide +kernel, by decide +kernel⟩, List.mem_of_getElem? (i := 153) (by decide +kernel), List.mem_of_getElem? (i := 746) (by decide +kernel), List.mem_of_getElem? (i := 747) (by decide +kernel)⟩
theorem lw_p30 : lw_okq (⟨"ClayAccounts$Solver", "noteReading", "(LClayAccounts$Tablet;)V"⟩, 7) := ⟨⟨by decide +kernel, by decide +kernel⟩, List.mem_of_getElem? (i := 153) (by decide +kernel), List.mem_of_getElem? (i := 751) (by decide +kernel), List.mem_of_getElem? (i := 752) (by decide +kernel)⟩
theorem lw_p31 : lw_okq (⟨"ClayAccounts", "isFragment", "(I)Z"⟩, 16) := ⟨⟨by decide +kernel, by decide +kernel⟩, List.mem_of_getElem? (i := 21) (by decide +kernel), List.mem_of_getElem? (i := 788) (by decide +kernel), List.mem_of_getElem? (i := 789) (by decide +kernel)⟩
def lw_privs_2 : List (MethodName × Nat) := [(⟨"ClayAccounts$TabletReader", "takeAmount", "(LClayAccounts$Units;LClayAccounts$Tablet;)Z"⟩, 8), (⟨"ClayAccounts$TabletReader", "canCountBe", "(I)Z"⟩, 8), (⟨"ClayAccounts$TabletReader", "brokenDigits", "()I"⟩, 8), (⟨"ClayAccounts$TabletReader", "addAmount", "(LClayAccounts$Units;ILClayAccounts$Tablet;)V"⟩, 8), (⟨"ClayAccounts$TabletReader", "takeNameOrEnd", "(LClayAccounts$Units;)Z"⟩, 8), (⟨"ClayAccounts$TabletReader", "endLine", "()Z"⟩, 8), (⟨"ClayAccounts", "isTablet", "(I)Z"⟩, 16), (⟨"ClayAccounts", "solved", "(I)LClayAccounts$Tablet;"⟩, 16), (⟨"ClayAccounts$Solver", "weigh", "(LClayAccounts$Tablet;II)V"⟩, 7), (⟨"ClayAccounts$Solver", "addPart", "(LClayAccounts$Tablet;III)V"⟩, 7), (⟨"ClayAccounts$Solver", "measure", "(I)V"⟩, 7), (⟨"ClayAccounts$Solver", "missedWith", "(I)I"⟩, 7), (⟨"ClayAccounts$Solver", "isWorthwhile", "(LClayAccounts$Tablet;I)Z"⟩, 7), (⟨"ClayAccounts$Solver", "fill", "(LClayAccounts$Tablet;II)V"⟩, 7), (⟨"ClayAccounts$Solver", "noteReading", "(LClayAccounts$Tablet;)V"⟩, 7), (⟨"ClayAccounts", "isFragment", "(I)Z"⟩, 16)]
theorem lw_r2 : ∀ q ∈ lw_privs_2, lw_okq q := List.forall_mem_cons.mpr ⟨lw_p16, List.forall_mem_cons.mpr ⟨lw_p17, List.forall_mem_cons.mpr ⟨lw_p18, List.forall_mem_cons.mpr ⟨lw_p19, List.forall_mem_cons.mpr ⟨lw_p20, List.forall_mem_cons.mpr ⟨lw_p21, List.forall_mem_cons.mpr ⟨lw_p22, List.forall_mem_cons.mpr ⟨lw_p23, List.forall_mem_cons.mpr ⟨lw_p24, List.forall_mem_cons.mpr ⟨lw_p25, List.forall_mem_cons.mpr ⟨lw_p26, List.forall_mem_cons.mpr ⟨lw_p27, List.forall_mem_cons.mpr ⟨lw_p28, List.forall_mem_cons.mpr ⟨lw_p29, List.forall_mem_cons.mpr ⟨lw_p30, List.forall_mem_cons.mpr ⟨lw_p31, fun _ h => absurd h List.not_mem_nil⟩⟩⟩⟩⟩⟩⟩⟩⟩⟩⟩⟩⟩⟩⟩⟩
theorem lw_p32 : lw_okq (⟨"ClayAccounts", "joined", "(II)I"⟩, 16) := ⟨⟨by decide +kernel, by decide +kernel⟩, List.mem_of_getElem? (i := 21) (by decide +kernel), List.mem_of_getElem? (i := 796) (by decide +kernel), List.mem_of_getElem? (i := 797) (by decide +kernel)⟩
theorem lw_p33 : lw_okq (⟨"ClayAccounts$Fragment", "sayRow", "(ILClayAccounts$Text;)I"⟩, 4) := ⟨⟨by decide +kernel, by decide +kernel⟩, List.mem_of_getElem? (i := 365) (by decide +kernel), List.mem_of_getElem? (i := 809) (by decide +kernel), List.mem_of_getElem? (i := 810) (by decide +kernel)⟩
theorem lw_p34 : lw_okq (⟨"ClayAccounts$Matcher", "bestOf", "(III)I"⟩, 5) := ⟨⟨by decide +kernel, by decide +kernel⟩, List.mem_of_getElem? (i := 185) (by decide +kernel), List.mem_of_getElem? (i := 828) (by decide +kernel), List.mem_of_getElem? (i := 829) (by decide +kernel)⟩
theorem lw_p35 : lw_okq (⟨"ClayAccounts$Matcher", "pairOff", "(III)I"⟩, 5) := ⟨⟨by decide +kernel, by decide +kernel⟩, List.mem_of_getElem? (i := 185) (by decide +kernel), List.mem_of_getElem? (i := 833) (by decide +kernel), List.mem_of_getElem? (i := 834) (by decide +kernel)⟩
theorem lw_p36 : lw_okq (⟨"java/lang/Throwable", "fillInStackTrace", "(I)Ljava/lang/Throwable;"⟩, 6) := ⟨⟨by decide +kernel, by decide +kernel⟩, List.mem_of_getElem? (i := 889) (by decide +kernel), List.mem_of_getElem? (i := 887) (by decide +kernel), List.mem_of_getElem? (i := 888) (by decide +kernel)⟩
theorem lw_p37 : lw_okq (⟨"ClayAccounts", "isLine", "(II)Z"⟩, 16) := ⟨⟨by decide +kernel, by decide +kernel⟩, List.mem_of_getElem? (i := 21) (by decide +kernel), List.mem_of_getElem? (i := 935) (by decide +kernel), List.mem_of_getElem? (i := 936) (by decide +kernel)⟩
theorem lw_p38 : lw_okq (⟨"ClayAccountsModel", "come", "(I)V"⟩, 51) := ⟨⟨by decide +kernel, by decide +kernel⟩, List.mem_of_getElem? (i := 960) (by decide +kernel), List.mem_of_getElem? (i := 1128) (by decide +kernel), List.mem_of_getElem? (i := 1129) (by decide +kernel)⟩
theorem lw_p39 : lw_okq (⟨"ClayAccountsModel", "takes", "(IZ)V"⟩, 51) := ⟨⟨by decide +kernel, by decide +kernel⟩, List.mem_of_getElem? (i := 960) (by decide +kernel), List.mem_of_getElem? (i := 1140) (by decide +kernel), List.mem_of_getElem? (i := 1141) (by decide +kernel)⟩
theorem lw_p40 : lw_okq (⟨"ClayAccountsModel", "begins", "(IZ)V"⟩, 51) := ⟨⟨by decide +kernel, by decide +kernel⟩, List.mem_of_getElem? (i := 960) (by decide +kernel), List.mem_of_getElem? (i := 1144) (by decide +kernel), List.mem_of_getElem? (i := 1145) (by decide +kernel)⟩
theorem lw_p41 : lw_okq (⟨"ClayAccountsModel", "go", "()V"⟩, 51) := ⟨⟨by decide +kernel, by decide +kernel⟩, List.mem_of_getElem? (i := 960) (by decide +kernel), List.mem_of_getElem? (i := 1148) (by decide +kernel), List.mem_of_getElem? (i := 1149) (by decide +kernel)⟩
theorem lw_p42 : lw_okq (⟨"ClayAccountsModel", "isCount", "(I)Z"⟩, 51) := ⟨⟨by decide +kernel, by decide +kernel⟩, List.mem_of_getElem? (i := 960) (by decide +kernel), List.mem_of_getElem? (i := 1155) (by decide +kernel), List.mem_of_getElem? (i := 1156) (by decide +kernel)⟩
theorem lw_p43 : lw_okq (⟨"ClayAccountsModel", "at", "(I)I"⟩, 51) := ⟨⟨by decide +kernel, by decide +kernel⟩, List.mem_of_getElem? (i := 960) (by decide +kernel), List.mem_of_getElem? (i := 1162) (by decide +kernel), List.mem_of_getElem? (i := 1163) (by decide +kernel)⟩
theorem lw_p44 : lw_okq (⟨"ClayAccountsModel", "isKey", "(J)Z"⟩, 51) := ⟨⟨by decide +kernel, by decide +kernel⟩, List.mem_of_getElem? (i := 960) (by decide +kernel), List.mem_of_getElem? (i := 1173) (by decide +kernel), List.mem_of_getElem? (i := 1174) (by decide +kernel)⟩
theorem lw_p45 : lw_okq (⟨"ClayAccountsModel", "bad", "(I)Z"⟩, 51) := ⟨⟨by decide +kernel, by decide +kernel⟩, List.mem_of_getElem? (i := 960) (by decide +kernel), List.mem_of_getElem? (i := 1177) (by decide +kernel), List.mem_of_getElem? (i := 1178) (by decide +kernel)⟩
theorem lw_p46 : lw_okq (⟨"ClayAccountsModel", "readSystem", "(I)Z"⟩, 51) := ⟨⟨by decide +kernel, by decide +kernel⟩, List.mem_of_getElem? (i := 960) (by decide +kernel), List.mem_of_getElem? (i := 1181) (by decide +kernel), List.mem_of_getElem? (i := 1182) (by decide +kernel)⟩
theorem lw_p47 : lw_okq (⟨"ClayAccountsModel", "isFree", "()Z"⟩, 51) := ⟨⟨by decide +kernel, by decide +kernel⟩, List.mem_of_getElem? (i := 960) (by decide +kernel), List.mem_of_getElem? (i := 1185) (by decide +kernel), List.mem_of_getElem? (i := 1186) (by decide +kernel)⟩
def lw_privs_3 : List (MethodName × Nat) := [(⟨"ClayAccounts", "joined", "(II)I"⟩, 16), (⟨"ClayAccounts$Fragment", "sayRow", "(ILClayAccounts$Text;)I"⟩, 4), (⟨"ClayAccounts$Matcher", "bestOf", "(III)I"⟩, 5), (⟨"ClayAccounts$Matcher", "pairOff", "(III)I"⟩, 5), (⟨"java/lang/Throwable", "fillInStackTrace", "(I)Ljava/lang/Throwable;"⟩, 6), (⟨"ClayAccounts", "isLine", "(II)Z"⟩, 16), (⟨"ClayAccountsModel", "come", "(I)V"⟩, 51), (⟨"ClayAccountsModel", "takes", "(IZ)V"⟩, 51), (⟨"ClayAccountsModel", "begins", "(IZ)V"⟩, 51), (⟨"ClayAccountsModel", "go", "()V"⟩, 51), (⟨"ClayAccountsModel", "isCount", "(I)Z"⟩, 51), (⟨"ClayAccountsModel", "at", "(I)I"⟩, 51), (⟨"ClayAccountsModel", "isKey", "(J)Z"⟩, 51), (⟨"ClayAccountsModel", "bad", "(I)Z"⟩, 51), (⟨"ClayAccountsModel", "readSystem", "(I)Z"⟩, 51), (⟨"ClayAccountsModel", "isFree", "()Z"⟩, 51)]
theorem lw_r3 : ∀ q ∈ lw_privs_3, lw_okq q := List.forall_mem_cons.mpr ⟨lw_p32, List.forall_mem_cons.mpr ⟨lw_p33, List.forall_mem_cons.mpr ⟨lw_p34, List.forall_mem_cons.mpr ⟨lw_p35, List.forall_mem_cons.mpr ⟨lw_p36, List.forall_mem_cons.mpr ⟨lw_p37, List.forall_mem_cons.mpr ⟨lw_p38, List.forall_mem_cons.mpr ⟨lw_p39, List.forall_mem_cons.mpr ⟨lw_p40, List.forall_mem_cons.mpr ⟨lw_p41, List.forall_mem_cons.mpr ⟨lw_p42, List.forall_mem_cons.mpr ⟨lw_p43, List.forall_mem_cons.mpr ⟨lw_p44, List.forall_mem_cons.mpr ⟨lw_p45, List.forall_mem_cons.mpr ⟨lw_p46, List.forall_mem_cons.mpr ⟨lw_p47, fun _ h => absurd h List.not_mem_nil⟩⟩⟩⟩⟩⟩⟩⟩⟩⟩⟩⟩⟩⟩⟩⟩
theorem lw_p48 : lw_okq (⟨"ClayAccountsModel", "isTaken", "(I)Z"⟩, 51) := ⟨⟨by decide +kernel, by decide +kernel⟩, List.mem_of_getElem? (i := 960) (by decide +kernel), List.mem_of_getElem? (i := 1193) (by decide +kernel), List.mem_of_getElem? (i := 1194) (by decide +kernel)⟩
theorem lw_p49 : lw_okq (⟨"ClayAccountsModel", "isSign", "(I)Z"⟩, 51) := ⟨⟨by decide +kernel, by decide +kernel⟩, List.mem_of_getElem? (i := 960) (by decide +kernel), List.mem_of_getElem? (i := 1197) (by decide +kernel), List.mem_of_getElem? (i := 1198) (by decide +kernel)⟩
theorem lw_p50 : lw_okq (⟨"ClayAccountsModel", "readUnit", "(I)Z"⟩, 51) := ⟨⟨by decide +kernel, by decide +kernel⟩, List.mem_of_getElem? (i := 960) (by decide +kernel), List.mem_of_getElem? (i := 1201) (by decide +kernel), List.mem_of_getElem? (i := 1202) (by decide +kernel)⟩
theorem lw_p51 : lw_okq (⟨"ClayAccountsModel", "isFactor", "()Z"⟩, 51) := ⟨⟨by decide +kernel, by decide +kernel⟩, List.mem_of_getElem? (i := 960) (by decide +kernel), List.mem_of_getElem? (i := 1205) (by decide +kernel), List.mem_of_getElem? (i := 1206) (by decide +kernel)⟩
theorem lw_p52 : lw_okq (⟨"ClayAccountsModel", "forget", "()V"⟩, 51) := ⟨⟨by decide +kernel, by decide +kernel⟩, List.mem_of_getElem? (i := 960) (by decide +kernel), List.mem_of_getElem? (i := 1209) (by decide +kernel), List.mem_of_getElem? (i := 1210) (by decide +kernel)⟩
theorem lw_p53 : lw_okq (⟨"ClayAccountsModel", "refuse", "()I"⟩, 51) := ⟨⟨by decide +kernel, by decide +kernel⟩, List.mem_of_getElem? (i := 960) (by decide +kernel), List.mem_of_getElem? (i := 1221) (by decide +kernel), List.mem_of_getElem? (i := 1222) (by decide +kernel)⟩
theorem lw_p54 : lw_okq (⟨"ClayAccountsModel", "worth", "(II)I"⟩, 51) := ⟨⟨by decide +kernel, by decide +kernel⟩, List.mem_of_getElem? (i := 960) (by decide +kernel), List.mem_of_getElem? (i := 1229) (by decide +kernel), List.mem_of_getElem? (i := 1230) (by decide +kernel)⟩
theorem lw_p55 : lw_okq (⟨"ClayAccountsModel", "outByte", "(I)V"⟩, 51) := ⟨⟨by decide +kernel, by decide +kernel⟩, List.mem_of_getElem? (i := 960) (by decide +kernel), List.mem_of_getElem? (i := 1233) (by decide +kernel), List.mem_of_getElem? (i := 1234) (by decide +kernel)⟩
theorem lw_p56 : lw_okq (⟨"ClayAccountsModel", "outName", "(J)V"⟩, 51) := ⟨⟨by decide +kernel, by decide +kernel⟩, List.mem_of_getElem? (i := 960) (by decide +kernel), List.mem_of_getElem? (i := 1237) (by decide +kernel), List.mem_of_getElem? (i := 1238) (by decide +kernel)⟩
theorem lw_p57 : lw_okq (⟨"ClayAccountsModel", "readTablet", "(I)Z"⟩, 51) := ⟨⟨by decide +kernel, by decide +kernel⟩, List.mem_of_getElem? (i := 960) (by decide +kernel), List.mem_of_getElem? (i := 1249) (by decide +kernel), List.mem_of_getElem? (i := 1250) (by decide +kernel)⟩
theorem lw_p58 : lw_okq (⟨"ClayAccountsModel", "readAmount", "(II)Z"⟩, 51) := ⟨⟨by decide +kernel, by decide +kernel⟩, List.mem_of_getElem? (i := 960) (by decide +kernel), List.mem_of_getElem? (i := 1253) (by decide +kernel), List.mem_of_getElem? (i := 1254) (by decide +kernel)⟩
theorem lw_p59 : lw_okq (⟨"ClayAccountsModel", "canBe", "(III)Z"⟩, 51) := ⟨⟨by decide +kernel, by decide +kernel⟩, List.mem_of_getElem? (i := 960) (by decide +kernel), List.mem_of_getElem? (i := 1257) (by decide +kernel), List.mem_of_getElem? (i := 1258) (by decide +kernel)⟩
theorem lw_p60 : lw_okq (⟨"ClayAccountsModel", "isGood", "(III)Z"⟩, 51) := ⟨⟨by decide +kernel, by decide +kernel⟩, List.mem_of_getElem? (i := 960) (by decide +kernel), List.mem_of_getElem? (i := 1261) (by decide +kernel), List.mem_of_getElem? (i := 1262) (by decide +kernel)⟩
theorem lw_p61 : lw_okq (⟨"ClayAccountsModel", "isUnit", "()Z"⟩, 51) := ⟨⟨by decide +kernel, by decide +kernel⟩, List.mem_of_getElem? (i := 960) (by decide +kernel), List.mem_of_getElem? (i := 1265) (by decide +kernel), List.mem_of_getElem? (i := 1266) (by decide +kernel)⟩
theorem lw_p62 : lw_okq (⟨"ClayAccountsModel", "mostOf", "(II)I"⟩, 51) := ⟨⟨by decide +kernel, by decide +kernel⟩, List.mem_of_getElem? (i := 960) (by decide +kernel), List.mem_of_getElem? (i := 1269) (by decide +kernel), List.mem_of_getElem? (i := 1270) (by decide +kernel)⟩
theorem lw_p63 : lw_okq (⟨"ClayAccountsModel", "badAt", "(II)Z"⟩, 51) := ⟨⟨by decide +kernel, by decide +kernel⟩, List.mem_of_getElem? (i := 960) (by decide +kernel), List.mem_of_getElem? (i := 1273) (by decide +kernel), List.mem_of_getElem? (i := 1274) (by decide +kernel)⟩
def lw_privs_4 : List (MethodName × Nat) := [(⟨"ClayAccountsModel", "isTaken", "(I)Z"⟩, 51), (⟨"ClayAccountsModel", "isSign", "(I)Z"⟩, 51), (⟨"ClayAccountsModel", "readUnit", "(I)Z"⟩, 51), (⟨"ClayAccountsModel", "isFactor", "()Z"⟩, 51), (⟨"ClayAccountsModel", "forget", "()V"⟩, 51), (⟨"ClayAccountsModel", "refuse", "()I"⟩, 51), (⟨"ClayAccountsModel", "worth", "(II)I"⟩, 51), (⟨"ClayAccountsModel", "outByte", "(I)V"⟩, 51), (⟨"ClayAccountsModel", "outName", "(J)V"⟩, 51), (⟨"ClayAccountsModel", "readTablet", "(I)Z"⟩, 51), (⟨"ClayAccountsModel", "readAmount", "(II)Z"⟩, 51), (⟨"ClayAccountsModel", "canBe", "(III)Z"⟩, 51), (⟨"ClayAccountsModel", "isGood", "(III)Z"⟩, 51), (⟨"ClayAccountsModel", "isUnit", "()Z"⟩, 51), (⟨"ClayAccountsModel", "mostOf", "(II)I"⟩, 51), (⟨"ClayAccountsModel", "badAt", "(II)Z"⟩, 51)]
theorem lw_r4 : ∀ q ∈ lw_privs_4, lw_okq q := List.forall_mem_cons.mpr ⟨lw_p48, List.forall_mem_cons.mpr ⟨lw_p49, List.forall_mem_cons.mpr ⟨lw_p50, List.forall_mem_cons.mpr ⟨lw_p51, List.forall_mem_cons.mpr ⟨lw_p52, List.forall_mem_cons.mpr ⟨lw_p53, List.forall_mem_cons.mpr ⟨lw_p54, List.forall_mem_cons.mpr ⟨lw_p55, List.forall_mem_cons.mpr ⟨lw_p56, List.forall_mem_cons.mpr ⟨lw_p57, List.forall_mem_cons.mpr ⟨lw_p58, List.forall_mem_cons.mpr ⟨lw_p59, List.forall_mem_cons.mpr ⟨lw_p60, List.forall_mem_cons.mpr ⟨lw_p61, List.forall_mem_cons.mpr ⟨lw_p62, List.forall_mem_cons.mpr ⟨lw_p63, fun _ h => absurd h List.not_mem_nil⟩⟩⟩⟩⟩⟩⟩⟩⟩⟩⟩⟩⟩⟩⟩⟩
theorem lw_p64 : lw_okq (⟨"ClayAccountsModel", "isLine", "(II)Z"⟩, 51) := ⟨⟨by decide +kernel, by decide +kernel⟩, List.mem_of_getElem? (i := 960) (by decide +kernel), List.mem_of_getElem? (i := 1281) (by decide +kernel), List.mem_of_getElem? (i := 1282) (by decide +kernel)⟩
theorem lw_p65 : lw_okq (⟨"ClayAccountsModel", "isTablet", "(I)Z"⟩, 51) := ⟨⟨by decide +kernel, by decide +kernel⟩, List.mem_of_getElem? (i := 960) (by decide +kernel), List.mem_of_getElem? (i := 1285) (by decide +kernel), List.mem_of_getElem? (i := 1286) (by decide +kernel)⟩
theorem lw_p66 : lw_okq (⟨"ClayAccountsModel", "readAll", "(III)V"⟩, 51) := ⟨⟨by decide +kernel, by decide +kernel⟩, List.mem_of_getElem? (i := 960) (by decide +kernel), List.mem_of_getElem? (i := 1297) (by decide +kernel), List.mem_of_getElem? (i := 1298) (by decide +kernel)⟩
theorem lw_p67 : lw_okq (⟨"ClayAccountsModel", "ways", "(I)I"⟩, 51) := ⟨⟨by decide +kernel, by decide +kernel⟩, List.mem_of_getElem? (i := 960) (by decide +kernel), List.mem_of_getElem? (i := 1301) (by decide +kernel), List.mem_of_getElem? (i := 1302) (by decide +kernel)⟩
theorem lw_p68 : lw_okq (⟨"ClayAccountsModel", "fills", "(II)Z"⟩, 51) := ⟨⟨by decide +kernel, by decide +kernel⟩, List.mem_of_getElem? (i := 960) (by decide +kernel), List.mem_of_getElem? (i := 1305) (by decide +kernel), List.mem_of_getElem? (i := 1306) (by decide +kernel)⟩
theorem lw_p69 : lw_okq (⟨"ClayAccountsModel", "wrongs", "(I)I"⟩, 51) := ⟨⟨by decide +kernel, by decide +kernel⟩, List.mem_of_getElem? (i := 960) (by decide +kernel), List.mem_of_getElem? (i := 1309) (by decide +kernel), List.mem_of_getElem? (i := 1310) (by decide +kernel)⟩
theorem lw_p70 : lw_okq (⟨"ClayAccountsModel", "isFragment", "(I)Z"⟩, 51) := ⟨⟨by decide +kernel, by decide +kernel⟩, List.mem_of_getElem? (i := 960) (by decide +kernel), List.mem_of_getElem? (i := 1337) (by decide +kernel), List.mem_of_getElem? (i := 1338) (by decide +kernel)⟩
theorem lw_p71 : lw_okq (⟨"ClayAccountsModel", "joined", "(II)I"⟩, 51) := ⟨⟨by decide +kernel, by decide +kernel⟩, List.mem_of_getElem? (i := 960) (by decide +kernel), List.mem_of_getElem? (i := 1345) (by decide +kernel), List.mem_of_getElem? (i := 1346) (by decide +kernel)⟩
theorem lw_p72 : lw_okq (⟨"ClayAccountsModel", "sayRow", "(II)I"⟩, 51) := ⟨⟨by decide +kernel, by decide +kernel⟩, List.mem_of_getElem? (i := 960) (by decide +kernel), List.mem_of_getElem? (i := 1349) (by decide +kernel), List.mem_of_getElem? (i := 1350) (by decide +kernel)⟩
theorem lw_p73 : lw_okq (⟨"ClayAccountsModel", "say", "(I)V"⟩, 51) := ⟨⟨by decide +kernel, by decide +kernel⟩, List.mem_of_getElem? (i := 960) (by decide +kernel), List.mem_of_getElem? (i := 1353) (by decide +kernel), List.mem_of_getElem? (i := 1354) (by decide +kernel)⟩
def lw_privs_5 : List (MethodName × Nat) := [(⟨"ClayAccountsModel", "isLine", "(II)Z"⟩, 51), (⟨"ClayAccountsModel", "isTablet", "(I)Z"⟩, 51), (⟨"ClayAccountsModel", "readAll", "(III)V"⟩, 51), (⟨"ClayAccountsModel", "ways", "(I)I"⟩, 51), (⟨"ClayAccountsModel", "fills", "(II)Z"⟩, 51), (⟨"ClayAccountsModel", "wrongs", "(I)I"⟩, 51), (⟨"ClayAccountsModel", "isFragment", "(I)Z"⟩, 51), (⟨"ClayAccountsModel", "joined", "(II)I"⟩, 51), (⟨"ClayAccountsModel", "sayRow", "(II)I"⟩, 51), (⟨"ClayAccountsModel", "say", "(I)V"⟩, 51)]
theorem lw_r5 : ∀ q ∈ lw_privs_5, lw_okq q := List.forall_mem_cons.mpr ⟨lw_p64, List.forall_mem_cons.mpr ⟨lw_p65, List.forall_mem_cons.mpr ⟨lw_p66, List.forall_mem_cons.mpr ⟨lw_p67, List.forall_mem_cons.mpr ⟨lw_p68, List.forall_mem_cons.mpr ⟨lw_p69, List.forall_mem_cons.mpr ⟨lw_p70, List.forall_mem_cons.mpr ⟨lw_p71, List.forall_mem_cons.mpr ⟨lw_p72, List.forall_mem_cons.mpr ⟨lw_p73, fun _ h => absurd h List.not_mem_nil⟩⟩⟩⟩⟩⟩⟩⟩⟩⟩
def lw_privs : List (MethodName × Nat) := lw_privs_1 ++ (lw_privs_2 ++ (lw_privs_3 ++ (lw_privs_4 ++ (lw_privs_5))))
def lw_tbl : List Cond := k2_sels lw_privs ++ tables_1
theorem lw_privs_ok : ∀ q ∈ lw_privs, lw_okq q := by
  show ∀ q ∈ lw_privs_1 ++ (lw_privs_2 ++ (lw_privs_3 ++ (lw_privs_4 ++ (lw_privs_5)))), lw_okq q
  exact List.forall_mem_append.mpr ⟨lw_r1, List.forall_mem_append.mpr ⟨lw_r2, List.forall_mem_append.mpr ⟨lw_r3, List.forall_mem_append.mpr ⟨lw_r4, lw_r5⟩⟩⟩⟩
-- ===== end of PART A; then your names; then what follows =====
end
section
/-! ===== BEGIN words of one list among another's, by their places ===== -/
theorem goodIn_r {big : List Cond} (ws : List Cond) (ps : List Nat) (hp : ws = ps.filterMap (fun i => big[i]?)) (h : ws.all goodWord = true) : GoodIn big ws := by
  intro w hw
  have h1 := List.all_eq_true.mp h w hw
  rw [hp] at hw
  obtain ⟨i, -, hi⟩ := List.mem_filterMap.mp hw
  have hm : w ∈ big := by first | exact List.mem_of_getElem? hi | exact List.getElem?_mem hi
  exact ⟨hm, good_of_word h1⟩
theorem goodIn_app {big a b : List Cond} (ha : GoodIn big a) (hb : GoodIn big b) : GoodIn big (a ++ b) := fun w h => (List.mem_append.mp h).elim (ha w) (hb w)
theorem goodIn_ca {big a b : List Cond} {c : Cond} (ha : GoodIn big (c :: a)) (hb : GoodIn big b) : GoodIn big (c :: (a ++ b)) := fun w h => (List.mem_cons.mp h).elim (fun e => ha w (List.mem_cons.mpr (Or.inl e))) (fun h => (List.mem_append.mp h).elim (fun h => ha w (List.mem_cons.mpr (Or.inr h))) (hb w))
theorem goodIn_sub {big ws : List Cond} (hm : ∀ w ∈ ws, w ∈ big) (h : ws.all goodWord = true) : GoodIn big ws := fun w hw => ⟨hm w hw, good_of_word (List.all_eq_true.mp h w hw)⟩
/-! ===== END ===== -/
/-- the array class over 'array of ty' stands in the tables (the printed va_mna names it; the kit beside this claim lacks it) -/
def va_AOA (ty : FieldType) (U : State) : Prop := (Cond.arrayOver (.array ty)).before #[] U = true
theorem va_AOA.of {ty : FieldType} {A : Array Value} {U : State} (h : (Cond.arrayOver (.array ty)).before A U = true) : va_AOA ty U := h
theorem va_AOA.use {ty : FieldType} {A : Array Value} {U : State} (h : va_AOA ty U) : (Cond.arrayOver (.array ty)).before A U = true := h

/-! ===== BEGIN new T[n][m]: the outer array a place, the inner ones among the pooled ===== -/
/-- f, but v at every address of l -/
def vr_up {α : Type} (f : Nat → α) (l : List Nat) (v : α) : Nat → α := fun a => if a ∈ l then v else f a
theorem vr_up_in {α : Type} {f : Nat → α} {l : List Nat} {v : α} {a : Nat} (h : a ∈ l) : vr_up f l v a = v := if_pos h
theorem vr_up_ne {α : Type} {f : Nat → α} {l : List Nat} {v : α} {a : Nat} (h : a ∉ l) : vr_up f l v a = f a := if_neg h
theorem vr_rows {L l : List Nat} {f : Nat → va_E} {e : va_E} (h : ∀ a, a ∈ l → a ∉ L) : va_pl L f ++ l.map (fun a => (a, e)) = va_pl (L ++ l) (vr_up f l e) := by
  unfold va_pl
  rw [List.map_append]
  congr 1
  · apply List.map_congr_left
    intro a ha
    rw [vr_up_ne (fun q => h a q ha)]
  · apply List.map_congr_left
    intro a ha
    rw [vr_up_in ha]
theorem vr_lay {X rows : va_W} {x : Nat × va_E} {pl : va_W} {D : va_G} {cl : List vw_C} {H : Heap} (hP : va_P D cl (((X ++ pl) ++ [x]) ++ rows) H) : va_P D cl ((X ++ [x]) ++ (pl ++ rows)) H := by
  rw [List.append_assoc (X ++ pl)] at hP
  have h := va_P.swap hP
  rw [← List.append_assoc X] at h
  have h2 := va_P.swap h
  rw [List.append_assoc (X ++ [x])] at h2
  exact h2
theorem vr_layD {X rows : va_W} {x : Nat × va_E} {pl : va_W} {A : Nat → Prop} (hD : va_D A (((X ++ pl) ++ [x]) ++ rows)) : va_D A ((X ++ [x]) ++ (pl ++ rows)) := by
  rw [List.append_assoc (X ++ pl)] at hD
  have h := va_D.swap hD
  rw [← List.append_assoc X] at h
  have h2 := va_D.swap h
  rw [List.append_assoc (X ++ [x])] at h2
  exact h2
theorem vr_outer (c : ClassId) (N h0 : Nat) : ∀ i : Nat, Jvm.Free.Multi.outerC c N h0 i = arrV c N (fun j => va_rf (if j < i then some (h0 + 1 + j) else none))
  | 0 => by
    show ({ cls := c, slots := Array.replicate N .null, vm := .none } : Cell) = _
    rw [arrV_new]
    refine congrArg (arrV c N) (funext fun j => ?_)
    simp [va_rf]
  | i + 1 => by
    show (Jvm.Free.Multi.outerC c N h0 i).setSlot i (.ref (h0 + 1 + i)) = _
    rw [vr_outer c N h0 i, arrV_store]
    refine congrArg (arrV c N) (funext fun j => ?_)
    by_cases e : j = i
    · subst e
      simp [updV, va_rf]
    · by_cases h : j < i
      · simp [updV, e, h, Nat.lt_succ_of_lt h]
      · simp [updV, e, h, show ¬ j < i + 1 by omega]
section VGM
variable {p : Program} {l : Launch} {e : Env} {R : Room} {s : State} {m : MethodId} {args : Array Value} {below : List Frame} {meth : Method} {c : Code} {H : Heap} {locs : List Loc} {cells slots : Nat} {Q : State → Prop}
variable {cc : ByteArray} {pc : Nat} {ls : Array Slot} {rest : List Value} {D : va_G} {cl : List vw_C} {A : Nat → Prop} {a : Nat} {tys : List (ClassId × FieldType)} {ws : va_W} {H0 : Heap}
theorem va_mna {X : va_W} {L : List Nat} {f : Nat → va_E} {cc : ByteArray} (hexec : p.tables.exec = Jvm.exec) (hb : c.code = cc) {own : String} {index : Nat} {ty : FieldType} {cy : ClassId} (hown : s.vm.findClass own = some m.cls) (hclink : (Cond.classLink own index ("[" ++ (FieldType.array ty).toString)).before args s = true) (hover : va_AOA ty s) (harr : (Cond.arrayClass ty).before args s = true) (hcy : s.vm.findClass (FieldType.array ty).toString = some cy)
    (hK : va_K D cl tys s) (hP : va_P D cl (X ++ va_pl L f) H) (hD : va_D A (X ++ va_pl L f)) (hS : va_S A H0 H locs) (hA : ∀ q, H0.size ≤ q → A q) {n k : Int32} {N' K' : Nat} {z : vp_A} (hn : ¬ n < 0) (hk : ¬ k < 0) (hN : n.toNatClampNeg = N') (hM : k.toNatClampNeg = K')
    (hb1 : N' * 4 ≤ 536870912) (hb2 : K' * componentBytes ty ≤ 536870912) (hb3 : K' ≤ 536870912) (hdf : fits ty (defaultValue ty) = true) (hdd : (defaultValue ty).isDefault = true) (hcells : cells + (1 + N') ≤ R.cells) (hslots : slots + (N' + N' * K') ≤ R.slots) (hz : ∀ c : ClassId, Jvm.Free.Multi.innerC c K' (defaultValue ty) = vp_cell c z) (hdg : decode cc pc = .ok (.multianewarray index 2, 4))
    (kk : ∀ (q : Nat) (r : Nat → Nat) (cA : ClassId) (H1 : Heap), (∀ i j : Nat, i < N' → j < N' → r i = r j → i = j) → (∀ i : Nat, i < N' → r i ∉ L) → va_K D cl (tys ++ [(cA, .array ty)]) s →
      va_P D cl ((X ++ [(q, .inl (cA, N', .inr (.inr (.inr (.inr (fun i => if i < N' then some (r i) else none))))))]) ++ va_pl (L ++ (List.range N').map r) (vr_up f ((List.range N').map r) (.inl (cy, z)))) H1 → va_D A ((X ++ [(q, .inl (cA, N', .inr (.inr (.inr (.inr (fun i => if i < N' then some (r i) else none))))))]) ++ va_pl (L ++ (List.range N').map r) (vr_up f ((List.range N').map r) (.inl (cy, z)))) → va_S A H0 H1 locs →
      W p l e R s m args below meth c H1 locs (cells + 1 + N') (slots + N' + N' * K') Q (F0 m (pc + 4) ls (.ref q :: rest))) : W p l e R s m args below meth c H locs cells slots Q (F0 m pc ls (.int k :: .int n :: rest)) := by
  subst hN
  subst hM
  intro T hT Xs
  obtain ⟨vm₁, cA, comp, -, fA, fC, hO, -, X', step⟩ := Xs.multianewarray2F hexec hown hclink (va_AOA.use hover) harr (g := F0 m pc ls (.int k :: .int n :: rest)) rfl (by rw [hb]; exact hdg) rfl hn hk hb1 hb2 hb3 hdf hdd hcells hslots
  have ec : some cy = some comp := hcy.symm.trans fC
  cases ec
  generalize hF : Jvm.Free.Multi.fill (T.setVm vm₁) cA cy n.toNatClampNeg k.toNatClampNeg (defaultValue ty) n.toNatClampNeg = F at X' step
  have hTh : (T.setVm vm₁).heap = H := hT
  obtain ⟨f1, f2, -, -⟩ := Jvm.Free.Multi.fill_facts (T.setVm vm₁) cA cy n.toNatClampNeg k.toNatClampNeg (defaultValue ty) n.toNatClampNeg
  rw [hF, hTh] at f1 f2
  have hold : ∀ x : Nat, x < H.size → F.heap[x]? = H[x]? := fun x hx => by
    have := Jvm.Free.Multi.fill_old (T.setVm vm₁) cA cy n.toNatClampNeg k.toNatClampNeg (defaultValue ty) (a := x) (by rw [hTh]; exact hx) n.toNatClampNeg
    rw [hF, hTh] at this
    exact this
  have hrow : ∀ j : Nat, j < n.toNatClampNeg → F.heap[H.size + 1 + j]? = some (vp_cell cy z) := fun j hj => by
    have := Jvm.Free.Multi.fill_inner (T.setVm vm₁) cA cy n.toNatClampNeg k.toNatClampNeg (defaultValue ty) n.toNatClampNeg j hj
    rw [hF, hTh, hz] at this
    exact this
  have hout : Jvm.Free.Multi.outerC cA n.toNatClampNeg H.size n.toNatClampNeg = vp_cell cA (n.toNatClampNeg, .inr (.inr (.inr (.inr (fun i => if i < n.toNatClampNeg then some (H.size + 1 + i) else none))))) := by
    rw [vp_cell_q]
    exact vr_outer cA n.toNatClampNeg H.size n.toNatClampNeg
  rw [hout] at f2
  have hlt : ∀ a, a ∈ L → a < H.size := fun a ha => by
    obtain ⟨k9, hk9⟩ := va_pl_get (X := X) (f := f) ha
    exact (hP k9 _ hk9).lt
  have hnl : ∀ i : Nat, i < n.toNatClampNeg → H.size + 1 + i ∉ L := fun i _ h => by
    have := hlt _ h
    omega
  have hnm : ∀ a, a ∈ (List.range n.toNatClampNeg).map (fun i => H.size + 1 + i) → a ∉ L := fun a ha h => by
    obtain ⟨i, -, rfl⟩ := List.mem_map.mp ha
    have := hlt _ h
    omega
  have hP0 : va_P D cl (X ++ va_pl L f) F.heap := hP.kept (fun k9 x hx => hold x.1 ((hP k9 x hx).lt))
  have hP1 : va_P D cl ((X ++ va_pl L f) ++ [(H.size, .inl (cA, n.toNatClampNeg, .inr (.inr (.inr (.inr (fun i => if i < n.toNatClampNeg then some (H.size + 1 + i) else none))))))]) F.heap := hP0.app (fun k9 x hx => by
    have h0 : k9 < 1 := (List.getElem?_eq_some_iff.mp hx).1
    rw [show k9 = 0 by omega] at hx
    cases hx
    exact f2)
  have hP2 : va_P D cl (((X ++ va_pl L f) ++ [(H.size, .inl (cA, n.toNatClampNeg, .inr (.inr (.inr (.inr (fun i => if i < n.toNatClampNeg then some (H.size + 1 + i) else none))))))]) ++ ((List.range n.toNatClampNeg).map (fun i => H.size + 1 + i)).map (fun a => (a, .inl (cy, z)))) F.heap := hP1.app (fun k9 x hx => by
    obtain ⟨a, ha, rfl⟩ := List.mem_map.mp (List.mem_of_getElem? hx)
    obtain ⟨i, hi, rfl⟩ := List.mem_map.mp ha
    exact hrow i (List.mem_range.mp hi))
  have hD2 : va_D A (((X ++ va_pl L f) ++ [(H.size, .inl (cA, n.toNatClampNeg, .inr (.inr (.inr (.inr (fun i => if i < n.toNatClampNeg then some (H.size + 1 + i) else none))))))]) ++ ((List.range n.toNatClampNeg).map (fun i => H.size + 1 + i)).map (fun a => (a, .inl (cy, z)))) := by
    have hD1 := hD.push (e := .inl (cA, n.toNatClampNeg, .inr (.inr (.inr (.inr (fun i => if i < n.toNatClampNeg then some (H.size + 1 + i) else none)))))) hP rfl (hA _ hS.1)
    generalize hW1 : (X ++ va_pl L f) ++ [(H.size, .inl (cA, n.toNatClampNeg, .inr (.inr (.inr (.inr (fun i => if i < n.toNatClampNeg then some (H.size + 1 + i) else none))))))] = W1 at hD1 hP1 ⊢
    have hle : ∀ (k9 : Nat) (x : Nat × va_E), W1[k9]? = some x → x.1 ≤ H.size := fun k9 x hx => by
      rw [← hW1] at hx
      by_cases hl : k9 < (X ++ va_pl L f).length
      · rw [List.getElem?_append_left hl] at hx
        exact Nat.le_of_lt ((hP k9 x hx).lt)
      · rw [List.getElem?_append_right (by omega)] at hx
        have h0 : k9 - (X ++ va_pl L f).length < 1 := (List.getElem?_eq_some_iff.mp hx).1
        rw [show k9 - (X ++ va_pl L f).length = 0 by omega] at hx
        cases hx
        exact Nat.le_refl _
    have hr : ∀ (k9 : Nat) (x : Nat × va_E), (((List.range n.toNatClampNeg).map (fun i => H.size + 1 + i)).map (fun a => ((a, .inl (cy, z)) : Nat × va_E)))[k9]? = some x → x.1 = H.size + 1 + k9 := fun k9 x hx => by
      rw [List.getElem?_map, List.getElem?_map] at hx
      by_cases h9 : k9 < n.toNatClampNeg
      · rw [List.getElem?_range h9] at hx
        cases hx
        rfl
      · have hn0 : (List.range n.toNatClampNeg)[k9]? = none := List.getElem?_eq_none (by rw [List.length_range]; omega)
        rw [hn0] at hx
        cases hx
    refine ⟨fun i j x y hi hj hxy => ?_, fun k9 x hx => ?_⟩
    · by_cases h1 : i < W1.length <;> by_cases h2 : j < W1.length
      · rw [List.getElem?_append_left h1] at hi
        rw [List.getElem?_append_left h2] at hj
        exact hD1.1 i j x y hi hj hxy
      · rw [List.getElem?_append_left h1] at hi
        rw [List.getElem?_append_right (by omega)] at hj
        have := hle _ _ hi
        have := hr _ _ hj
        omega
      · rw [List.getElem?_append_right (by omega)] at hi
        rw [List.getElem?_append_left h2] at hj
        have := hle _ _ hj
        have := hr _ _ hi
        omega
      · rw [List.getElem?_append_right (by omega)] at hi hj
        have := hr _ _ hi
        have := hr _ _ hj
        omega
    · by_cases h1 : k9 < W1.length
      · rw [List.getElem?_append_left h1] at hx
        exact hD1.2 k9 x hx
      · rw [List.getElem?_append_right (by omega)] at hx
        have := hr _ _ hx
        exact hA _ (by have := hS.1; omega)
  have hAr : ArrOfT s cA (.array ty) := fun N9 z9 => by
    obtain ⟨-, k9, hk9, cm9, hkk9⟩ := (hO 0 0 0).1
    exact ⟨(fun q hq => by cases hq), k9, hk9, cm9, hkk9⟩
  have hK2 : va_K D cl (tys ++ [(cA, .array ty)]) s := ⟨hK.1, fun k9 x hx => by
    by_cases hl : k9 < tys.length
    · rw [List.getElem?_append_left hl] at hx
      exact hK.2 k9 x hx
    · rw [List.getElem?_append_right (by omega)] at hx
      have h0 : k9 - tys.length < 1 := (List.getElem?_eq_some_iff.mp hx).1
      rw [show k9 - tys.length = 0 by omega] at hx
      cases hx
      exact ⟨hAr, fA⟩⟩
  obtain ⟨t, a1, b1⟩ := kk H.size (fun i => H.size + 1 + i) cA F.heap (fun i j _ _ h => by have h9 : H.size + 1 + i = H.size + 1 + j := h; omega) hnl hK2 (by rw [← vr_rows hnm]; exact vr_lay hP2) (by rw [← vr_rows hnm]; exact vr_layD hD2) ⟨by rw [f1]; have := hS.1; omega, fun x h1 h2 => (hold x (Nat.lt_of_lt_of_le h1 hS.1)).trans (hS.2.1 x h1 h2), hS.2.2⟩ F rfl X'
  refine ⟨t, step t ?_, b1⟩
  have e : T.heap.size = H.size := by rw [hT]
  rw [e]
  exact a1
end VGM
/-! ===== END ===== -/

/-! ===== BEGIN exceptions that leave a method, and their catching by the caller (launches without stack traces) ===== -/
section VXA
/-! The laws vx_back, vx_callV, vx_callS, vx_callSW, vx_throw0, vx_throwS follow proofs of the library, with one case more: JvmDerived/Free/Laws.lean (Back.of_free), Shelf42/LK1.lean (callV, callS), Shelf/KitTraced.lean (throwNew0V, throwNewS). -/
/-- where a method has thrown q: the class by its name, the cell, what was written, the world -/
def vx_T (XC : String → State → State → Prop) (st : State) (q : Addr) (t : State) (mc ms : Nat) (free : Addr → Prop) : Prop :=
  ∃ (E : String) (ce : Cell) (L : List Loc), XC E st t ∧ t.heap[q]? = some ce ∧ ce.vm = .none ∧ st.vm.findClass E = some ce.cls ∧ st.WarmedH t.vm ∧ st.sameButNew ({ t with vm := st.vm } : State) L mc ms ∧ ∀ z ∈ L, free z.base
def vx_Q (Qc : Array Value → State → Outcome → State → Prop) (XC : String → State → State → Prop) (mc ms : Nat) (free : Addr → Prop) : Array Value → State → Outcome → State → Prop := fun a st o t =>
  (Qc a st o t ∧ ∃ L, FrameEnd st o t L mc ms ∧ ∀ q ∈ L, free q.base) ∨ ∃ q, o = .threw q ∧ vx_T XC st q t mc ms free
/-- a callee that returns or throws -/
def vx_Met (l : Launch) (y : MethodName) (ws : List Cond) (rm : Room) (Pc : Array Value → State → Prop) (Qc : Array Value → State → Outcome → State → Prop) (XC : String → State → State → Prop) (mc ms : Nat) (free : Addr → Prop) : Prop :=
  MetFree l y (headSpec ws rm) Pc (fun _ _ _ _ _ => True) (vx_Q Qc XC mc ms free)
def vx_Post (XC : String → State → State → Prop) (mc ms : Nat) (free : Addr → Prop) : Pt → Array Value → Addr → Pt → Prop := fun A a q B =>
  ∃ (g : JFrame) (mk : MethodId) (t : State) (L : List Loc) (E : String) (ce : Cell), B.U.heap = t.heap ∧ B.U.vm = t.vm ∧ XC E (A.U.calling g mk a) t ∧ t.heap[q]? = some ce ∧ ce.vm = .none ∧ A.U.vm.findClass E = some ce.cls ∧ B.locs = A.locs ++ L ∧ (∀ z ∈ L, free z.base) ∧ B.cells = A.cells + mc ∧ B.slots = A.slots + ms
def vx_Back (l : Launch) (R : Room) (p : Program) (e : Env) (below : List Frame) (s : State) (sargs : Array Value) (y : MethodName) (len W9 : Nat)
    (Pre : Pt → Array Value → Prop) (Post : Pt → Array Value → Option Value → Pt → Prop) (PostX : Pt → Array Value → Addr → Pt → Prop) : Prop :=
  ∀ (m : MethodId) (meth : Method) (c : Code) (A : Pt) (g : JFrame) (ig : Instr) (mk : MethodId) (a : Array Value),
    Stand p l e R s m sargs below meth c A.U A.locs A.cells A.slots → g.method = m → g.locals.size = c.maxLocals → decode c.code g.pc = .ok (ig, len) →
    2 * g.monitorRoom + (g.stack.map fun v => v.category).sum ≤ W9 → A.U.methodNamed? y = some mk → Pre A a →
    (∃ (v : Option Value) (B : Pt), Stand p l e R s m sargs below meth c B.U B.locs B.cells B.slots ∧ Post A a v B ∧
      Steps p.tables e below (doInvoke e (A.U.setTop g) [] mk a).1 (B.U.setTop { g with pc := g.pc + len, stack := v.toList ++ g.stack })) ∨
    (∃ (q : Addr) (B : Pt), Stand p l e R s m sargs below meth c B.U B.locs B.cells B.slots ∧ PostX A a q B ∧
      Steps p.tables e below (doInvoke e (A.U.setTop g) [] mk a).1 ((B.U.setTop g).pushFrame (.throwing q)))
section Payer
variable {l : Launch} {R : Room} {p : Program} {e : Env} {below : List Frame} {s : State} {sargs : Array Value} {y : MethodName} {len W9 : Nat}
theorem vx_back {ws : List Cond} {rm : Room} {Pc : Array Value → State → Prop} {Qc : Array Value → State → Outcome → State → Prop} {XC : String → State → State → Prop} {mc ms : Nat} {free : Addr → Prop} {bytes : ByteArray} {maxL : Nat} {ret : Option FieldType}
    (hM : vx_Met l y ws rm Pc Qc XC mc ms free) (hblind : FrameBlind Pc) (hrc : rm.cells = mc) (hrs : rm.slots = ms)
    (hframes : rm.frames + 1 ≤ R.frames) (hlocals : W9 + (maxL + 11) + rm.locals ≤ R.locals)
    (hws : ∀ w ∈ ws, ∀ a' U, s.WarmedH U.vm → w.before a' U = true) (hcode : Cond.code y bytes maxL ret ∈ ws) (hinit : ∀ a' U, s.WarmedH U.vm → (Cond.initialized y.cls).before a' U = true) :
    vx_Back l R p e below s sargs y len W9 (PreOf R mc ms Pc) (PostOf Qc mc ms free) (vx_Post XC mc ms free) := by
  intro m meth c A g ig mk a X hg hsize hdg hW hn hp
  have h1 : (headSpec ws rm).pre.before a A.U = true := atoms_intro fun w hw => hws w hw _ _ X.warmed
  have h2 : (Cond.code y bytes maxL ret).before a A.U = true := hws _ hcode _ _ X.warmed
  have h3 : (Cond.initialized y.cls).before a A.U = true := hinit _ _ X.warmed
  have h4 : A.cells + (headSpec ws rm).room.cells ≤ R.cells := by rw [show (headSpec ws rm).room.cells = mc from hrc]; exact hp.1
  have h5 : A.slots + (headSpec ws rm).room.slots ≤ R.slots := by rw [show (headSpec ws rm).room.slots = ms from hrs]; exact hp.2.1
  have hPc : Pc a (A.U.calling g mk a) := hblind _ _ _ _ hp.2.2
  obtain ⟨U, Ls, c0, s0⟩ := A
  dsimp only [Pt.U, Pt.locs, Pt.cells, Pt.slots] at h1 h2 h3 h4 h5 X hn hPc ⊢
  obtain ⟨methY, cY, hmY, hcY, -, hlY, -, -, -, -⟩ := Cond.code_spec hn h2
  obtain ⟨kY, hkY, -⟩ := className_of_methodNamed hn
  have hinitY : kY.init = .initialized := Cond.initialized_spec (findClass_of_methodNamed hn) hkY h3
  have h : At U g.method c below := by rw [hg]; exact X.here
  have hlocals9 : W9 + (maxL + 11) + (headSpec ws rm).room.locals ≤ R.locals := hlocals
  have happ : (headSpec ws rm).appliesLoose y e.platform (U.calling g mk a) = true :=
    Spec.appliesLoose_calling (g := g) h hdg hn hkY hinitY
      (X.room_calling (g := g) (R' := (headSpec ws rm).room) hsize hmY hcY hframes (by rw [hlY]; omega) h4 h5) h1
  obtain ⟨mid, hmid⟩ := h.above
  have hfr : (U.setTop g).frames = (.java g :: mid) ++ below := by rw [State.frames_setTop' g h.top, hmid]; rfl
  obtain ⟨o, s₂, hsteps, -, hend, hq⟩ := Steps.callFree hM p X.admits X.cas X.clock (acts := []) hfr happ hPc trivial
  have hq' : vx_Q Qc XC mc ms free a (U.calling g mk a) o s₂ := hq
  rw [State.frames_setTop' g h.top] at hend
  obtain ⟨g₀, hg0⟩ := Option.isSome_iff_exists.mp h.top
  obtain ⟨r, hr⟩ := State.topJava?_eq_some.mp hg0
  have hr' : (({ U with heap := s₂.heap, slotsUsed := s₂.slotsUsed } : State).setVm s₂.vm).frames = .java g₀ :: r := hr
  rcases hq' with ⟨hqc, L, hfe, hL⟩ | ⟨q, rfl, E, ce, L, hx, hce, hcv, hcl, hW₂, hsm, hL⟩
  · obtain ⟨⟨v, rfl⟩, hW₂, e2, q2, q3, q4, q5, q6⟩ := id hfe
    have e3 : s₂ = ({ (U.calling g mk a).setFrames s₂.frames with heap := s₂.heap, slotsUsed := s₂.slotsUsed } : State).setVm s₂.vm := by
      have : s₂ = ({ s₂ with vm := (U.calling g mk a).vm } : State).setVm s₂.vm := rfl
      rw [e2] at this
      exact this
    obtain ⟨c₂, i₂, len₂, hc₂, hd₂, hf₂⟩ := hend
    have hW' : U.WarmedH s₂.vm := hW₂
    have hcc : c₂ = c := by
      have h1 : s₂.code? g.method = U.code? g.method := by
        rw [State.code?_eq, State.code?_eq, hW'.alike.method?]
      exact Option.some.inj (hc₂.symm.trans (h1.trans h.code))
    subst hcc
    have hlen : len₂ = len := by rw [hdg] at hd₂; cases hd₂; rfl
    subst hlen
    have hs₂ : s₂ = (({ U with heap := s₂.heap, slotsUsed := s₂.slotsUsed } : State).setVm s₂.vm).setTop { g with pc := g.pc + len₂, stack := v.toList ++ g.stack } := by
      refine e3.trans ?_
      rw [hf₂, State.calling_eq h.top, State.setFrames_setFrames, State.setTop_of_frames _ hr', hr]
      rfl
    have hsame : U.sameButNew ({ U with heap := s₂.heap, slotsUsed := s₂.slotsUsed } : State) L mc ms := by
      refine ⟨?_, q2, q3, q4, q5, q6⟩
      obtain ⟨t, ht, -⟩ := State.frames_cons hr
      show ({ U with heap := s₂.heap, slotsUsed := s₂.slotsUsed } : State) = { U.setFrames U.frames with heap := s₂.heap, slotsUsed := s₂.slotsUsed }
      rw [State.setFrames_self ht]
    subst hg
    refine Or.inl ⟨v, ⟨(({ U with heap := s₂.heap, slotsUsed := s₂.slotsUsed } : State).setVm s₂.vm), Ls ++ L, c0 + mc, s0 + ms⟩,
      ⟨X.admits, X.cas, X.clock, X.frames, X.room, X.hears, X.method, X.code, (X.here.setHeapUsed s₂.heap s₂.slotsUsed).setVm hW'.alike, X.tail, State.WarmedH.trans X.warmed hW', X.limits, X.bytes, X.same.trans (hsame.setVm s.vm)⟩,
      ⟨g, mk, s₂, L, rfl, rfl, hqc, rfl, hL, rfl, rfl⟩, ?_⟩
    show Steps p.tables e below _ ((({ U with heap := s₂.heap, slotsUsed := s₂.slotsUsed } : State).setVm s₂.vm).setTop { g with pc := g.pc + len₂, stack := v.toList ++ g.stack })
    rw [← hs₂]
    exact hsteps
  · obtain ⟨e2, q2, q3, q4, q5, q6⟩ := id hsm
    have e3 : s₂ = ({ (U.calling g mk a).setFrames s₂.frames with heap := s₂.heap, slotsUsed := s₂.slotsUsed } : State).setVm s₂.vm := by
      have : s₂ = ({ s₂ with vm := (U.calling g mk a).vm } : State).setVm s₂.vm := rfl
      rw [e2] at this
      exact this
    have hf₂ : s₂.frames = .throwing q :: .java g :: U.frames.tail := hend
    have hW' : U.WarmedH s₂.vm := hW₂
    have hs₂ : s₂ = ((({ U with heap := s₂.heap, slotsUsed := s₂.slotsUsed } : State).setVm s₂.vm).setTop g).pushFrame (.throwing q) := by
      refine e3.trans ?_
      rw [hf₂, State.calling_eq h.top, State.setFrames_setFrames, State.pushFrame, State.frames_setTop _ hr', State.setTop_of_frames _ hr', State.setFrames_setFrames, hr]
      rfl
    have hsame : U.sameButNew ({ U with heap := s₂.heap, slotsUsed := s₂.slotsUsed } : State) L mc ms := by
      refine ⟨?_, q2, q3, q4, q5, q6⟩
      obtain ⟨t, ht, -⟩ := State.frames_cons hr
      show ({ U with heap := s₂.heap, slotsUsed := s₂.slotsUsed } : State) = { U.setFrames U.frames with heap := s₂.heap, slotsUsed := s₂.slotsUsed }
      rw [State.setFrames_self ht]
    subst hg
    refine Or.inr ⟨q, ⟨(({ U with heap := s₂.heap, slotsUsed := s₂.slotsUsed } : State).setVm s₂.vm), Ls ++ L, c0 + mc, s0 + ms⟩,
      ⟨X.admits, X.cas, X.clock, X.frames, X.room, X.hears, X.method, X.code, (X.here.setHeapUsed s₂.heap s₂.slotsUsed).setVm hW'.alike, X.tail, State.WarmedH.trans X.warmed hW', X.limits, X.bytes, X.same.trans (hsame.setVm s.vm)⟩,
      ⟨g, mk, s₂, L, E, ce, rfl, rfl, hx, hce, hcv, hcl, rfl, hL, rfl, rfl⟩, ?_⟩
    show Steps p.tables e below _ (((({ U with heap := s₂.heap, slotsUsed := s₂.slotsUsed } : State).setVm s₂.vm).setTop g).pushFrame (.throwing q))
    rw [← hs₂]
    exact hsteps
end Payer
section Calls
variable {p : Program} {l : Launch} {e : Env} {R : Room} {s : State} {m : MethodId} {args : Array Value} {below : List Frame} {meth : Method} {c : Code} {T : State} {locs : List Loc} {cells slots : Nat}
theorem vx_callV (X : Stand p l e R s m args below meth c T locs cells slots) (hexec : p.tables.exec = Jvm.exec) {own C : String} {index : Nat} {y : MethodName} {bytes : ByteArray} {maxL : Nat} {ret : Option FieldType}
    (hown : s.vm.findClass own = some m.cls) (hlink : (Cond.methodLink own index y).before args s = true) (hinst : (Cond.instanceMethod y).before args s = true) (hsel : (Cond.selects C y y).before args s = true)
    (hcode : (Cond.code y bytes maxL ret).before args s = true) (hy : y.cls ≠ "java/lang/invoke/MethodHandle" ∧ y.cls ≠ "java/lang/invoke/VarHandle")
    {W9 : Nat} {Pre : Pt → Array Value → Prop} {Post : Pt → Array Value → Option Value → Pt → Prop} {PostX : Pt → Array Value → Addr → Pt → Prop} (hK : vx_Back l R p e below s args y 3 W9 Pre Post PostX)
    {b : Addr} {cellB : Cell} (hcell : T.heap[b]? = some cellB) (hobj : cellB.vm.isStatics = false) (hcls : s.vm.findClass C = some cellB.cls)
    {g : JFrame} (hg : g.method = m) (hsize : g.locals.size = c.maxLocals) {argsL rest : List Value} (hlen : ∀ sig, parseMethodDescriptor y.desc = some sig → argsL.length = sig.parameters.length)
    (hstack : g.stack = argsL.reverse ++ .ref b :: rest) (hW : 2 * g.monitorRoom + (rest.map fun v => v.category).sum ≤ W9) (hdg : decode c.code g.pc = .ok (.invokevirtual index, 3))
    (hpre : ∀ vm₁, s.WarmedH vm₁ → Pre ⟨T.setVm vm₁, locs, cells, slots⟩ (Value.ref b :: argsL).toArray) :
    (∃ (v : Option Value) (vm₁ : Vm) (B : Pt), s.WarmedH vm₁ ∧ Stand p l e R s m args below meth c B.U B.locs B.cells B.slots ∧ Post ⟨T.setVm vm₁, locs, cells, slots⟩ (Value.ref b :: argsL).toArray v B ∧
      ∀ target, Steps p.tables e below (B.U.setTop { g with pc := g.pc + 3, stack := v.toList ++ rest }) target → Steps p.tables e below (T.setTop g) target) ∨
    (∃ (q : Addr) (vm₁ : Vm) (B : Pt), s.WarmedH vm₁ ∧ Stand p l e R s m args below meth c B.U B.locs B.cells B.slots ∧ PostX ⟨T.setVm vm₁, locs, cells, slots⟩ (Value.ref b :: argsL).toArray q B ∧
      Steps p.tables e below (T.setTop g) ((B.U.setTop { g with stack := rest }).pushFrame (.throwing q))) := by
  obtain ⟨mk, methM, hnamed, hmethM, hstM, habM⟩ := Cond.instanceMethod_spec hinst
  obtain ⟨methM', cM, hmethM', -, -, -, -, -, -, hsigM⟩ := Cond.code_spec hnamed hcode
  cases hmethM.symm.trans hmethM'
  obtain ⟨c2, r2, m2, q1, q2, q3, q4, kP, hkP, hkPi⟩ := Cond.selects_spec hsel
  cases hcls.symm.trans q1
  cases (State.methodFound?_of_named hnamed hy).symm.trans q2
  cases hnamed.symm.trans q3
  have hselP : selectMethod e.platform s.vm cellB.cls mk = .method mk := by rw [Launch.admits_selectMethod X.admits]; exact q4
  obtain ⟨vm₁, X₁, hstep₁⟩ := X.invokevirtual hexec hown hlink hnamed hmethM hstM hkP hkPi hy (a := b) (cell := cellB) hcell
    (fun z h => by rw [h] at hobj; cases hobj) hselP hmethM habM hkP hkPi (g := g) hg (argsL := argsL) (rest := rest) (hlen _ hsigM) hstack hdg
  rcases hK m meth c ⟨T.setVm vm₁, locs, cells, slots⟩ { g with stack := rest } (.invokevirtual index) mk (Value.ref b :: argsL).toArray X₁ hg hsize hdg hW (X₁.named hnamed) (hpre vm₁ X₁.warmed) with ⟨v, B, X', hpost, hsteps⟩ | ⟨q, B, X', hpost, hsteps⟩
  · exact Or.inl ⟨v, vm₁, B, X₁.warmed, X', hpost, fun target h => hstep₁ _ fun acts => by rw [doInvoke_state]; exact hsteps.trans h⟩
  · exact Or.inr ⟨q, vm₁, B, X₁.warmed, X', hpost, hstep₁ _ fun acts => by rw [doInvoke_state]; exact hsteps⟩
theorem vx_callS (X : Stand p l e R s m args below meth c T locs cells slots) (hexec : p.tables.exec = Jvm.exec) {own : String} {index : Nat} {y : MethodName} {bytes : ByteArray} {maxL : Nat} {ret : Option FieldType}
    (hown : s.vm.findClass own = some m.cls) (hlink : (Cond.methodLink own index y).before args s = true) (hstat : (Cond.static y).before args s = true) (hinit : (Cond.initialized y.cls).before args s = true)
    (hcode : (Cond.code y bytes maxL ret).before args s = true) (hy : y.cls ≠ "java/lang/invoke/MethodHandle" ∧ y.cls ≠ "java/lang/invoke/VarHandle")
    {W9 : Nat} {Pre : Pt → Array Value → Prop} {Post : Pt → Array Value → Option Value → Pt → Prop} {PostX : Pt → Array Value → Addr → Pt → Prop} (hK : vx_Back l R p e below s args y 3 W9 Pre Post PostX)
    {g : JFrame} (hg : g.method = m) (hsize : g.locals.size = c.maxLocals) {argsL rest : List Value} (hlen : ∀ sig, parseMethodDescriptor y.desc = some sig → argsL.length = sig.parameters.length)
    (hstack : g.stack = argsL.reverse ++ rest) (hW : 2 * g.monitorRoom + (rest.map fun v => v.category).sum ≤ W9) (hdg : decode c.code g.pc = .ok (.invokestatic index, 3))
    (hpre : ∀ vm₁, s.WarmedH vm₁ → Pre ⟨T.setVm vm₁, locs, cells, slots⟩ argsL.toArray) :
    (∃ (v : Option Value) (vm₁ : Vm) (B : Pt), s.WarmedH vm₁ ∧ Stand p l e R s m args below meth c B.U B.locs B.cells B.slots ∧ Post ⟨T.setVm vm₁, locs, cells, slots⟩ argsL.toArray v B ∧
      ∀ target, Steps p.tables e below (B.U.setTop { g with pc := g.pc + 3, stack := v.toList ++ rest }) target → Steps p.tables e below (T.setTop g) target) ∨
    (∃ (q : Addr) (vm₁ : Vm) (B : Pt), s.WarmedH vm₁ ∧ Stand p l e R s m args below meth c B.U B.locs B.cells B.slots ∧ PostX ⟨T.setVm vm₁, locs, cells, slots⟩ argsL.toArray q B ∧
      Steps p.tables e below (T.setTop g) ((B.U.setTop { g with stack := rest }).pushFrame (.throwing q))) := by
  obtain ⟨mk, hnamed⟩ := Cond.code_named hcode
  obtain ⟨methM, cM, hmethM, -, -, -, -, -, -, hsigM⟩ := Cond.code_spec hnamed hcode
  have hstatic : methM.isStatic = true := Cond.static_spec hnamed hmethM hstat
  obtain ⟨kP, hkP, -⟩ := className_of_methodNamed hnamed
  have hinitP : kP.init = .initialized := Cond.initialized_spec (findClass_of_methodNamed hnamed) hkP hinit
  obtain ⟨vm₁, X₁, hstep₁⟩ := X.invokestatic hexec hown hlink hnamed hmethM hstatic hkP hinitP hy (g := g) hg (argsL := argsL) (rest := rest) (hlen _ hsigM) hstack hdg
  rcases hK m meth c ⟨T.setVm vm₁, locs, cells, slots⟩ { g with stack := rest } (.invokestatic index) mk argsL.toArray X₁ hg hsize hdg hW (X₁.named hnamed) (hpre vm₁ X₁.warmed) with ⟨v, B, X', hpost, hsteps⟩ | ⟨q, B, X', hpost, hsteps⟩
  · exact Or.inl ⟨v, vm₁, B, X₁.warmed, X', hpost, fun target h => hstep₁ _ fun acts => by rw [doInvoke_state]; exact hsteps.trans h⟩
  · exact Or.inr ⟨q, vm₁, B, X₁.warmed, X', hpost, hstep₁ _ fun acts => by rw [doInvoke_state]; exact hsteps⟩
end Calls
theorem vx_cls {s : State} {T : State} {vm₁ : Vm} {E : String} {k : ClassId} (hW : s.WarmedH vm₁) (h : (T.setVm vm₁).vm.findClass E = some k) : s.vm.findClass E = some k := by
  have h1 : vm₁.findClass E = some k := h
  rw [hW.alike.findClass] at h1
  exact h1
/-- the method's frame g, with q thrown over it -/
def vx_W (p : Program) (l : Launch) (e : Env) (R : Room) (s : State) (m : MethodId) (args : Array Value) (below : List Frame) (meth : Method) (c : Code) (H : Heap) (locs : List Loc) (cells slots : Nat) (Q : State → Prop) (g : JFrame) (q : Addr) : Prop :=
  ∀ T : State, T.heap = H → Stand p l e R s m args below meth c T locs cells slots → ∃ t, Steps p.tables e below ((T.setTop g).pushFrame (.throwing q)) t ∧ Q t
def vx_Run (p : Program) (l : Launch) (e : Env) (R : Room) (s : State) (m : MethodId) (args : Array Value) (below : List Frame) (meth : Method) (c : Code) (H : Heap) (locs : List Loc) (cells slots mc ms : Nat) (g : JFrame) (rest : List Value) (Qa : State → Outcome → State → Prop) (XC : String → State → State → Prop) (free : Addr → Prop) : Prop :=
  ∀ T : State, T.heap = H → Stand p l e R s m args below meth c T locs cells slots →
    (∃ (v : Option Value) (st₀ t T' : State) (L : List Loc), st₀.heap = H ∧ Stand p l e R s m args below meth c T' (locs ++ L) (cells + mc) (slots + ms) ∧ (∀ q ∈ L, free q.base) ∧ T'.heap = t.heap ∧ T'.vm = t.vm ∧ Qa st₀ (.returned v) t ∧
      Goes p e below T g T' { g with pc := g.pc + 3, stack := v.toList ++ rest }) ∨
    (∃ (q : Addr) (st₀ t T' : State) (L : List Loc) (E : String) (ce : Cell), st₀.heap = H ∧ Stand p l e R s m args below meth c T' (locs ++ L) (cells + mc) (slots + ms) ∧ (∀ z ∈ L, free z.base) ∧ T'.heap = t.heap ∧ T'.vm = t.vm ∧ XC E st₀ t ∧ t.heap[q]? = some ce ∧ ce.vm = .none ∧ s.vm.findClass E = some ce.cls ∧
      Steps p.tables e below (T.setTop g) ((T'.setTop { g with stack := rest }).pushFrame (.throwing q)))
def vx_X {S : Type} (px : S → Prop) (B : String → S → State → Prop) (A : Nat → Prop) : String → State → State → Prop := fun E st t => ∃ u : S, px u ∧ B E u t ∧ va_F A st t
section Runs
variable {p : Program} {l : Launch} {e : Env} {R : Room} {s : State} {m : MethodId} {args : Array Value} {below : List Frame} {meth : Method} {c : Code} {H : Heap} {locs : List Loc} {cells slots : Nat}
variable {y : MethodName} {bytes cc : ByteArray} {maxL nL mc ms n index : Nat} {ret : Option FieldType} {ws : List Cond} {rm : Room} {Pc : Array Value → State → Prop} {Qc : Array Value → State → Outcome → State → Prop} {XC : String → State → State → Prop} {free : Addr → Prop} {Ts : List Cond} {own C : String} {b : Addr} {As rest : List Value} {g : JFrame}
theorem vx_callBack (cb : CallB R s args own index y bytes maxL ret ws rm mc ms n) (hM : vx_Met l y ws rm Pc Qc XC mc ms free) (hbl : FrameBlind Pc) : vx_Back l R p e below s args y 3 8 (PreOf R mc ms Pc) (PostOf Qc mc ms free) (vx_Post XC mc ms free) := by
  obtain ⟨hrc, hrs, hfr, hlo, hws, hcw, -, hini, -⟩ := cb
  exact vx_back (bytes := bytes) (maxL := maxL) (ret := ret) hM hbl hrc hrs hfr hlo hws hcw (fun a' U hW => word_at hW (Or.inl (by first | rfl | simp [Cond.onTables, Cond.keeps, Cond.steady])) hini)
theorem vx_runV (S : CallFix p m c cc nL s args Ts own) (hM : vx_Met l y ws rm Pc Qc XC mc ms free) (cw : CallW R s args own C index y bytes maxL ret ws rm mc ms n) (hp : PreV s H C b Pc As)
    (hg : g.method = m) (hn : As.length = n) (hsize : g.locals.size = nL) (hstack : g.stack = As.reverse ++ .ref b :: rest) (hW : 2 * g.monitorRoom + (rest.map fun v => v.category).sum ≤ 8) (hdg : decode cc g.pc = .ok (.invokevirtual index, 3)) (hf : cells + mc ≤ R.cells ∧ slots + ms ≤ R.slots) :
    vx_Run p l e R s m args below meth c H locs cells slots mc ms g rest (Qc (Value.ref b :: As).toArray) XC free := by
  have hK : vx_Back l R p e below s args y 3 8 (PreOf R mc ms Pc) (PostOf Qc mc ms free) (vx_Post XC mc ms free) := vx_callBack cw.1 hM hp.1
  obtain ⟨⟨-, -, -, -, -, -, hcode, -, hy, hlen, hl⟩, hin, hse⟩ := cw
  obtain ⟨hx, hb, hml, ho, -⟩ := S
  obtain ⟨-, ⟨cellB, hcB, hoB, hclB⟩, hPc⟩ := hp
  intro T hT X
  rcases vx_callV X hx (C := C) (bytes := bytes) (maxL := maxL) (ret := ret) ho hl hin hse hcode hy hK (by rw [hT]; exact hcB) hoB hclB hg (hsize.trans hml.symm) (argsL := As) (rest := rest) (fun sig h => hn.trans (hlen sig h)) hstack hW (by rw [hb]; exact hdg)
    (fun vm₁ hW₁ => ⟨hf.1, hf.2, hPc (T.setVm vm₁) hT hW₁⟩) with ⟨v, vm₁, ⟨U', l2, c2, s2⟩, hW₁, X', ⟨g', mk, t, L, e1, e2, hq, h1, hL, h2, h3⟩, st⟩ | ⟨q, vm₁, ⟨U', l2, c2, s2⟩, hW₁, X', ⟨g', mk, t, L, E, ce, e1, e2, hq, hce, hcv, hcl, h1, hL, h2, h3⟩, st⟩
  · dsimp only [Pt.U, Pt.locs, Pt.cells, Pt.slots] at X' e1 e2 h1 h2 h3 st
    subst h1; subst h2; subst h3
    exact Or.inl ⟨v, (T.setVm vm₁).calling g' mk (Value.ref b :: As).toArray, t, U', L, hT, X', hL, e1, e2, hq, st⟩
  · dsimp only [Pt.U, Pt.locs, Pt.cells, Pt.slots] at X' e1 e2 h1 h2 h3 st hcl
    subst h1; subst h2; subst h3
    exact Or.inr ⟨q, (T.setVm vm₁).calling g' mk (Value.ref b :: As).toArray, t, U', L, E, ce, hT, X', hL, e1, e2, hq, hce, hcv, vx_cls hW₁ hcl, st⟩
theorem vx_runS (S : CallFix p m c cc nL s args Ts own) (hM : vx_Met l y ws rm Pc Qc XC mc ms free) (cw : CallB R s args own index y bytes maxL ret ws rm mc ms n ∧ (Cond.static y).before args s = true) (hp : PreS s H Pc As)
    (hg : g.method = m) (hn : As.length = n) (hsize : g.locals.size = nL) (hstack : g.stack = As.reverse ++ rest) (hW : 2 * g.monitorRoom + (rest.map fun v => v.category).sum ≤ 8) (hdg : decode cc g.pc = .ok (.invokestatic index, 3)) (hf : cells + mc ≤ R.cells ∧ slots + ms ≤ R.slots) :
    vx_Run p l e R s m args below meth c H locs cells slots mc ms g rest (Qc As.toArray) XC free := by
  have hK : vx_Back l R p e below s args y 3 8 (PreOf R mc ms Pc) (PostOf Qc mc ms free) (vx_Post XC mc ms free) := vx_callBack cw.1 hM hp.1
  obtain ⟨⟨-, -, -, -, -, -, hcode, hini, hy, hlen, hl⟩, hstt⟩ := cw
  obtain ⟨hx, hb, hml, ho, -⟩ := S
  intro T hT X
  rcases vx_callS X hx (bytes := bytes) (maxL := maxL) (ret := ret) ho hl hstt hini hcode hy hK hg (hsize.trans hml.symm) (argsL := As) (rest := rest) (fun sig h => hn.trans (hlen sig h)) hstack hW (by rw [hb]; exact hdg)
    (fun vm₁ hW₁ => ⟨hf.1, hf.2, hp.2 (T.setVm vm₁) hT hW₁⟩) with ⟨v, vm₁, ⟨U', l2, c2, s2⟩, hW₁, X', ⟨g', mk, t, L, e1, e2, hq, h1, hL, h2, h3⟩, st⟩ | ⟨q, vm₁, ⟨U', l2, c2, s2⟩, hW₁, X', ⟨g', mk, t, L, E, ce, e1, e2, hq, hce, hcv, hcl, h1, hL, h2, h3⟩, st⟩
  · dsimp only [Pt.U, Pt.locs, Pt.cells, Pt.slots] at X' e1 e2 h1 h2 h3 st
    subst h1; subst h2; subst h3
    exact Or.inl ⟨v, (T.setVm vm₁).calling g' mk As.toArray, t, U', L, hT, X', hL, e1, e2, hq, st⟩
  · dsimp only [Pt.U, Pt.locs, Pt.cells, Pt.slots] at X' e1 e2 h1 h2 h3 st hcl
    subst h1; subst h2; subst h3
    exact Or.inr ⟨q, (T.setVm vm₁).calling g' mk As.toArray, t, U', L, E, ce, hT, X', hL, e1, e2, hq, hce, hcv, vx_cls hW₁ hcl, st⟩
end Runs
section Rows
variable {p : Program} {l : Launch} {e : Env} {R : Room} {s : State} {m : MethodId} {args : Array Value} {below : List Frame} {meth : Method} {c : Code} {H : Heap} {locs : List Loc} {cells slots : Nat} {Q : State → Prop}
variable {mc ms : Nat} {free : Addr → Prop} {A0 A1 : Nat → Prop} {H0 : Heap} {a : Array Value} {pc : Nat} {ls : Array Slot} {st0 rest : List Value}
theorem vx_keep {st₀ t T' : State} {L : List Loc} (h0 : st₀.heap = H) (e1 : T'.heap = t.heap) (hS : va_S A0 H0 H locs) (hA : ∀ q, q < H.size → A1 q → A0 q) (hf : ∀ q, free q → A0 q) (hL : ∀ q ∈ L, free q.base) (hF : va_F A1 st₀ t) :
    H.size ≤ T'.heap.size ∧ (∀ q : Nat, q < H.size → ¬ A1 q → T'.heap[q]? = H[q]?) ∧ va_S A0 H0 T'.heap (locs ++ L) := by
  obtain ⟨hz, hk⟩ := hF
  rw [h0] at hz hk
  exact ⟨by rw [e1]; exact hz, fun q h1 h2 => by rw [e1]; exact hk q h1 h2,
    ⟨Nat.le_trans hS.1 (by rw [e1]; exact hz), fun q h1 h2 => by rw [e1, hk q (Nat.lt_of_lt_of_le h1 hS.1) (fun z => h2 (hA q (Nat.lt_of_lt_of_le h1 hS.1) z))]; exact hS.2.1 q h1 h2, fun q hq => by
      rcases List.mem_append.mp hq with h | h
      · exact hS.2.2 q h
      · exact hf _ (hL q h)⟩⟩
theorem vx_calli {S SX : Type} {post : Int32 → S → Prop} {px : SX → Prop} {B : S → State → Prop} {BX : String → SX → State → Prop} {AX : Nat → Prop} (hr : vx_Run p l e R s m args below meth c H locs cells slots mc ms (F0 m pc ls st0) rest (va_Qi post B A1 a) (vx_X px BX AX) free) (hS : va_S A0 H0 H locs) (hA : ∀ q, q < H.size → A1 q → A0 q) (hf : ∀ q, free q → A0 q) (hAX : ∀ q, q < H.size → AX q → A0 q)
    (kx : ∀ (E : String) (ce : Cell) (q9 : Addr) (u : SX) (t : State) (H1 : Heap) (locs1 : List Loc), t.heap = H1 → s.vm.Alike t.vm → px u → BX E u t → H.size ≤ H1.size → (∀ q : Nat, q < H.size → ¬ AX q → H1[q]? = H[q]?) → va_S A0 H0 H1 locs1 → H1[q9]? = some ce → ce.vm = .none → s.vm.findClass E = some ce.cls → vx_W p l e R s m args below meth c H1 locs1 (cells + mc) (slots + ms) Q (F0 m pc ls rest) q9)
    (kk : ∀ (r : Int32) (u : S) (t : State) (H1 : Heap) (locs1 : List Loc), t.heap = H1 → s.vm.Alike t.vm → post r u → B u t → H.size ≤ H1.size → (∀ q : Nat, q < H.size → ¬ A1 q → H1[q]? = H[q]?) → va_S A0 H0 H1 locs1 → W p l e R s m args below meth c H1 locs1 (cells + mc) (slots + ms) Q (F0 m (pc + 3) ls (.int r :: rest))) : W p l e R s m args below meth c H locs cells slots Q (F0 m pc ls st0) := by
  intro T hT X
  rcases hr T hT X with ⟨v, st₀, t, T', L, h0, X', hL, e1, e2, ⟨⟨r, u, hv, hp, hb⟩, hF⟩, st⟩ | ⟨q, st₀, t, T', L, E, ce, h0, X', hL, e1, e2, ⟨u, hp, hb, hF⟩, hce, hcv, hcl, st⟩
  · cases hv
    obtain ⟨k1, k2, k3⟩ := vx_keep h0 e1 hS hA hf hL hF
    obtain ⟨t2, a1, b1⟩ := kk r u t T'.heap (locs ++ L) e1.symm (by rw [← e2]; exact X'.warmed.alike) hp hb k1 k2 k3 T' rfl X'
    exact ⟨t2, st t2 a1, b1⟩
  · obtain ⟨k1, k2, k3⟩ := vx_keep h0 e1 hS hAX hf hL hF
    obtain ⟨t2, a1, b1⟩ := kx E ce q u t T'.heap (locs ++ L) e1.symm (by rw [← e2]; exact X'.warmed.alike) hp hb k1 k2 k3 (by rw [e1]; exact hce) hcv hcl T' rfl X'
    exact ⟨t2, st.trans a1, b1⟩
theorem vx_calll {S SX : Type} {post : Int64 → S → Prop} {px : SX → Prop} {B : S → State → Prop} {BX : String → SX → State → Prop} {AX : Nat → Prop} (hr : vx_Run p l e R s m args below meth c H locs cells slots mc ms (F0 m pc ls st0) rest (va_Ql post B A1 a) (vx_X px BX AX) free) (hS : va_S A0 H0 H locs) (hA : ∀ q, q < H.size → A1 q → A0 q) (hf : ∀ q, free q → A0 q) (hAX : ∀ q, q < H.size → AX q → A0 q)
    (kx : ∀ (E : String) (ce : Cell) (q9 : Addr) (u : SX) (t : State) (H1 : Heap) (locs1 : List Loc), t.heap = H1 → s.vm.Alike t.vm → px u → BX E u t → H.size ≤ H1.size → (∀ q : Nat, q < H.size → ¬ AX q → H1[q]? = H[q]?) → va_S A0 H0 H1 locs1 → H1[q9]? = some ce → ce.vm = .none → s.vm.findClass E = some ce.cls → vx_W p l e R s m args below meth c H1 locs1 (cells + mc) (slots + ms) Q (F0 m pc ls rest) q9)
    (kk : ∀ (r : Int64) (u : S) (t : State) (H1 : Heap) (locs1 : List Loc), t.heap = H1 → s.vm.Alike t.vm → post r u → B u t → H.size ≤ H1.size → (∀ q : Nat, q < H.size → ¬ A1 q → H1[q]? = H[q]?) → va_S A0 H0 H1 locs1 → W p l e R s m args below meth c H1 locs1 (cells + mc) (slots + ms) Q (F0 m (pc + 3) ls (.long r :: rest))) : W p l e R s m args below meth c H locs cells slots Q (F0 m pc ls st0) := by
  intro T hT X
  rcases hr T hT X with ⟨v, st₀, t, T', L, h0, X', hL, e1, e2, ⟨⟨r, u, hv, hp, hb⟩, hF⟩, st⟩ | ⟨q, st₀, t, T', L, E, ce, h0, X', hL, e1, e2, ⟨u, hp, hb, hF⟩, hce, hcv, hcl, st⟩
  · cases hv
    obtain ⟨k1, k2, k3⟩ := vx_keep h0 e1 hS hA hf hL hF
    obtain ⟨t2, a1, b1⟩ := kk r u t T'.heap (locs ++ L) e1.symm (by rw [← e2]; exact X'.warmed.alike) hp hb k1 k2 k3 T' rfl X'
    exact ⟨t2, st t2 a1, b1⟩
  · obtain ⟨k1, k2, k3⟩ := vx_keep h0 e1 hS hAX hf hL hF
    obtain ⟨t2, a1, b1⟩ := kx E ce q u t T'.heap (locs ++ L) e1.symm (by rw [← e2]; exact X'.warmed.alike) hp hb k1 k2 k3 (by rw [e1]; exact hce) hcv hcl T' rfl X'
    exact ⟨t2, st.trans a1, b1⟩
theorem vx_callf {S SX : Type} {post : UInt32 → S → Prop} {px : SX → Prop} {B : S → State → Prop} {BX : String → SX → State → Prop} {AX : Nat → Prop} (hr : vx_Run p l e R s m args below meth c H locs cells slots mc ms (F0 m pc ls st0) rest (va_Qf post B A1 a) (vx_X px BX AX) free) (hS : va_S A0 H0 H locs) (hA : ∀ q, q < H.size → A1 q → A0 q) (hf : ∀ q, free q → A0 q) (hAX : ∀ q, q < H.size → AX q → A0 q)
    (kx : ∀ (E : String) (ce : Cell) (q9 : Addr) (u : SX) (t : State) (H1 : Heap) (locs1 : List Loc), t.heap = H1 → s.vm.Alike t.vm → px u → BX E u t → H.size ≤ H1.size → (∀ q : Nat, q < H.size → ¬ AX q → H1[q]? = H[q]?) → va_S A0 H0 H1 locs1 → H1[q9]? = some ce → ce.vm = .none → s.vm.findClass E = some ce.cls → vx_W p l e R s m args below meth c H1 locs1 (cells + mc) (slots + ms) Q (F0 m pc ls rest) q9)
    (kk : ∀ (r : UInt32) (u : S) (t : State) (H1 : Heap) (locs1 : List Loc), t.heap = H1 → s.vm.Alike t.vm → post r u → B u t → H.size ≤ H1.size → (∀ q : Nat, q < H.size → ¬ A1 q → H1[q]? = H[q]?) → va_S A0 H0 H1 locs1 → W p l e R s m args below meth c H1 locs1 (cells + mc) (slots + ms) Q (F0 m (pc + 3) ls (.float r :: rest))) : W p l e R s m args below meth c H locs cells slots Q (F0 m pc ls st0) := by
  intro T hT X
  rcases hr T hT X with ⟨v, st₀, t, T', L, h0, X', hL, e1, e2, ⟨⟨r, u, hv, hp, hb⟩, hF⟩, st⟩ | ⟨q, st₀, t, T', L, E, ce, h0, X', hL, e1, e2, ⟨u, hp, hb, hF⟩, hce, hcv, hcl, st⟩
  · cases hv
    obtain ⟨k1, k2, k3⟩ := vx_keep h0 e1 hS hA hf hL hF
    obtain ⟨t2, a1, b1⟩ := kk r u t T'.heap (locs ++ L) e1.symm (by rw [← e2]; exact X'.warmed.alike) hp hb k1 k2 k3 T' rfl X'
    exact ⟨t2, st t2 a1, b1⟩
  · obtain ⟨k1, k2, k3⟩ := vx_keep h0 e1 hS hAX hf hL hF
    obtain ⟨t2, a1, b1⟩ := kx E ce q u t T'.heap (locs ++ L) e1.symm (by rw [← e2]; exact X'.warmed.alike) hp hb k1 k2 k3 (by rw [e1]; exact hce) hcv hcl T' rfl X'
    exact ⟨t2, st.trans a1, b1⟩
theorem vx_calld {S SX : Type} {post : UInt64 → S → Prop} {px : SX → Prop} {B : S → State → Prop} {BX : String → SX → State → Prop} {AX : Nat → Prop} (hr : vx_Run p l e R s m args below meth c H locs cells slots mc ms (F0 m pc ls st0) rest (va_Qd post B A1 a) (vx_X px BX AX) free) (hS : va_S A0 H0 H locs) (hA : ∀ q, q < H.size → A1 q → A0 q) (hf : ∀ q, free q → A0 q) (hAX : ∀ q, q < H.size → AX q → A0 q)
    (kx : ∀ (E : String) (ce : Cell) (q9 : Addr) (u : SX) (t : State) (H1 : Heap) (locs1 : List Loc), t.heap = H1 → s.vm.Alike t.vm → px u → BX E u t → H.size ≤ H1.size → (∀ q : Nat, q < H.size → ¬ AX q → H1[q]? = H[q]?) → va_S A0 H0 H1 locs1 → H1[q9]? = some ce → ce.vm = .none → s.vm.findClass E = some ce.cls → vx_W p l e R s m args below meth c H1 locs1 (cells + mc) (slots + ms) Q (F0 m pc ls rest) q9)
    (kk : ∀ (r : UInt64) (u : S) (t : State) (H1 : Heap) (locs1 : List Loc), t.heap = H1 → s.vm.Alike t.vm → post r u → B u t → H.size ≤ H1.size → (∀ q : Nat, q < H.size → ¬ A1 q → H1[q]? = H[q]?) → va_S A0 H0 H1 locs1 → W p l e R s m args below meth c H1 locs1 (cells + mc) (slots + ms) Q (F0 m (pc + 3) ls (.double r :: rest))) : W p l e R s m args below meth c H locs cells slots Q (F0 m pc ls st0) := by
  intro T hT X
  rcases hr T hT X with ⟨v, st₀, t, T', L, h0, X', hL, e1, e2, ⟨⟨r, u, hv, hp, hb⟩, hF⟩, st⟩ | ⟨q, st₀, t, T', L, E, ce, h0, X', hL, e1, e2, ⟨u, hp, hb, hF⟩, hce, hcv, hcl, st⟩
  · cases hv
    obtain ⟨k1, k2, k3⟩ := vx_keep h0 e1 hS hA hf hL hF
    obtain ⟨t2, a1, b1⟩ := kk r u t T'.heap (locs ++ L) e1.symm (by rw [← e2]; exact X'.warmed.alike) hp hb k1 k2 k3 T' rfl X'
    exact ⟨t2, st t2 a1, b1⟩
  · obtain ⟨k1, k2, k3⟩ := vx_keep h0 e1 hS hAX hf hL hF
    obtain ⟨t2, a1, b1⟩ := kx E ce q u t T'.heap (locs ++ L) e1.symm (by rw [← e2]; exact X'.warmed.alike) hp hb k1 k2 k3 (by rw [e1]; exact hce) hcv hcl T' rfl X'
    exact ⟨t2, st.trans a1, b1⟩
theorem vx_callv {S SX : Type} {post : S → Prop} {px : SX → Prop} {B : S → State → Prop} {BX : String → SX → State → Prop} {AX : Nat → Prop} (hr : vx_Run p l e R s m args below meth c H locs cells slots mc ms (F0 m pc ls st0) rest (va_Qv post B A1 a) (vx_X px BX AX) free) (hS : va_S A0 H0 H locs) (hA : ∀ q, q < H.size → A1 q → A0 q) (hf : ∀ q, free q → A0 q) (hAX : ∀ q, q < H.size → AX q → A0 q)
    (kx : ∀ (E : String) (ce : Cell) (q9 : Addr) (u : SX) (t : State) (H1 : Heap) (locs1 : List Loc), t.heap = H1 → s.vm.Alike t.vm → px u → BX E u t → H.size ≤ H1.size → (∀ q : Nat, q < H.size → ¬ AX q → H1[q]? = H[q]?) → va_S A0 H0 H1 locs1 → H1[q9]? = some ce → ce.vm = .none → s.vm.findClass E = some ce.cls → vx_W p l e R s m args below meth c H1 locs1 (cells + mc) (slots + ms) Q (F0 m pc ls rest) q9)
    (kk : ∀ (u : S) (t : State) (H1 : Heap) (locs1 : List Loc), t.heap = H1 → s.vm.Alike t.vm → post u → B u t → H.size ≤ H1.size → (∀ q : Nat, q < H.size → ¬ A1 q → H1[q]? = H[q]?) → va_S A0 H0 H1 locs1 → W p l e R s m args below meth c H1 locs1 (cells + mc) (slots + ms) Q (F0 m (pc + 3) ls (rest))) : W p l e R s m args below meth c H locs cells slots Q (F0 m pc ls st0) := by
  intro T hT X
  rcases hr T hT X with ⟨v, st₀, t, T', L, h0, X', hL, e1, e2, ⟨⟨u, hv, hp, hb⟩, hF⟩, st⟩ | ⟨q, st₀, t, T', L, E, ce, h0, X', hL, e1, e2, ⟨u, hp, hb, hF⟩, hce, hcv, hcl, st⟩
  · cases hv
    obtain ⟨k1, k2, k3⟩ := vx_keep h0 e1 hS hA hf hL hF
    obtain ⟨t2, a1, b1⟩ := kk u t T'.heap (locs ++ L) e1.symm (by rw [← e2]; exact X'.warmed.alike) hp hb k1 k2 k3 T' rfl X'
    exact ⟨t2, st t2 a1, b1⟩
  · obtain ⟨k1, k2, k3⟩ := vx_keep h0 e1 hS hAX hf hL hF
    obtain ⟨t2, a1, b1⟩ := kx E ce q u t T'.heap (locs ++ L) e1.symm (by rw [← e2]; exact X'.warmed.alike) hp hb k1 k2 k3 (by rw [e1]; exact hce) hcv hcl T' rfl X'
    exact ⟨t2, st.trans a1, b1⟩
/-- caught by the row x of this method's table; the rows ahead don't take it -/
theorem vx_catch {own name : String} {E : String} {ce : Cell} {q : Addr} (hown : s.vm.findClass own = some m.cls) (pre : List ExceptionTableEntry) (x : ExceptionTableEntry) (suf : List ExceptionTableEntry) (hsplit : c.exceptionTable.toList = pre ++ x :: suf)
    (hpass : ∀ z ∈ pre, covers z pc = false ∨ (z.catchType ≠ 0 ∧ ∃ nm : String, (Cond.classLink own z.catchType nm).before args s = true ∧ va_Nc E nm s)) (hx : covers x pc = true) (h0 : x.catchType ≠ 0)
    (hlink : (Cond.classLink own x.catchType name).before args s = true) (hcast : (Cond.castable E name).before args s = true) (hcell : H[q]? = some ce) (hv : ce.vm = .none) (hcl : s.vm.findClass E = some ce.cls)
    (kk : W p l e R s m args below meth c H locs cells slots Q (F0 m x.handlerPc ls [.ref q])) : vx_W p l e R s m args below meth c H locs cells slots Q (F0 m pc ls rest) q := by
  intro T hT X
  have hpl : e.platform.magicAccessors = ({} : Platform).magicAccessors := by rw [X.admits.platform]
  obtain ⟨c3, c4, hc3, hc4, hasg⟩ := Cond.castable_spec hcast
  cases Option.some.inj (hc3.symm.trans hcl)
  obtain ⟨c5, hc5, hcl5⟩ := Cond.classLink_spec hown hlink e.platform hpl
  cases Option.some.inj (hc4.symm.trans hc5)
  obtain ⟨vm', X', st⟩ := X.thenCaughtThrough q (g := F0 m pc ls rest) rfl (Steps.refl _) (by rw [hT]; exact hcell) (by rw [hv]; rfl) (by obtain ⟨k9, h9, -⟩ := Vm.findClass_spec hcl; exact ⟨k9, h9⟩) pre x suf hsplit
    (fun z hz => by
      rcases hpass z hz with h | ⟨hz0, nm, hl1, hn1⟩
      · exact Or.inl h
      · obtain ⟨c6, hc6, hcl6⟩ := Cond.classLink_spec hown hl1 e.platform hpl
        obtain ⟨a8, b8, h1, h2, h3⟩ := hn1
        cases Option.some.inj (h1.symm.trans hcl)
        cases Option.some.inj (h2.symm.trans hc6)
        exact Or.inr ⟨hz0, _, hcl6, h3⟩) hx (Or.inr ⟨h0, c4, hcl5, hasg⟩)
  obtain ⟨t, a1, b1⟩ := kk (T.setVm vm') hT X'
  exact ⟨t, st.trans a1, b1⟩
end Rows
section Ends
variable {p : Program} {l : Launch} {e : Env} {R : Room} {s : State} {m : MethodId} {args : Array Value} {below : List Frame} {meth : Method} {c : Code} {H : Heap} {locs : List Loc} {cells slots : Nat} {Q : State → Prop}
variable {mc ms : Nat} {free : Addr → Prop} {A0 A1 : Nat → Prop} {H0 : Heap} {a : Array Value} {ls : Array Slot} {st0 rest : List Value}
variable {Qc : Array Value → State → Outcome → State → Prop} {XC : String → State → State → Prop}
/-- what a body that may throw owes at its end -/
def vx_MQ (below : List Frame) (Qc : Array Value → State → Outcome → State → Prop) (XC : String → State → State → Prop) (a : Array Value) (s : State) (mc ms : Nat) (free : Addr → Prop) : State → Prop := fun t =>
  ∃ o, t.status = .running ∧ Ended t below o ∧ vx_Q Qc XC mc ms free a s o t
theorem vx_ret {g : JFrame} {mc ms : Nat} (k : W p l e R s m args below meth c H locs cells slots (MQ below Qc args s mc ms free) g) : W p l e R s m args below meth c H locs cells slots (vx_MQ below Qc XC args s mc ms free) g := by
  intro T hT X
  obtain ⟨t, a1, o, b1, b2, b3, b4⟩ := k T hT X
  exact ⟨t, a1, o, b1, b2, Or.inl ⟨b3, b4⟩⟩
/-- not caught here: it goes on to the caller -/
theorem vx_widen {g : JFrame} {q : Addr} {k n : Nat} (h1 : cells ≤ k) (h2 : slots ≤ n) (kk : vx_W p l e R s m args below meth c H locs k n Q g q) : vx_W p l e R s m args below meth c H locs cells slots Q g q := fun T hT X => kk T hT (stand_widen X h1 h2)
theorem vx_out {pc : Nat} {E : String} {ce : Cell} {q : Addr} {mc ms : Nat} (hout : ∀ x ∈ c.exceptionTable.toList, covers x pc = false) (hlocks : meth.locks = false) (hcell : H[q]? = some ce) (hv : ce.vm = .none) (hcl : s.vm.findClass E = some ce.cls)
    (hx : ∀ t : State, t.heap = H → s.vm.Alike t.vm → XC E s t) (hf : ∀ z ∈ locs, free z.base) (hc : cells ≤ mc) (hs : slots ≤ ms) :
    vx_W p l e R s m args below meth c H locs cells slots (vx_MQ below Qc XC args s mc ms free) (F0 m pc ls rest) q := by
  intro T hT X
  obtain ⟨st1, hrun, hend, hW, hsm⟩ := X.leaveThrown q (g := F0 m pc ls rest) rfl rfl rfl hout hlocks
  have hcell9 : (T.setFrames (.throwing q :: below)).heap[q]? = some ce := by
    show T.heap[q]? = some ce
    rw [hT]; exact hcell
  exact ⟨_, st1, .threw q, hrun, hend, Or.inr ⟨q, rfl, E, ce, locs, hx _ hT hW.alike, hcell9, hv, hcl, hW, hsm.mono hc hs, hf⟩⟩
theorem vx_frame {U : State} {k n : Nat} (h : s.sameButNew ({ U with vm := s.vm } : State) locs k n) : s.heap.size ≤ U.heap.size ∧ ∀ q : Nat, q < s.heap.size → (∀ z ∈ locs, z.base ≠ q) → U.heap[q]? = s.heap[q]? := by
  obtain ⟨-, h2, -, -, -, h6⟩ := h
  refine ⟨h2, fun q hq hz => ?_⟩
  obtain ⟨c9, e1, e2, e3, e4⟩ := h6 q _ (Array.getElem?_eq_getElem hq)
  have hs : c9.slots = (s.heap[q]).slots := Array.ext_getElem? fun i => e4 i fun hm => hz _ hm rfl
  have h9 : c9 = s.heap[q] := by
    rw [hs] at e2
    exact e2
  have e5 : U.heap[q]? = some c9 := e1
  rw [e5, h9, Array.getElem?_eq_getElem hq]
/-- the words of a throw but the four that speak of the heap -/
def vx_no (w : Cond) : Bool := decide (w ≠ .isRef (.static Bundle.tN "UNASSIGNED_STACK" Bundle.steD)) && decide (w ≠ .isRef (.static Bundle.tN "SUPPRESSED_SENTINEL" Bundle.listD)) && decide (w ≠ .laysStatic Bundle.tN "UNASSIGNED_STACK" Bundle.steD) && decide (w ≠ .laysStatic Bundle.tN "SUPPRESSED_SENTINEL" Bundle.listD)
def vx_at0 (own : String) (ic : Nat) (X : String) (names : List String) : List Cond := (Bundle.ownAtoms0 own ic X names).filter vx_no
def vx_atS (own : String) (ic : Nat) (X : String) (names : List String) : List Cond := (Bundle.ownAtoms own ic X names).filter vx_no
/-- a word that the tables alone decide, or a good one -/
def vx_ot (w : Cond) : Bool := w.onTables || goodWord w
theorem vx_ot_at {args a' : Array Value} {s U : State} {w : Cond} (hW : s.WarmedH U.vm) (hvm : s.vm = U.vm) (hg : vx_ot w = true) (h : w.before args s = true) : w.before a' U = true := by
  simp only [vx_ot, Bool.or_eq_true] at hg
  rcases hg with hg | hg
  · exact va_tabs hg hvm h
  · exact word_at hW (good_of_word hg) h
/-- a list's words: the good ones out of the method's own list, the others by premises of their own -/
theorem vx_hat {args : Array Value} {s : State} {L B : List Cond} (h1 : ∀ w ∈ L.filter goodWord, w.before args s = true) (h2 : ∀ w ∈ L.filter (fun w => !goodWord w), w ∈ B) (h3 : ∀ w ∈ B, w.before args s = true) : ∀ w ∈ L, w.before args s = true := by
  intro w hw
  by_cases g : goodWord w = true
  · exact h1 w (List.mem_filter.mpr ⟨hw, g⟩)
  · refine h3 w (h2 w (List.mem_filter.mpr ⟨hw, ?_⟩))
    show (!goodWord w) = true
    cases hgw : goodWord w
    · rfl
    · exact absurd hgw g
theorem vx_c {args : Array Value} {s : State} {w : Cond} {B : List Cond} (h : w.before args s = true) (t : ∀ w ∈ B, w.before args s = true) : ∀ w' ∈ w :: B, w'.before args s = true := fun w' h' => (List.mem_cons.mp h').elim (fun e => by rw [e]; exact h) (t w')
theorem vx_n {args : Array Value} {s : State} : ∀ w ∈ ([] : List Cond), w.before args s = true := fun _ h => nomatch h
theorem vx_own {args : Array Value} {s : State} {L : List Cond} (h1 : ∀ w ∈ L.filter vx_no, w.before args s = true)
    (hU : (Cond.isRef (.static Bundle.tN "UNASSIGNED_STACK" Bundle.steD)).before args s = true) (hN : (Cond.isRef (.static Bundle.tN "SUPPRESSED_SENTINEL" Bundle.listD)).before args s = true)
    (lU : (Cond.laysStatic Bundle.tN "UNASSIGNED_STACK" Bundle.steD).before args s = true) (lN : (Cond.laysStatic Bundle.tN "SUPPRESSED_SENTINEL" Bundle.listD).before args s = true) : ∀ w ∈ L, w.before args s = true := by
  intro w hw
  by_cases e1 : w = .isRef (.static Bundle.tN "UNASSIGNED_STACK" Bundle.steD)
  · rw [e1]; exact hU
  · by_cases e2 : w = .isRef (.static Bundle.tN "SUPPRESSED_SENTINEL" Bundle.listD)
    · rw [e2]; exact hN
    · by_cases e3 : w = .laysStatic Bundle.tN "UNASSIGNED_STACK" Bundle.steD
      · rw [e3]; exact lU
      · by_cases e4 : w = .laysStatic Bundle.tN "SUPPRESSED_SENTINEL" Bundle.listD
        · rw [e4]; exact lN
        · exact h1 w (List.mem_filter.mpr ⟨hw, by unfold vx_no; rw [decide_eq_true e1, decide_eq_true e2, decide_eq_true e3, decide_eq_true e4]; rfl⟩)
/-- where a static field lies, its class's statics cell in H -/
def vx_L (C n d : String) (A : Nat → Prop) (U : State) (H : Heap) : Prop := ∃ (c : ClassId) (k : Class) (i : Nat) (f : Field) (a : Nat) (cell : Cell), U.vm.findClass C = some c ∧ U.fieldFound? C n d = some (c, k, i, f) ∧ f.isStatic = true ∧ k.statics = some a ∧ H[a]? = some cell ∧ cell.vm.isStatics = true ∧ cell.cls = c ∧ f.slot < cell.slots.size ∧ k.staticTypes[f.slot]? = some f.type ∧ ¬ A a
theorem vx_L.moved {C n d : String} {A : Nat → Prop} {u U : State} {H : Heap} (hvm : u.vm.Alike U.vm) (h : vx_L C n d A u H) : vx_L C n d A U H := by
  obtain ⟨c, k, i, f, a, cell, h1, h2, h3, h4, h5, h6, h7, h8, h9, h10⟩ := h
  obtain ⟨k', hi', he⟩ := State.fieldFound?_setVm hvm h2
  exact ⟨c, k', i, f, a, cell, by rw [hvm.findClass]; exact h1, hi', h3, by rw [he]; exact h4, h5, h6, h7, h8, by rw [he]; exact h9, h10⟩
theorem vx_L.kept {C n d : String} {A : Nat → Prop} {U : State} {H H1 : Heap} (h : vx_L C n d A U H) (hq : ∀ a : Nat, a < H.size → ¬ A a → H1[a]? = H[a]?) : vx_L C n d A U H1 := by
  obtain ⟨c, k, i, f, a, cell, h1, h2, h3, h4, h5, h6, h7, h8, h9, h10⟩ := h
  exact ⟨c, k, i, f, a, cell, h1, h2, h3, h4, by rw [hq a (Array.getElem?_eq_some_iff.mp h5).1 h10]; exact h5, h6, h7, h8, h9, h10⟩
theorem vx_L.narrow {C n d : String} {A B : Nat → Prop} {U : State} {H : Heap} (h : vx_L C n d A U H) (hAB : ∀ q, B q → A q) : vx_L C n d B U H := by
  obtain ⟨c, k, i, f, a, cell, h1, h2, h3, h4, h5, h6, h7, h8, h9, h10⟩ := h
  exact ⟨c, k, i, f, a, cell, h1, h2, h3, h4, h5, h6, h7, h8, h9, fun z => h10 (hAB _ z)⟩
theorem vx_L.word {C n d : String} {A : Nat → Prop} {s : State} {args : Array Value} (h : vx_L C n d A s s.heap) : (Cond.laysStatic C n d).before args s = true := by
  obtain ⟨c, k, i, f, a, cell, h1, h2, h3, h4, h5, h6, h7, h8, h9, -⟩ := h
  show (Cond.laysStatic C n d).holds args s none s [] = true
  exact Cond.laysStatic_of h1 h2 h3 h4 h5 h6 h7 h8 h9
/-- .. and what it holds: null or some reference -/
def vx_Zq (C n d : String) (A : Nat → Prop) (U : State) (H : Heap) : Prop := va_Zq C n d A U H ∧ vx_L C n d A U H
theorem vx_Zq.moved {C n d : String} {A : Nat → Prop} {u U : State} {H : Heap} (hvm : u.vm.Alike U.vm) (h : vx_Zq C n d A u H) : vx_Zq C n d A U H := ⟨va_Zq.moved hvm h.1, vx_L.moved hvm h.2⟩
theorem vx_Zq.kept {C n d : String} {A : Nat → Prop} {U : State} {H H1 : Heap} (h : vx_Zq C n d A U H) (hq : ∀ a : Nat, a < H.size → ¬ A a → H1[a]? = H[a]?) : vx_Zq C n d A U H1 := ⟨va_Zq.kept h.1 hq, vx_L.kept h.2 hq⟩
theorem vx_Zq.narrow {C n d : String} {A B : Nat → Prop} {U : State} {H : Heap} (h : vx_Zq C n d A U H) (hAB : ∀ q, B q → A q) : vx_Zq C n d B U H := ⟨va_Zq.narrow h.1 hAB, vx_L.narrow h.2 hAB⟩
theorem vx_Zqof {args : Array Value} {s : State} {C n d : String} {A : Nat → Prop} (hl : (Cond.laysStatic C n d).before args s = true) (hini : (Cond.initialized C).before args s = true) (h : (Cond.isRef (.static C n d)).before args s = true) (hA : ∀ a : Nat, a < s.heap.size → ¬ A a) : vx_Zq C n d A s s.heap := by
  refine ⟨va_Zqof hl hini h hA, ?_⟩
  obtain ⟨c, k, i, f, a, cell, h1, h2, h3, h4, h5, h6, h7, h8, h9⟩ := Cond.laysStatic_spec hl
  exact ⟨c, k, i, f, a, cell, h1, h2, h3, h4, h5, h6, h7, h8, h9, hA a (Array.getElem?_eq_some_iff.mp h5).1⟩
theorem vx_isRef {C n d : String} {v : Value} {A : Nat → Prop} {s : State} {args : Array Value} (h : va_Z C n d v A s s.heap) (hv : v.isRef = true) : (Cond.isRef (.static C n d)).before args s = true := by
  obtain ⟨cf, kf, fi, f, a, cell, h1, h2, h3, h4, h5, h6, h7, -⟩ := h
  have he : (Term.static C n d).eval args s none [] s = some v := by
    simp [Term.eval, State.fieldNamed?, h1, h2, h4, h5, h6, h7]
  simp only [Cond.before, Cond.holds, Cond.value, he]
  cases v <;> simp_all [Value.isRef]
theorem vx_isRefq {C n d : String} {A : Nat → Prop} {s : State} {args : Array Value} (h : va_Zq C n d A s s.heap) : (Cond.isRef (.static C n d)).before args s = true := by
  rcases h with h | ⟨t, h⟩
  · exact vx_isRef h rfl
  · exact vx_isRef h rfl
/-- the same frame, seen from here: as if the method were called anew in this heap -/
theorem vx_rebase {T : State} (X : Stand p l e R s m args below meth c T locs cells slots) {R' : Room} (hf : R'.frames ≤ R.frames) (hl : R'.locals ≤ R.locals) (hc : cells + R'.cells ≤ R.cells) (hs : slots + R'.slots ≤ R.slots) :
    Stand p l e R' ((T.setVm s.vm).setFrames (.invoking m args :: below)) m args below meth c T [] 0 0 := by
  have htop : (T.setVm s.vm).topJava?.isSome := X.here.top
  have hF : ((T.setVm s.vm).setFrames (.invoking m args :: below)).frames = .invoking m args :: below := State.frames_setFrames _ (State.cur_lt_of_top htop)
  obtain ⟨g₀, hg0⟩ := Option.isSome_iff_exists.mp htop
  obtain ⟨r, hr⟩ := State.topJava?_eq_some.mp hg0
  have hl9 : e.platform.stackLimits (T.setVm s.vm).me = e.platform.stackLimits s.me := X.limits
  have hb9 : (T.setVm s.vm).me.stackBytes = s.me.stackBytes := X.bytes
  refine ⟨X.admits, X.cas, X.clock, hF, ?_, X.hears, X.method, X.code, X.here, X.tail, X.warmed, ?_, ?_, ?_⟩
  · have h := X.room
    have hU : ((T.setVm s.vm).setFrames (.invoking m args :: below)).localsInUse = s.localsInUse := by
      rw [State.localsInUse_invoking hF (meth := meth) (c := c) X.method X.code, State.localsInUse_invoking X.frames X.method X.code]
    simp only [State.hasRoom, Bool.and_eq_true, decide_eq_true_eq] at h ⊢
    obtain ⟨⟨⟨⟨h1, h2, h3, h4, h5, h6⟩, h7⟩, h8⟩, h9⟩ := h
    rw [X.frames, List.length_cons] at h2 h3
    have q1 := X.heapSize
    have q2 := X.used
    simp only [hF, hU, List.length_cons, State.stackLimits_setFrames, State.stackBytes_setFrames, hl9, hb9]
    refine ⟨⟨⟨⟨by omega, by omega, by omega, by omega, by omega, h6⟩, ?_⟩, ?_⟩, X.book⟩
    · show T.heap.size + R'.cells ≤ e.platform.maxCells
      omega
    · show T.slotsUsed + R'.slots ≤ e.platform.maxSlots
      omega
  · rw [State.stackLimits_setFrames]; rfl
  · rw [State.stackBytes_setFrames]; rfl
  · refine ⟨?_, Nat.le_refl _, Nat.le_refl _, ?_, ?_, fun a c9 h9 => ⟨c9, h9, rfl, rfl, fun _ _ => rfl⟩⟩
    · obtain ⟨t, ht, -⟩ := State.frames_cons hr
      show T.setVm s.vm = { ((T.setVm s.vm).setFrames (.invoking m args :: below)).setFrames (T.setVm s.vm).frames with heap := T.heap, slotsUsed := T.slotsUsed }
      rw [State.setFrames_setFrames, State.setFrames_self ht]
      rfl
    · show T.slotsUsed = T.slotsUsed + ((T.heap.toList.drop T.heap.size).map (·.slots.size)).sum
      rw [List.drop_eq_nil_of_le (Nat.le_of_eq Array.length_toList)]
      rfl
    · show ((T.heap.toList.drop T.heap.size).map (·.slots.size)).sum ≤ 0
      rw [List.drop_eq_nil_of_le (Nat.le_of_eq Array.length_toList)]
      exact Nat.le_refl _
/-- 'throw new E()': new; dup; invokespecial; athrow -/
theorem vx_throw0 {cc : ByteArray} {pc : Nat} (hexec : p.tables.exec = Jvm.exec) (hb : c.code = cc) (hl : l.stackTraces = false) {own cls : String} {names : List String} {ik ic mc ms : Nat} {A : Nat → Prop}
    (hown : s.vm.findClass own = some m.cls) (hcls : Bundle.fit cls = true) (hnames : ∀ n ∈ names, Bundle.fit n = true)
    (hk : (Cond.classLink own ik cls).before args s = true) (hini : (Cond.initialized cls).before args s = true) (hat : ∀ w ∈ vx_at0 own ic cls names, w.before args s = true)
    (hgood : ∀ w ∈ Cond.classLink own ik cls :: Cond.initialized cls :: vx_at0 own ic cls names, vx_ot w = true)
    (hU : vx_Zq Bundle.tN "UNASSIGNED_STACK" Bundle.steD A s s.heap) (hN : vx_Zq Bundle.tN "SUPPRESSED_SENTINEL" Bundle.listD A s s.heap) (hS : va_S A s.heap H locs) (hsize : ls.size = c.maxLocals)
    (d0 : decode cc pc = .ok (.new ik, 3)) (d3 : decode cc (pc + 3) = .ok (.dup, 1)) (d4 : decode cc (pc + 4) = .ok (.invokespecial ic, 3)) (d7 : decode cc (pc + 7) = .ok (.athrow, 1))
    (hout : ∀ x ∈ c.exceptionTable.toList, covers x (pc + 7) = false)
    (hRframes : names.length + 3 < R.frames) (hRlocals : (rest.map fun v => v.category).sum + (13 * (names.length + 1) + 42) ≤ R.locals) (hRcells : cells + 1 ≤ R.cells) (hRslots : slots + 6 ≤ R.slots) (hlocks : meth.locks = false)
    (hx : ∀ t : State, s.vm.Alike t.vm → H.size ≤ t.heap.size → (∀ q : Nat, q < H.size → t.heap[q]? = H[q]?) → XC cls s t)
    (hf : ∀ z ∈ locs, free z.base) (hc : cells + 1 ≤ mc) (hs : slots + 6 ≤ ms) :
    W p l e R s m args below meth c H locs cells slots (vx_MQ below Qc XC args s mc ms free) (F0 m pc ls rest) := by
  intro T hT X
  have htr : e.platform.stackTraces = false := (show e.platform.stackTraces = l.stackTraces by rw [X.admits.platform]).trans hl
  have Y := vx_rebase X (R' := { frames := R.frames, locals := R.locals, cells := 1, slots := 6 }) (Nat.le_refl _) (Nat.le_refl _) hRcells hRslots
  obtain ⟨s', hA⟩ : ∃ z, z = (T.setVm s.vm).setFrames (.invoking m args :: below) := ⟨_, rfl⟩
  rw [← hA] at Y
  have hvm : s'.vm = s.vm := by rw [hA]; rfl
  have hhp : s'.heap = H := by rw [hA]; exact hT
  have hW0 : s.WarmedH s'.vm := by rw [hvm]; exact State.WarmedH.refl s
  have hat' : ∀ w ∈ vx_at0 own ic cls names, w.before args s' = true := fun w hw => vx_ot_at hW0 hvm.symm (hgood w (List.mem_cons_of_mem _ (List.mem_cons_of_mem _ hw))) (hat w hw)
  have hk' : (Cond.classLink own ik cls).before args s' = true := vx_ot_at hW0 hvm.symm (hgood _ List.mem_cons_self) hk
  have hini' : (Cond.initialized cls).before args s' = true := vx_ot_at hW0 hvm.symm (hgood _ (List.mem_cons_of_mem _ List.mem_cons_self)) hini
  have hU' : vx_Zq Bundle.tN "UNASSIGNED_STACK" Bundle.steD A s' s'.heap := by rw [hhp]; exact vx_Zq.moved hW0.alike (hU.kept hS.2.1)
  have hN' : vx_Zq Bundle.tN "SUPPRESSED_SENTINEL" Bundle.listD A s' s'.heap := by rw [hhp]; exact vx_Zq.moved hW0.alike (hN.kept hS.2.1)
  have h : ∀ w ∈ Bundle.ownAtoms0 own ic cls names, w.before args s' = true := vx_own hat' (vx_isRefq hU'.1) (vx_isRefq hN'.1) hU'.2.word hN'.2.word
  have hown' : s'.vm.findClass own = some m.cls := by rw [hvm]; exact hown
  have hins : (Cond.instantiable cls 6).before args s' = true := h _ (by simp [Bundle.ownAtoms0])
  obtain ⟨vm₁, cX, kX, hfX, hkX, -, -, X₁, st1⟩ := Y.newCold hexec (own := own) (C := cls) (index := ik) (n := 6) hown' hk' hins hini'
    (g := F0 m pc ls rest) rfl (by rw [hb]; exact d0) (Nat.le_refl _) (Nat.le_refl _)
  generalize hT1 : (T.setVm vm₁).pushCell { cls := cX, slots := kX.instanceTypes.map defaultValue, vm := .none } = T1 at X₁ st1
  have hcat : (Value.ref T.heap.size).category = 1 := rfl
  have hcellA : T1.heap[T.heap.size]? = some (freshCell cX kX) := by rw [← hT1]; exact State.heap_pushCell_size _ _
  have d3' : decode c.code (pc + 3) = .ok (.dup, 1) := by rw [hb]; exact d3
  obtain ⟨U, hsteps, hrun, hend, hW, hsame, ce, hce, hO⟩ := X₁.ctorThrow0 hexec htr (own := own) (cls := cls) (names := names) (ic := ic) hown' hcls hnames h (fun x hx => nomatch hx) hfX hkX hcellA (by rw [hhp, hT]; exact Nat.le_refl _)
    (g := { method := m, pc := pc + 4, locals := ls, stack := .ref T.heap.size :: .ref T.heap.size :: rest, locked := none }) rfl hsize rfl rfl (rest := rest) rfl
    (by rw [hb]; exact d4) (by rw [hb]; exact d7) hout hRframes (by simp only [List.map_cons, List.sum_cons, hcat]; omega) hlocks
  obtain ⟨f1, f2⟩ := vx_frame hsame
  rw [hhp] at f1 f2
  have hWs : s.WarmedH U.vm := State.WarmedH.trans hW0 hW
  have hcl : s.vm.findClass cls = some ce.cls := by
    have h9 := hO.cls
    rw [hvm] at h9
    exact h9
  have hall : s.sameButNew ({ U with vm := s.vm } : State) locs mc ms := by
    subst hA
    obtain ⟨e1, e2⟩ := hsame
    rw [State.setFrames_setFrames] at e1
    have h2 : (T.setVm s.vm).sameButNew ({ U with vm := s.vm } : State) [] (0 + 1) (0 + 6) := ⟨e1, e2⟩
    have h3 := X.same.trans h2
    rw [List.append_nil] at h3
    exact h3.mono hc hs
  refine ⟨U, ?_, .threw T.heap.size, hrun, hend, Or.inr ⟨T.heap.size, rfl, cls, ce, locs, hx U hWs.alike f1 (fun q hq => f2 q hq (fun z hz => nomatch hz)), hce, hO.vm, hcl, hWs, hall, hf⟩⟩
  refine st1 _ ?_
  show Steps p.tables e below (T1.setTop { method := m, pc := pc + 3, locals := ls, stack := .ref T.heap.size :: rest, locked := none }) _
  jvm_step X₁.here [X₁.here.top, hexec, d3', Value.category]
  exact hsteps
/-- 'throw new E("text")': new; dup; ldc; invokespecial; athrow -/
theorem vx_throwS {cc : ByteArray} {pc : Nat} (hexec : p.tables.exec = Jvm.exec) (hb : c.code = cc) (hl : l.stackTraces = false) {own cls text : String} {names : List String} {ik is ic mc ms sa : Nat} {A : Nat → Prop}
    (hown : s.vm.findClass own = some m.cls) (hcls : Bundle.fit cls = true) (hnames : ∀ n ∈ names, Bundle.fit n = true)
    (hk : (Cond.classLink own ik cls).before args s = true) (hini : (Cond.initialized cls).before args s = true) (hstr : vk_R own is text sa s) (hat : ∀ w ∈ vx_atS own ic cls names, w.before args s = true)
    (hgood : ∀ w ∈ Cond.classLink own ik cls :: Cond.initialized cls :: vx_atS own ic cls names, vx_ot w = true)
    (hU : vx_Zq Bundle.tN "UNASSIGNED_STACK" Bundle.steD A s s.heap) (hN : vx_Zq Bundle.tN "SUPPRESSED_SENTINEL" Bundle.listD A s s.heap) (hS : va_S A s.heap H locs) (hsize : ls.size = c.maxLocals)
    (d0 : decode cc pc = .ok (.new ik, 3)) (d3 : decode cc (pc + 3) = .ok (.dup, 1)) (d4 : decode cc (pc + 4) = .ok (.ldc is, 2)) (d6 : decode cc (pc + 6) = .ok (.invokespecial ic, 3)) (d9 : decode cc (pc + 9) = .ok (.athrow, 1))
    (hout : ∀ x ∈ c.exceptionTable.toList, covers x (pc + 9) = false)
    (hRframes : names.length + 3 < R.frames) (hRlocals : (rest.map fun v => v.category).sum + (13 * (names.length + 1) + 43) ≤ R.locals) (hRcells : cells + 1 ≤ R.cells) (hRslots : slots + 6 ≤ R.slots) (hlocks : meth.locks = false)
    (hx : ∀ t : State, s.vm.Alike t.vm → H.size ≤ t.heap.size → (∀ q : Nat, q < H.size → t.heap[q]? = H[q]?) → XC cls s t)
    (hf : ∀ z ∈ locs, free z.base) (hc : cells + 1 ≤ mc) (hs : slots + 6 ≤ ms) :
    W p l e R s m args below meth c H locs cells slots (vx_MQ below Qc XC args s mc ms free) (F0 m pc ls rest) := by
  intro T hT X
  have htr : e.platform.stackTraces = false := (show e.platform.stackTraces = l.stackTraces by rw [X.admits.platform]).trans hl
  have Y := vx_rebase X (R' := { frames := R.frames, locals := R.locals, cells := 1, slots := 6 }) (Nat.le_refl _) (Nat.le_refl _) hRcells hRslots
  obtain ⟨s', hA⟩ : ∃ z, z = (T.setVm s.vm).setFrames (.invoking m args :: below) := ⟨_, rfl⟩
  rw [← hA] at Y
  have hvm : s'.vm = s.vm := by rw [hA]; rfl
  have hhp : s'.heap = H := by rw [hA]; exact hT
  have hW0 : s.WarmedH s'.vm := by rw [hvm]; exact State.WarmedH.refl s
  have hat' : ∀ w ∈ vx_atS own ic cls names, w.before args s' = true := fun w hw => vx_ot_at hW0 hvm.symm (hgood w (List.mem_cons_of_mem _ (List.mem_cons_of_mem _ hw))) (hat w hw)
  have hk' : (Cond.classLink own ik cls).before args s' = true := vx_ot_at hW0 hvm.symm (hgood _ List.mem_cons_self) hk
  have hini' : (Cond.initialized cls).before args s' = true := vx_ot_at hW0 hvm.symm (hgood _ (List.mem_cons_of_mem _ List.mem_cons_self)) hini
  have hU' : vx_Zq Bundle.tN "UNASSIGNED_STACK" Bundle.steD A s' s'.heap := by rw [hhp]; exact vx_Zq.moved hW0.alike (hU.kept hS.2.1)
  have hN' : vx_Zq Bundle.tN "SUPPRESSED_SENTINEL" Bundle.listD A s' s'.heap := by rw [hhp]; exact vx_Zq.moved hW0.alike (hN.kept hS.2.1)
  have h : ∀ w ∈ Bundle.ownAtoms own ic cls names, w.before args s' = true := vx_own hat' (vx_isRefq hU'.1) (vx_isRefq hN'.1) hU'.2.word hN'.2.word
  have hown' : s'.vm.findClass own = some m.cls := by rw [hvm]; exact hown
  have hins : (Cond.instantiable cls 6).before args s' = true := h _ (by simp [Bundle.ownAtoms])
  obtain ⟨vm₁, cX, kX, hfX, hkX, -, -, X₁, st1⟩ := Y.newCold hexec (own := own) (C := cls) (index := ik) (n := 6) hown' hk' hins hini'
    (g := F0 m pc ls rest) rfl (by rw [hb]; exact d0) (Nat.le_refl _) (Nat.le_refl _)
  generalize hT1 : (T.setVm vm₁).pushCell { cls := cX, slots := kX.instanceTypes.map defaultValue, vm := .none } = T1 at X₁ st1
  have hcat : (Value.ref T.heap.size).category = 1 := rfl
  have hcellA : T1.heap[T.heap.size]? = some (freshCell cX kX) := by rw [← hT1]; exact State.heap_pushCell_size _ _
  have d3' : decode c.code (pc + 3) = .ok (.dup, 1) := by rw [hb]; exact d3
  have d4' : decode c.code (pc + 4) = .ok (.ldc is, 2) := by rw [hb]; exact d4
  have hstr' : vk_R own is text sa s' := vk_R.warm hW0 hstr
  obtain ⟨U, hsteps, hrun, hend, hW, hsame, ce, hce, hO⟩ := X₁.ctorThrowS hexec htr (own := own) (cls := cls) (names := names) (ic := ic) hown' hcls hnames h (fun x hx => nomatch hx) hfX hkX hcellA (by rw [hhp, hT]; exact Nat.le_refl _) (msg := .ref sa) rfl
    (g := { method := m, pc := pc + 6, locals := ls, stack := .ref sa :: .ref T.heap.size :: .ref T.heap.size :: rest, locked := none }) rfl hsize rfl rfl (rest := rest) rfl
    (by rw [hb]; exact d6) (by rw [hb]; exact d9) hout hRframes (by simp only [List.map_cons, List.sum_cons, hcat]; omega) hlocks
  obtain ⟨f1, f2⟩ := vx_frame hsame
  rw [hhp] at f1 f2
  have hWs : s.WarmedH U.vm := State.WarmedH.trans hW0 hW
  have hcl : s.vm.findClass cls = some ce.cls := by
    have h9 := hO.cls
    rw [hvm] at h9
    exact h9
  have hall : s.sameButNew ({ U with vm := s.vm } : State) locs mc ms := by
    subst hA
    obtain ⟨e1, e2⟩ := hsame
    rw [State.setFrames_setFrames] at e1
    have h2 : (T.setVm s.vm).sameButNew ({ U with vm := s.vm } : State) [] (0 + 1) (0 + 6) := ⟨e1, e2⟩
    have h3 := X.same.trans h2
    rw [List.append_nil] at h3
    exact h3.mono hc hs
  refine ⟨U, ?_, .threw T.heap.size, hrun, hend, Or.inr ⟨T.heap.size, rfl, cls, ce, locs, hx U hWs.alike f1 (fun q hq => f2 q hq (fun z hz => nomatch hz)), hce, hO.vm, hcl, hWs, hall, hf⟩⟩
  refine st1 _ ?_
  show Steps p.tables e below (T1.setTop { method := m, pc := pc + 3, locals := ls, stack := .ref T.heap.size :: rest, locked := none }) _
  jvm_step X₁.here [X₁.here.top, hexec, d3', Value.category]
  exact X₁.ldcString hexec (own := own) (text := text) (index := is) (a := sa) hown' hstr'.1 hstr'.2
    (g := { method := m, pc := pc + 4, locals := ls, stack := .ref T.heap.size :: .ref T.heap.size :: rest, locked := none }) rfl d4' _ hsteps
/-- 'throw new E("text")', the text by a wide index -/
theorem vx_throwSW {cc : ByteArray} {pc : Nat} (hexec : p.tables.exec = Jvm.exec) (hb : c.code = cc) (hl : l.stackTraces = false) {own cls text : String} {names : List String} {ik is ic mc ms sa : Nat} {A : Nat → Prop}
    (hown : s.vm.findClass own = some m.cls) (hcls : Bundle.fit cls = true) (hnames : ∀ n ∈ names, Bundle.fit n = true)
    (hk : (Cond.classLink own ik cls).before args s = true) (hini : (Cond.initialized cls).before args s = true) (hstr : vk_R own is text sa s) (hat : ∀ w ∈ vx_atS own ic cls names, w.before args s = true)
    (hgood : ∀ w ∈ Cond.classLink own ik cls :: Cond.initialized cls :: vx_atS own ic cls names, vx_ot w = true)
    (hU : vx_Zq Bundle.tN "UNASSIGNED_STACK" Bundle.steD A s s.heap) (hN : vx_Zq Bundle.tN "SUPPRESSED_SENTINEL" Bundle.listD A s s.heap) (hS : va_S A s.heap H locs) (hsize : ls.size = c.maxLocals)
    (d0 : decode cc pc = .ok (.new ik, 3)) (d3 : decode cc (pc + 3) = .ok (.dup, 1)) (d4 : decode cc (pc + 4) = .ok (.ldc_w is, 3)) (d7 : decode cc (pc + 7) = .ok (.invokespecial ic, 3)) (d10 : decode cc (pc + 10) = .ok (.athrow, 1))
    (hout : ∀ x ∈ c.exceptionTable.toList, covers x (pc + 10) = false)
    (hRframes : names.length + 3 < R.frames) (hRlocals : (rest.map fun v => v.category).sum + (13 * (names.length + 1) + 43) ≤ R.locals) (hRcells : cells + 1 ≤ R.cells) (hRslots : slots + 6 ≤ R.slots) (hlocks : meth.locks = false)
    (hx : ∀ t : State, s.vm.Alike t.vm → H.size ≤ t.heap.size → (∀ q : Nat, q < H.size → t.heap[q]? = H[q]?) → XC cls s t)
    (hf : ∀ z ∈ locs, free z.base) (hc : cells + 1 ≤ mc) (hs : slots + 6 ≤ ms) :
    W p l e R s m args below meth c H locs cells slots (vx_MQ below Qc XC args s mc ms free) (F0 m pc ls rest) := by
  intro T hT X
  have htr : e.platform.stackTraces = false := (show e.platform.stackTraces = l.stackTraces by rw [X.admits.platform]).trans hl
  have Y := vx_rebase X (R' := { frames := R.frames, locals := R.locals, cells := 1, slots := 6 }) (Nat.le_refl _) (Nat.le_refl _) hRcells hRslots
  obtain ⟨s', hA⟩ : ∃ z, z = (T.setVm s.vm).setFrames (.invoking m args :: below) := ⟨_, rfl⟩
  rw [← hA] at Y
  have hvm : s'.vm = s.vm := by rw [hA]; rfl
  have hhp : s'.heap = H := by rw [hA]; exact hT
  have hW0 : s.WarmedH s'.vm := by rw [hvm]; exact State.WarmedH.refl s
  have hat' : ∀ w ∈ vx_atS own ic cls names, w.before args s' = true := fun w hw => vx_ot_at hW0 hvm.symm (hgood w (List.mem_cons_of_mem _ (List.mem_cons_of_mem _ hw))) (hat w hw)
  have hk' : (Cond.classLink own ik cls).before args s' = true := vx_ot_at hW0 hvm.symm (hgood _ List.mem_cons_self) hk
  have hini' : (Cond.initialized cls).before args s' = true := vx_ot_at hW0 hvm.symm (hgood _ (List.mem_cons_of_mem _ List.mem_cons_self)) hini
  have hU' : vx_Zq Bundle.tN "UNASSIGNED_STACK" Bundle.steD A s' s'.heap := by rw [hhp]; exact vx_Zq.moved hW0.alike (hU.kept hS.2.1)
  have hN' : vx_Zq Bundle.tN "SUPPRESSED_SENTINEL" Bundle.listD A s' s'.heap := by rw [hhp]; exact vx_Zq.moved hW0.alike (hN.kept hS.2.1)
  have h : ∀ w ∈ Bundle.ownAtoms own ic cls names, w.before args s' = true := vx_own hat' (vx_isRefq hU'.1) (vx_isRefq hN'.1) hU'.2.word hN'.2.word
  have hown' : s'.vm.findClass own = some m.cls := by rw [hvm]; exact hown
  have hins : (Cond.instantiable cls 6).before args s' = true := h _ (by simp [Bundle.ownAtoms])
  obtain ⟨vm₁, cX, kX, hfX, hkX, -, -, X₁, st1⟩ := Y.newCold hexec (own := own) (C := cls) (index := ik) (n := 6) hown' hk' hins hini'
    (g := F0 m pc ls rest) rfl (by rw [hb]; exact d0) (Nat.le_refl _) (Nat.le_refl _)
  generalize hT1 : (T.setVm vm₁).pushCell { cls := cX, slots := kX.instanceTypes.map defaultValue, vm := .none } = T1 at X₁ st1
  have hcat : (Value.ref T.heap.size).category = 1 := rfl
  have hcellA : T1.heap[T.heap.size]? = some (freshCell cX kX) := by rw [← hT1]; exact State.heap_pushCell_size _ _
  have d3' : decode c.code (pc + 3) = .ok (.dup, 1) := by rw [hb]; exact d3
  have d4' : decode c.code (pc + 4) = .ok (.ldc_w is, 3) := by rw [hb]; exact d4
  have hstr' : vk_R own is text sa s' := vk_R.warm hW0 hstr
  obtain ⟨U, hsteps, hrun, hend, hW, hsame, ce, hce, hO⟩ := X₁.ctorThrowS hexec htr (own := own) (cls := cls) (names := names) (ic := ic) hown' hcls hnames h (fun x hx => nomatch hx) hfX hkX hcellA (by rw [hhp, hT]; exact Nat.le_refl _) (msg := .ref sa) rfl
    (g := { method := m, pc := pc + 7, locals := ls, stack := .ref sa :: .ref T.heap.size :: .ref T.heap.size :: rest, locked := none }) rfl hsize rfl rfl (rest := rest) rfl
    (by rw [hb]; exact d7) (by rw [hb]; exact d10) hout hRframes (by simp only [List.map_cons, List.sum_cons, hcat]; omega) hlocks
  obtain ⟨f1, f2⟩ := vx_frame hsame
  rw [hhp] at f1 f2
  have hWs : s.WarmedH U.vm := State.WarmedH.trans hW0 hW
  have hcl : s.vm.findClass cls = some ce.cls := by
    have h9 := hO.cls
    rw [hvm] at h9
    exact h9
  have hall : s.sameButNew ({ U with vm := s.vm } : State) locs mc ms := by
    subst hA
    obtain ⟨e1, e2⟩ := hsame
    rw [State.setFrames_setFrames] at e1
    have h2 : (T.setVm s.vm).sameButNew ({ U with vm := s.vm } : State) [] (0 + 1) (0 + 6) := ⟨e1, e2⟩
    have h3 := X.same.trans h2
    rw [List.append_nil] at h3
    exact h3.mono hc hs
  refine ⟨U, ?_, .threw T.heap.size, hrun, hend, Or.inr ⟨T.heap.size, rfl, cls, ce, locs, hx U hWs.alike f1 (fun q hq => f2 q hq (fun z hz => nomatch hz)), hce, hO.vm, hcl, hWs, hall, hf⟩⟩
  refine st1 _ ?_
  show Steps p.tables e below (T1.setTop { method := m, pc := pc + 3, locals := ls, stack := .ref T.heap.size :: rest, locked := none }) _
  jvm_step X₁.here [X₁.here.top, hexec, d3', Value.category]
  exact X₁.ldcStringW hexec (own := own) (text := text) (index := is) (a := sa) hown' hstr'.1 hstr'.2
    (g := { method := m, pc := pc + 4, locals := ls, stack := .ref T.heap.size :: .ref T.heap.size :: rest, locked := none }) rfl d4' _ hsteps
end Ends
section Bodies
variable {l : Launch}
theorem vx_ofW {y : MethodName} {ws ws' : List Cond} {rm : Room} {Pc : Array Value → State → Prop} {Qc : Array Value → State → Outcome → State → Prop} {XC : String → State → State → Prop} {mc ms : Nat} {free : Addr → Prop} {cc : ByteArray} {maxL : Nat} {ret : Option FieldType}
    (hy : plainName y.cls = true) (hw : ws = Cond.code y cc maxL ret :: ws')
    (body : ∀ p e s m args below meth c s₁, BodyLoose p l y (headSpec ws rm) cc maxL ret e s m args below meth c s₁ → c.maxLocals = maxL → (∀ x ∈ c.exceptionTable.toList, False) → Pc args s →
      W p l e (headSpec ws rm).room s m args below meth c s.heap [] 0 0 (vx_MQ below Qc XC args s mc ms free) (entryFrame m args maxL)) : vx_Met l y ws rm Pc Qc XC mc ms free := by
  refine MetFree.of_bodyS (code := cc) (maxLocals := maxL) (ret := ret) hy ?_ ?_
  · intro args s m h hn
    obtain ⟨meth, c, h1, h2, h3, h4, h5, h6, -, -⟩ := Cond.code_spec hn (atoms_spec (ws := ws) h _ (by rw [hw]; exact List.mem_cons_self))
    exact ⟨meth, c, h1, h2, h3, h4, h5, h6⟩
  · intro p e s m args below meth c s₁ B hml hP _
    have hh0 : s₁.heap = s.heap := by rw [B.state]; rfl
    have ht : ∀ x ∈ c.exceptionTable.toList, False := by
      obtain ⟨meth9, c9, h1, h2, -, -, -, -, h7, -⟩ := Cond.code_spec B.named (atoms_spec (ws := ws) B.pre _ (by rw [hw]; exact List.mem_cons_self))
      cases Option.some.inj (h1.symm.trans B.method)
      cases Option.some.inj (h2.symm.trans (Stand.of_body B).code)
      intro x hx
      rw [Array.isEmpty_iff.mp h7] at hx
      cases hx
    obtain ⟨t, a1, o, b1, b2, b3⟩ := body p e s m args below meth c s₁ B hml ht hP s₁ hh0 (Stand.of_body B)
    exact ⟨t, o, a1, b1, b2, b3⟩
/-- the table of a body with handlers -/
theorem vx_table {p : Program} {x y : MethodName} {S : Spec} {cc bytes : ByteArray} {maxL maxL' : Nat} {ret ret' : Option FieldType} {e : Env} {s s₁ : State} {m : MethodId} {args : Array Value} {below : List Frame} {meth : Method} {c : Code} {hh : List (Nat × Nat × Nat × Nat)}
    (B : BodyLoose p l y S cc maxL ret e s m args below meth c s₁) (h : (Cond.codeWith y bytes maxL' ret' hh).before args s = true) : c.exceptionTable.toList = tableOf hh := by
  obtain ⟨m9, meth9, c9, hn9, h1, h2, -, -, h6, -⟩ := Cond.codeWith_spec h
  cases Option.some.inj (hn9.symm.trans B.named)
  cases Option.some.inj (h1.symm.trans B.method)
  cases Option.some.inj (h2.symm.trans (Stand.of_body B).code)
  rw [← h6, table_eq]
end Bodies
end VXA
/-! ===== END ===== -/
/-! ===== BEGIN a static call of a method with an exception table ===== -/
section VXS
variable {p : Program} {l : Launch} {e : Env} {R : Room} {s : State} {m : MethodId} {args : Array Value} {below : List Frame} {meth : Method} {c : Code} {T : State} {H : Heap} {locs : List Loc} {cells slots : Nat}
abbrev vx_CSW (R : Room) (s : State) (args : Array Value) (own : String) (index : Nat) (y : MethodName) (bytes : ByteArray) (maxL : Nat) (ret : Option FieldType) (hh : List (Nat × Nat × Nat × Nat)) (ws : List Cond) (rm : Room) (mc ms n : Nat) : Prop :=
  (rm.cells = mc ∧ rm.slots = ms ∧ rm.frames + 1 ≤ R.frames ∧ 8 + (maxL + 11) + rm.locals ≤ R.locals ∧ (∀ w ∈ ws, ∀ (a' : Array Value) (U : State), s.WarmedH U.vm → w.before a' U = true) ∧ Cond.codeWith y bytes maxL ret hh ∈ ws) ∧
  (Cond.codeWith y bytes maxL ret hh).before args s = true ∧ (Cond.initialized y.cls).before args s = true ∧ (y.cls ≠ "java/lang/invoke/MethodHandle" ∧ y.cls ≠ "java/lang/invoke/VarHandle") ∧
  (∀ sig, parseMethodDescriptor y.desc = some sig → n = sig.parameters.length) ∧ (Cond.methodLink own index y).before args s = true ∧ (Cond.static y).before args s = true
theorem vx_cwSW {own : String} {index maxL mc ms : Nat} {y : MethodName} {bytes : ByteArray} {ret : Option FieldType} {hh : List (Nat × Nat × Nat × Nat)} {Ts ws ws' : List Cond} {rm : Room} (n : Nat) (ht : ∀ w ∈ Ts, w.before args s = true) (hT : GoodIn Ts (va_wsS own index y ws)) (hw : ws = Cond.codeWith y bytes maxL ret hh :: ws') (hrc : rm.cells = mc) (hrs : rm.slots = ms)
    (hd : y.cls ≠ "java/lang/invoke/MethodHandle" ∧ y.cls ≠ "java/lang/invoke/VarHandle" ∧ (parseMethodDescriptor y.desc).map (fun d => d.parameters.length) = some n) (hR : rm.frames + 1 ≤ R.frames ∧ 8 + (maxL + 11) + rm.locals ≤ R.locals) :
    vx_CSW R s args own index y bytes maxL ret hh ws rm mc ms n := by
  have ok : ∀ w ∈ va_wsS own index y ws, w.before args s = true := fun w h => ht w (hT w h).1
  have hG : GoodIn Ts ws := fun w h => hT w (by unfold va_wsS; exact List.mem_append_right _ h)
  have hc : Cond.codeWith y bytes maxL ret hh ∈ ws := by rw [hw]; exact List.mem_cons_self
  refine ⟨⟨hrc, hrs, hR.1, hR.2, pay_in ht hG, hc⟩, ht _ (hG _ hc).1, ok _ (by simp [va_wsS]), ⟨hd.1, hd.2.1⟩, fun sig h => ?_, ok _ (by simp [va_wsS]), ok _ (by simp [va_wsS])⟩
  have h2 := hd.2.2
  rw [h] at h2
  exact (Option.some.inj h2).symm
theorem vx_callSW (X : Stand p l e R s m args below meth c T locs cells slots) (hexec : p.tables.exec = Jvm.exec) {own : String} {index : Nat} {y : MethodName} {bytes : ByteArray} {maxL : Nat} {ret : Option FieldType} {hh : List (Nat × Nat × Nat × Nat)}
    (hown : s.vm.findClass own = some m.cls) (hlink : (Cond.methodLink own index y).before args s = true) (hstat : (Cond.static y).before args s = true) (hinit : (Cond.initialized y.cls).before args s = true)
    (hcode : (Cond.codeWith y bytes maxL ret hh).before args s = true) (hy : y.cls ≠ "java/lang/invoke/MethodHandle" ∧ y.cls ≠ "java/lang/invoke/VarHandle")
    {W9 : Nat} {Pre : Pt → Array Value → Prop} {Post : Pt → Array Value → Option Value → Pt → Prop} (hK : Back l R p e below s args y 3 W9 Pre Post)
    {g : JFrame} (hg : g.method = m) (hsize : g.locals.size = c.maxLocals) {argsL rest : List Value} (hlen : ∀ sig, parseMethodDescriptor y.desc = some sig → argsL.length = sig.parameters.length)
    (hstack : g.stack = argsL.reverse ++ rest) (hW : 2 * g.monitorRoom + (rest.map fun v => v.category).sum ≤ W9) (hdg : decode c.code g.pc = .ok (.invokestatic index, 3))
    (hpre : ∀ vm₁, s.WarmedH vm₁ → Pre ⟨T.setVm vm₁, locs, cells, slots⟩ argsL.toArray) :
    ∃ (v : Option Value) (vm₁ : Vm) (B : Pt), s.WarmedH vm₁ ∧ Stand p l e R s m args below meth c B.U B.locs B.cells B.slots ∧ Post ⟨T.setVm vm₁, locs, cells, slots⟩ argsL.toArray v B ∧
      ∀ target, Steps p.tables e below (B.U.setTop { g with pc := g.pc + 3, stack := v.toList ++ rest }) target → Steps p.tables e below (T.setTop g) target := by
  obtain ⟨mk, methM, cM, hnamed, hmethM, -, -, -, -, -, -, hsigM⟩ := Cond.codeWith_spec hcode
  have hstatic : methM.isStatic = true := Cond.static_spec hnamed hmethM hstat
  obtain ⟨kP, hkP, -⟩ := className_of_methodNamed hnamed
  have hinitP : kP.init = .initialized := Cond.initialized_spec (findClass_of_methodNamed hnamed) hkP hinit
  obtain ⟨vm₁, X₁, hstep₁⟩ := X.invokestatic hexec hown hlink hnamed hmethM hstatic hkP hinitP hy (g := g) hg (argsL := argsL) (rest := rest) (hlen _ hsigM) hstack hdg
  obtain ⟨v, B, X', hpost, hsteps⟩ := hK m meth c ⟨T.setVm vm₁, locs, cells, slots⟩ { g with stack := rest } (.invokestatic index) mk argsL.toArray X₁ hg hsize hdg hW (X₁.named hnamed) (hpre vm₁ X₁.warmed)
  exact ⟨v, vm₁, B, X₁.warmed, X', hpost, fun target h => hstep₁ _ fun acts => by rw [doInvoke_state]; exact hsteps.trans h⟩
theorem vx_runSW {y : MethodName} {bytes cc : ByteArray} {maxL nL mc ms n index : Nat} {ret : Option FieldType} {hh : List (Nat × Nat × Nat × Nat)} {ws : List Cond} {rm : Room} {Pc : Array Value → State → Prop} {Qc : Array Value → State → Outcome → State → Prop} {free : Addr → Prop} {Ts : List Cond} {own : String} {As rest : List Value} {g : JFrame}
    (S : CallFix p m c cc nL s args Ts own) (hM : Met l y ws rm Pc Qc mc ms free) (cw : vx_CSW R s args own index y bytes maxL ret hh ws rm mc ms n) (hp : PreS s H Pc As)
    (hg : g.method = m) (hn : As.length = n) (hsize : g.locals.size = nL) (hstack : g.stack = As.reverse ++ rest) (hW : 2 * g.monitorRoom + (rest.map fun v => v.category).sum ≤ 8) (hdg : decode cc g.pc = .ok (.invokestatic index, 3)) (hf : cells + mc ≤ R.cells ∧ slots + ms ≤ R.slots) :
    va_Run p l e R s m args below meth c H locs cells slots mc ms g rest (Qc As.toArray) (free) := by
  obtain ⟨⟨hrc, hrs, hfr, hlo, hws, hcw⟩, hcode, hini, hy, hlen, hl, hstt⟩ := cw
  have hK : Back l R p e below s args y 3 8 (PreOf R mc ms Pc) (PostOf Qc mc ms free) := va_backW (hh := hh) (bytes := bytes) (maxL := maxL) (ret := ret) hM hp.1 hrc hrs hfr hlo hws hcw (fun a' U hW => word_at hW (Or.inl (by first | rfl | simp [Cond.onTables, Cond.keeps, Cond.steady])) hini)
  obtain ⟨hx, hb, hml, ho, -⟩ := S
  intro T hT X
  obtain ⟨v, vm₁, ⟨U', l2, c2, s2⟩, hW₁, X', ⟨g', mk, t, L, e1, e2, hq, h1, hL, h2, h3⟩, st⟩ := vx_callSW X hx (hh := hh) (bytes := bytes) (maxL := maxL) (ret := ret) ho hl hstt hini hcode hy hK hg (hsize.trans hml.symm) (argsL := As) (rest := rest) (fun sig h => hn.trans (hlen sig h)) hstack hW (by rw [hb]; exact hdg)
    (fun vm₁ hW₁ => ⟨hf.1, hf.2, hp.2 (T.setVm vm₁) hT hW₁⟩)
  dsimp only [Pt.U, Pt.locs, Pt.cells, Pt.slots] at X' e1 e2 h1 h2 h3 st
  subst h1; subst h2; subst h3
  exact ⟨v, (T.setVm vm₁).calling g' mk As.toArray, t, U', L, hT, X', hL, e1, e2, hq, st⟩
/-- not caught here, past rows that name other classes: it goes on to the caller -/
theorem vx_outP {p : Program} {l : Launch} {e : Env} {R : Room} {s : State} {m : MethodId} {args : Array Value} {below : List Frame} {meth : Method} {c : Code} {H : Heap} {locs : List Loc} {cells slots : Nat} {free : Addr → Prop} {ls : Array Slot} {rest : List Value} {Qc : Array Value → State → Outcome → State → Prop} {XC : String → State → State → Prop}
    {pc : Nat} {own E : String} {ce : Cell} {q : Addr} {mc ms : Nat} (hown : s.vm.findClass own = some m.cls) (hlocks : meth.locks = false)
    (hpass : ∀ z ∈ c.exceptionTable.toList, covers z pc = false ∨ (z.catchType ≠ 0 ∧ ∃ nm : String, (Cond.classLink own z.catchType nm).before args s = true ∧ va_Nc E nm s)) (hcell : H[q]? = some ce) (hv : ce.vm = .none) (hcl : s.vm.findClass E = some ce.cls)
    (hx : ∀ t : State, t.heap = H → s.vm.Alike t.vm → XC E s t) (hf : ∀ z ∈ locs, free z.base) (hc : cells ≤ mc) (hs : slots ≤ ms) :
    vx_W p l e R s m args below meth c H locs cells slots (vx_MQ below Qc XC args s mc ms free) (F0 m pc ls rest) q := by
  intro T hT X
  have hpl : e.platform.magicAccessors = ({} : Platform).magicAccessors := by rw [X.admits.platform]
  obtain ⟨vm', hW', X', st⟩ := X.outThrough hlocks q (g := F0 m pc ls rest) rfl rfl rfl (cell := ce) (by rw [hT]; exact hcell) (by rw [hv]; rfl)
    (by obtain ⟨k9, h9, -⟩ := Vm.findClass_spec hcl; exact ⟨k9, h9⟩) (fun z hz => by
      rcases hpass z hz with h | ⟨hz0, nm, hl1, hn1⟩
      · exact Or.inl h
      · obtain ⟨c6, hc6, hcl6⟩ := Cond.classLink_spec hown hl1 e.platform hpl
        obtain ⟨a8, b8, h1, h2, h3⟩ := hn1
        cases Option.some.inj (h1.symm.trans hcl)
        cases Option.some.inj (h2.symm.trans hc6)
        exact Or.inr ⟨hz0, _, hcl6, h3⟩)
  obtain ⟨g₀, hfr⟩ := X'.frames_eq
  have hcell9 : ((T.setVm vm').setFrames (.throwing q :: below)).heap[q]? = some ce := by
    show T.heap[q]? = some ce
    rw [hT]; exact hcell
  have hend : Ended ((T.setVm vm').setFrames (.throwing q :: below)) below (.threw q) := State.frames_setFrames _ (State.cur_lt_of_frames hfr)
  refine ⟨(T.setVm vm').setFrames (.throwing q :: below), ?_, .threw q, X'.here.running, hend, Or.inr ⟨q, rfl, E, ce, locs, hx _ hT (X'.ends _).1.alike, hcell9, hv, hcl, (X'.ends _).1, (X'.ends _).2.mono hc hs, hf⟩⟩
  rw [X.pushThrowing_eq]
  exact st
/-- a thing of a world lies in the heap -/
theorem vx_lt {D : va_G} {cl : List vw_C} {ws : va_W} {H1 : Heap} (h : va_P D cl ws H1) {k : Nat} {q : Nat × va_E} (hk : ws[k]? = some q) : q.1 < H1.size := (h k q hk).lt
end VXS
/-! ===== END ===== -/
/-! ===== BEGIN methods with a table of their own: called by a name, returning or throwing ===== -/
section VXH
/-! vx_backW, vx_callVX, vx_callSX, vx_callVW, vx_runVW, vx_runVX, vx_runSX, vx_ofWH follow the same proofs as their sisters above (Free/Laws.lean, Shelf42/LK1.lean); vx_outP calls Shelf42/NT130.lean (outThrough). -/
section
variable {l : Launch} {R : Room} {p : Program} {e : Env} {below : List Frame} {s : State} {sargs : Array Value} {y : MethodName} {len W9 : Nat}
theorem vx_backW {ws : List Cond} {rm : Room} {Pc : Array Value → State → Prop} {Qc : Array Value → State → Outcome → State → Prop} {XC : String → State → State → Prop} {mc ms : Nat} {free : Addr → Prop} {bytes : ByteArray} {maxL : Nat} {ret : Option FieldType} {hh : List (Nat × Nat × Nat × Nat)}
    (hM : vx_Met l y ws rm Pc Qc XC mc ms free) (hblind : FrameBlind Pc) (hrc : rm.cells = mc) (hrs : rm.slots = ms)
    (hframes : rm.frames + 1 ≤ R.frames) (hlocals : W9 + (maxL + 11) + rm.locals ≤ R.locals)
    (hws : ∀ w ∈ ws, ∀ a' U, s.WarmedH U.vm → w.before a' U = true) (hcode : Cond.codeWith y bytes maxL ret hh ∈ ws) (hinit : ∀ a' U, s.WarmedH U.vm → (Cond.initialized y.cls).before a' U = true) :
    vx_Back l R p e below s sargs y len W9 (PreOf R mc ms Pc) (PostOf Qc mc ms free) (vx_Post XC mc ms free) := by
  intro m meth c A g ig mk a X hg hsize hdg hW hn hp
  have h1 : (headSpec ws rm).pre.before a A.U = true := atoms_intro fun w hw => hws w hw _ _ X.warmed
  have h2 : (Cond.codeWith y bytes maxL ret hh).before a A.U = true := hws _ hcode _ _ X.warmed
  have h3 : (Cond.initialized y.cls).before a A.U = true := hinit _ _ X.warmed
  have h4 : A.cells + (headSpec ws rm).room.cells ≤ R.cells := by rw [show (headSpec ws rm).room.cells = mc from hrc]; exact hp.1
  have h5 : A.slots + (headSpec ws rm).room.slots ≤ R.slots := by rw [show (headSpec ws rm).room.slots = ms from hrs]; exact hp.2.1
  have hPc : Pc a (A.U.calling g mk a) := hblind _ _ _ _ hp.2.2
  obtain ⟨U, Ls, c0, s0⟩ := A
  dsimp only [Pt.U, Pt.locs, Pt.cells, Pt.slots] at h1 h2 h3 h4 h5 X hn hPc ⊢
  obtain ⟨m9, methY, cY, hn9, hmY, hcY, -, hlY, -⟩ := Cond.codeWith_spec h2
  cases Option.some.inj (hn9.symm.trans hn)
  obtain ⟨kY, hkY, -⟩ := className_of_methodNamed hn
  have hinitY : kY.init = .initialized := Cond.initialized_spec (findClass_of_methodNamed hn) hkY h3
  have h : At U g.method c below := by rw [hg]; exact X.here
  have hlocals9 : W9 + (maxL + 11) + (headSpec ws rm).room.locals ≤ R.locals := hlocals
  have happ : (headSpec ws rm).appliesLoose y e.platform (U.calling g mk a) = true :=
    Spec.appliesLoose_calling (g := g) h hdg hn hkY hinitY
      (X.room_calling (g := g) (R' := (headSpec ws rm).room) hsize hmY hcY hframes (by rw [hlY]; omega) h4 h5) h1
  obtain ⟨mid, hmid⟩ := h.above
  have hfr : (U.setTop g).frames = (.java g :: mid) ++ below := by rw [State.frames_setTop' g h.top, hmid]; rfl
  obtain ⟨o, s₂, hsteps, -, hend, hq⟩ := Steps.callFree hM p X.admits X.cas X.clock (acts := []) hfr happ hPc trivial
  have hq' : vx_Q Qc XC mc ms free a (U.calling g mk a) o s₂ := hq
  rw [State.frames_setTop' g h.top] at hend
  obtain ⟨g₀, hg0⟩ := Option.isSome_iff_exists.mp h.top
  obtain ⟨r, hr⟩ := State.topJava?_eq_some.mp hg0
  have hr' : (({ U with heap := s₂.heap, slotsUsed := s₂.slotsUsed } : State).setVm s₂.vm).frames = .java g₀ :: r := hr
  rcases hq' with ⟨hqc, L, hfe, hL⟩ | ⟨q, rfl, E, ce, L, hx, hce, hcv, hcl, hW₂, hsm, hL⟩
  · obtain ⟨⟨v, rfl⟩, hW₂, e2, q2, q3, q4, q5, q6⟩ := id hfe
    have e3 : s₂ = ({ (U.calling g mk a).setFrames s₂.frames with heap := s₂.heap, slotsUsed := s₂.slotsUsed } : State).setVm s₂.vm := by
      have : s₂ = ({ s₂ with vm := (U.calling g mk a).vm } : State).setVm s₂.vm := rfl
      rw [e2] at this
      exact this
    obtain ⟨c₂, i₂, len₂, hc₂, hd₂, hf₂⟩ := hend
    have hW' : U.WarmedH s₂.vm := hW₂
    have hcc : c₂ = c := by
      have h1 : s₂.code? g.method = U.code? g.method := by
        rw [State.code?_eq, State.code?_eq, hW'.alike.method?]
      exact Option.some.inj (hc₂.symm.trans (h1.trans h.code))
    subst hcc
    have hlen : len₂ = len := by rw [hdg] at hd₂; cases hd₂; rfl
    subst hlen
    have hs₂ : s₂ = (({ U with heap := s₂.heap, slotsUsed := s₂.slotsUsed } : State).setVm s₂.vm).setTop { g with pc := g.pc + len₂, stack := v.toList ++ g.stack } := by
      refine e3.trans ?_
      rw [hf₂, State.calling_eq h.top, State.setFrames_setFrames, State.setTop_of_frames _ hr', hr]
      rfl
    have hsame : U.sameButNew ({ U with heap := s₂.heap, slotsUsed := s₂.slotsUsed } : State) L mc ms := by
      refine ⟨?_, q2, q3, q4, q5, q6⟩
      obtain ⟨t, ht, -⟩ := State.frames_cons hr
      show ({ U with heap := s₂.heap, slotsUsed := s₂.slotsUsed } : State) = { U.setFrames U.frames with heap := s₂.heap, slotsUsed := s₂.slotsUsed }
      rw [State.setFrames_self ht]
    subst hg
    refine Or.inl ⟨v, ⟨(({ U with heap := s₂.heap, slotsUsed := s₂.slotsUsed } : State).setVm s₂.vm), Ls ++ L, c0 + mc, s0 + ms⟩,
      ⟨X.admits, X.cas, X.clock, X.frames, X.room, X.hears, X.method, X.code, (X.here.setHeapUsed s₂.heap s₂.slotsUsed).setVm hW'.alike, X.tail, State.WarmedH.trans X.warmed hW', X.limits, X.bytes, X.same.trans (hsame.setVm s.vm)⟩,
      ⟨g, mk, s₂, L, rfl, rfl, hqc, rfl, hL, rfl, rfl⟩, ?_⟩
    show Steps p.tables e below _ ((({ U with heap := s₂.heap, slotsUsed := s₂.slotsUsed } : State).setVm s₂.vm).setTop { g with pc := g.pc + len₂, stack := v.toList ++ g.stack })
    rw [← hs₂]
    exact hsteps
  · obtain ⟨e2, q2, q3, q4, q5, q6⟩ := id hsm
    have e3 : s₂ = ({ (U.calling g mk a).setFrames s₂.frames with heap := s₂.heap, slotsUsed := s₂.slotsUsed } : State).setVm s₂.vm := by
      have : s₂ = ({ s₂ with vm := (U.calling g mk a).vm } : State).setVm s₂.vm := rfl
      rw [e2] at this
      exact this
    have hf₂ : s₂.frames = .throwing q :: .java g :: U.frames.tail := hend
    have hW' : U.WarmedH s₂.vm := hW₂
    have hs₂ : s₂ = ((({ U with heap := s₂.heap, slotsUsed := s₂.slotsUsed } : State).setVm s₂.vm).setTop g).pushFrame (.throwing q) := by
      refine e3.trans ?_
      rw [hf₂, State.calling_eq h.top, State.setFrames_setFrames, State.pushFrame, State.frames_setTop _ hr', State.setTop_of_frames _ hr', State.setFrames_setFrames, hr]
      rfl
    have hsame : U.sameButNew ({ U with heap := s₂.heap, slotsUsed := s₂.slotsUsed } : State) L mc ms := by
      refine ⟨?_, q2, q3, q4, q5, q6⟩
      obtain ⟨t, ht, -⟩ := State.frames_cons hr
      show ({ U with heap := s₂.heap, slotsUsed := s₂.slotsUsed } : State) = { U.setFrames U.frames with heap := s₂.heap, slotsUsed := s₂.slotsUsed }
      rw [State.setFrames_self ht]
    subst hg
    refine Or.inr ⟨q, ⟨(({ U with heap := s₂.heap, slotsUsed := s₂.slotsUsed } : State).setVm s₂.vm), Ls ++ L, c0 + mc, s0 + ms⟩,
      ⟨X.admits, X.cas, X.clock, X.frames, X.room, X.hears, X.method, X.code, (X.here.setHeapUsed s₂.heap s₂.slotsUsed).setVm hW'.alike, X.tail, State.WarmedH.trans X.warmed hW', X.limits, X.bytes, X.same.trans (hsame.setVm s.vm)⟩,
      ⟨g, mk, s₂, L, E, ce, rfl, rfl, hx, hce, hcv, hcl, rfl, hL, rfl, rfl⟩, ?_⟩
    show Steps p.tables e below _ (((({ U with heap := s₂.heap, slotsUsed := s₂.slotsUsed } : State).setVm s₂.vm).setTop g).pushFrame (.throwing q))
    rw [← hs₂]
    exact hsteps
end
variable {p : Program} {l : Launch} {e : Env} {R : Room} {s : State} {m : MethodId} {args : Array Value} {below : List Frame} {meth : Method} {c : Code} {T : State} {H : Heap} {locs : List Loc} {cells slots : Nat}
theorem vx_callVX (X : Stand p l e R s m args below meth c T locs cells slots) (hexec : p.tables.exec = Jvm.exec) {own C : String} {index : Nat} {y : MethodName} {bytes : ByteArray} {maxL : Nat} {ret : Option FieldType} {hh : List (Nat × Nat × Nat × Nat)}
    (hown : s.vm.findClass own = some m.cls) (hlink : (Cond.methodLink own index y).before args s = true) (hinst : (Cond.instanceMethod y).before args s = true) (hsel : (Cond.selects C y y).before args s = true)
    (hcode : (Cond.codeWith y bytes maxL ret hh).before args s = true) (hy : y.cls ≠ "java/lang/invoke/MethodHandle" ∧ y.cls ≠ "java/lang/invoke/VarHandle")
    {W9 : Nat} {Pre : Pt → Array Value → Prop} {Post : Pt → Array Value → Option Value → Pt → Prop} {PostX : Pt → Array Value → Addr → Pt → Prop} (hK : vx_Back l R p e below s args y 3 W9 Pre Post PostX)
    {b : Addr} {cellB : Cell} (hcell : T.heap[b]? = some cellB) (hobj : cellB.vm.isStatics = false) (hcls : s.vm.findClass C = some cellB.cls)
    {g : JFrame} (hg : g.method = m) (hsize : g.locals.size = c.maxLocals) {argsL rest : List Value} (hlen : ∀ sig, parseMethodDescriptor y.desc = some sig → argsL.length = sig.parameters.length)
    (hstack : g.stack = argsL.reverse ++ .ref b :: rest) (hW : 2 * g.monitorRoom + (rest.map fun v => v.category).sum ≤ W9) (hdg : decode c.code g.pc = .ok (.invokevirtual index, 3))
    (hpre : ∀ vm₁, s.WarmedH vm₁ → Pre ⟨T.setVm vm₁, locs, cells, slots⟩ (Value.ref b :: argsL).toArray) :
    (∃ (v : Option Value) (vm₁ : Vm) (B : Pt), s.WarmedH vm₁ ∧ Stand p l e R s m args below meth c B.U B.locs B.cells B.slots ∧ Post ⟨T.setVm vm₁, locs, cells, slots⟩ (Value.ref b :: argsL).toArray v B ∧
      ∀ target, Steps p.tables e below (B.U.setTop { g with pc := g.pc + 3, stack := v.toList ++ rest }) target → Steps p.tables e below (T.setTop g) target) ∨
    (∃ (q : Addr) (vm₁ : Vm) (B : Pt), s.WarmedH vm₁ ∧ Stand p l e R s m args below meth c B.U B.locs B.cells B.slots ∧ PostX ⟨T.setVm vm₁, locs, cells, slots⟩ (Value.ref b :: argsL).toArray q B ∧
      Steps p.tables e below (T.setTop g) ((B.U.setTop { g with stack := rest }).pushFrame (.throwing q))) := by
  obtain ⟨mk, methM, hnamed, hmethM, hstM, habM⟩ := Cond.instanceMethod_spec hinst
  obtain ⟨m8, methM', cM, hn8, hmethM', -, -, -, -, -, -, hsigM⟩ := Cond.codeWith_spec hcode
  cases Option.some.inj (hn8.symm.trans hnamed)
  cases hmethM.symm.trans hmethM'
  obtain ⟨c2, r2, m2, q1, q2, q3, q4, kP, hkP, hkPi⟩ := Cond.selects_spec hsel
  cases hcls.symm.trans q1
  cases (State.methodFound?_of_named hnamed hy).symm.trans q2
  cases hnamed.symm.trans q3
  have hselP : selectMethod e.platform s.vm cellB.cls mk = .method mk := by rw [Launch.admits_selectMethod X.admits]; exact q4
  obtain ⟨vm₁, X₁, hstep₁⟩ := X.invokevirtual hexec hown hlink hnamed hmethM hstM hkP hkPi hy (a := b) (cell := cellB) hcell
    (fun z h => by rw [h] at hobj; cases hobj) hselP hmethM habM hkP hkPi (g := g) hg (argsL := argsL) (rest := rest) (hlen _ hsigM) hstack hdg
  rcases hK m meth c ⟨T.setVm vm₁, locs, cells, slots⟩ { g with stack := rest } (.invokevirtual index) mk (Value.ref b :: argsL).toArray X₁ hg hsize hdg hW (X₁.named hnamed) (hpre vm₁ X₁.warmed) with ⟨v, B, X', hpost, hsteps⟩ | ⟨q, B, X', hpost, hsteps⟩
  · exact Or.inl ⟨v, vm₁, B, X₁.warmed, X', hpost, fun target h => hstep₁ _ fun acts => by rw [doInvoke_state]; exact hsteps.trans h⟩
  · exact Or.inr ⟨q, vm₁, B, X₁.warmed, X', hpost, hstep₁ _ fun acts => by rw [doInvoke_state]; exact hsteps⟩
theorem vx_callSX (X : Stand p l e R s m args below meth c T locs cells slots) (hexec : p.tables.exec = Jvm.exec) {own : String} {index : Nat} {y : MethodName} {bytes : ByteArray} {maxL : Nat} {ret : Option FieldType} {hh : List (Nat × Nat × Nat × Nat)}
    (hown : s.vm.findClass own = some m.cls) (hlink : (Cond.methodLink own index y).before args s = true) (hstat : (Cond.static y).before args s = true) (hinit : (Cond.initialized y.cls).before args s = true)
    (hcode : (Cond.codeWith y bytes maxL ret hh).before args s = true) (hy : y.cls ≠ "java/lang/invoke/MethodHandle" ∧ y.cls ≠ "java/lang/invoke/VarHandle")
    {W9 : Nat} {Pre : Pt → Array Value → Prop} {Post : Pt → Array Value → Option Value → Pt → Prop} {PostX : Pt → Array Value → Addr → Pt → Prop} (hK : vx_Back l R p e below s args y 3 W9 Pre Post PostX)
    {g : JFrame} (hg : g.method = m) (hsize : g.locals.size = c.maxLocals) {argsL rest : List Value} (hlen : ∀ sig, parseMethodDescriptor y.desc = some sig → argsL.length = sig.parameters.length)
    (hstack : g.stack = argsL.reverse ++ rest) (hW : 2 * g.monitorRoom + (rest.map fun v => v.category).sum ≤ W9) (hdg : decode c.code g.pc = .ok (.invokestatic index, 3))
    (hpre : ∀ vm₁, s.WarmedH vm₁ → Pre ⟨T.setVm vm₁, locs, cells, slots⟩ argsL.toArray) :
    (∃ (v : Option Value) (vm₁ : Vm) (B : Pt), s.WarmedH vm₁ ∧ Stand p l e R s m args below meth c B.U B.locs B.cells B.slots ∧ Post ⟨T.setVm vm₁, locs, cells, slots⟩ argsL.toArray v B ∧
      ∀ target, Steps p.tables e below (B.U.setTop { g with pc := g.pc + 3, stack := v.toList ++ rest }) target → Steps p.tables e below (T.setTop g) target) ∨
    (∃ (q : Addr) (vm₁ : Vm) (B : Pt), s.WarmedH vm₁ ∧ Stand p l e R s m args below meth c B.U B.locs B.cells B.slots ∧ PostX ⟨T.setVm vm₁, locs, cells, slots⟩ argsL.toArray q B ∧
      Steps p.tables e below (T.setTop g) ((B.U.setTop { g with stack := rest }).pushFrame (.throwing q))) := by
  obtain ⟨mk, methM, cM, hnamed, hmethM, -, -, -, -, -, -, hsigM⟩ := Cond.codeWith_spec hcode
  have hstatic : methM.isStatic = true := Cond.static_spec hnamed hmethM hstat
  obtain ⟨kP, hkP, -⟩ := className_of_methodNamed hnamed
  have hinitP : kP.init = .initialized := Cond.initialized_spec (findClass_of_methodNamed hnamed) hkP hinit
  obtain ⟨vm₁, X₁, hstep₁⟩ := X.invokestatic hexec hown hlink hnamed hmethM hstatic hkP hinitP hy (g := g) hg (argsL := argsL) (rest := rest) (hlen _ hsigM) hstack hdg
  rcases hK m meth c ⟨T.setVm vm₁, locs, cells, slots⟩ { g with stack := rest } (.invokestatic index) mk argsL.toArray X₁ hg hsize hdg hW (X₁.named hnamed) (hpre vm₁ X₁.warmed) with ⟨v, B, X', hpost, hsteps⟩ | ⟨q, B, X', hpost, hsteps⟩
  · exact Or.inl ⟨v, vm₁, B, X₁.warmed, X', hpost, fun target h => hstep₁ _ fun acts => by rw [doInvoke_state]; exact hsteps.trans h⟩
  · exact Or.inr ⟨q, vm₁, B, X₁.warmed, X', hpost, hstep₁ _ fun acts => by rw [doInvoke_state]; exact hsteps⟩
theorem vx_callVW (X : Stand p l e R s m args below meth c T locs cells slots) (hexec : p.tables.exec = Jvm.exec) {own C : String} {index : Nat} {y : MethodName} {bytes : ByteArray} {maxL : Nat} {ret : Option FieldType} {hh : List (Nat × Nat × Nat × Nat)}
    (hown : s.vm.findClass own = some m.cls) (hlink : (Cond.methodLink own index y).before args s = true) (hinst : (Cond.instanceMethod y).before args s = true) (hsel : (Cond.selects C y y).before args s = true)
    (hcode : (Cond.codeWith y bytes maxL ret hh).before args s = true) (hy : y.cls ≠ "java/lang/invoke/MethodHandle" ∧ y.cls ≠ "java/lang/invoke/VarHandle")
    {W9 : Nat} {Pre : Pt → Array Value → Prop} {Post : Pt → Array Value → Option Value → Pt → Prop} (hK : Back l R p e below s args y 3 W9 Pre Post)
    {b : Addr} {cellB : Cell} (hcell : T.heap[b]? = some cellB) (hobj : cellB.vm.isStatics = false) (hcls : s.vm.findClass C = some cellB.cls)
    {g : JFrame} (hg : g.method = m) (hsize : g.locals.size = c.maxLocals) {argsL rest : List Value} (hlen : ∀ sig, parseMethodDescriptor y.desc = some sig → argsL.length = sig.parameters.length)
    (hstack : g.stack = argsL.reverse ++ .ref b :: rest) (hW : 2 * g.monitorRoom + (rest.map fun v => v.category).sum ≤ W9) (hdg : decode c.code g.pc = .ok (.invokevirtual index, 3))
    (hpre : ∀ vm₁, s.WarmedH vm₁ → Pre ⟨T.setVm vm₁, locs, cells, slots⟩ (Value.ref b :: argsL).toArray) :
    ∃ (v : Option Value) (vm₁ : Vm) (B : Pt), s.WarmedH vm₁ ∧ Stand p l e R s m args below meth c B.U B.locs B.cells B.slots ∧ Post ⟨T.setVm vm₁, locs, cells, slots⟩ (Value.ref b :: argsL).toArray v B ∧
      ∀ target, Steps p.tables e below (B.U.setTop { g with pc := g.pc + 3, stack := v.toList ++ rest }) target → Steps p.tables e below (T.setTop g) target := by
  obtain ⟨mk, methM, hnamed, hmethM, hstM, habM⟩ := Cond.instanceMethod_spec hinst
  obtain ⟨m8, methM', cM, hn8, hmethM', -, -, -, -, -, -, hsigM⟩ := Cond.codeWith_spec hcode
  cases Option.some.inj (hn8.symm.trans hnamed)
  cases hmethM.symm.trans hmethM'
  obtain ⟨c2, r2, m2, q1, q2, q3, q4, kP, hkP, hkPi⟩ := Cond.selects_spec hsel
  cases hcls.symm.trans q1
  cases (State.methodFound?_of_named hnamed hy).symm.trans q2
  cases hnamed.symm.trans q3
  have hselP : selectMethod e.platform s.vm cellB.cls mk = .method mk := by rw [Launch.admits_selectMethod X.admits]; exact q4
  obtain ⟨vm₁, X₁, hstep₁⟩ := X.invokevirtual hexec hown hlink hnamed hmethM hstM hkP hkPi hy (a := b) (cell := cellB) hcell
    (fun z h => by rw [h] at hobj; cases hobj) hselP hmethM habM hkP hkPi (g := g) hg (argsL := argsL) (rest := rest) (hlen _ hsigM) hstack hdg
  obtain ⟨v, B, X', hpost, hsteps⟩ := hK m meth c ⟨T.setVm vm₁, locs, cells, slots⟩ { g with stack := rest } (.invokevirtual index) mk (Value.ref b :: argsL).toArray X₁ hg hsize hdg hW (X₁.named hnamed) (hpre vm₁ X₁.warmed)
  exact ⟨v, vm₁, B, X₁.warmed, X', hpost, fun target h => hstep₁ _ fun acts => by rw [doInvoke_state]; exact hsteps.trans h⟩
abbrev vx_CVW (R : Room) (s : State) (args : Array Value) (own C : String) (index : Nat) (y : MethodName) (bytes : ByteArray) (maxL : Nat) (ret : Option FieldType) (hh : List (Nat × Nat × Nat × Nat)) (ws : List Cond) (rm : Room) (mc ms n : Nat) : Prop :=
  (rm.cells = mc ∧ rm.slots = ms ∧ rm.frames + 1 ≤ R.frames ∧ 8 + (maxL + 11) + rm.locals ≤ R.locals ∧ (∀ w ∈ ws, ∀ (a' : Array Value) (U : State), s.WarmedH U.vm → w.before a' U = true) ∧ Cond.codeWith y bytes maxL ret hh ∈ ws) ∧
  (Cond.codeWith y bytes maxL ret hh).before args s = true ∧ (Cond.initialized y.cls).before args s = true ∧ (y.cls ≠ "java/lang/invoke/MethodHandle" ∧ y.cls ≠ "java/lang/invoke/VarHandle") ∧
  (∀ sig, parseMethodDescriptor y.desc = some sig → n = sig.parameters.length) ∧ (Cond.methodLink own index y).before args s = true ∧ (Cond.instanceMethod y).before args s = true ∧ (Cond.selects C y y).before args s = true
theorem vx_cwVW {own C : String} {index maxL mc ms : Nat} {y : MethodName} {bytes : ByteArray} {ret : Option FieldType} {hh : List (Nat × Nat × Nat × Nat)} {Ts ws ws' : List Cond} {rm : Room} (n : Nat) (ht : ∀ w ∈ Ts, w.before args s = true) (hT : GoodIn Ts (wsV own index C y ws)) (hw : ws = Cond.codeWith y bytes maxL ret hh :: ws') (hrc : rm.cells = mc) (hrs : rm.slots = ms)
    (hd : y.cls = C ∧ y.cls ≠ "java/lang/invoke/MethodHandle" ∧ y.cls ≠ "java/lang/invoke/VarHandle" ∧ (parseMethodDescriptor y.desc).map (fun d => d.parameters.length) = some n) (hR : rm.frames + 1 ≤ R.frames ∧ 8 + (maxL + 11) + rm.locals ≤ R.locals) :
    vx_CVW R s args own C index y bytes maxL ret hh ws rm mc ms n := by
  obtain ⟨hC, hd⟩ := hd
  subst hC
  have ok : ∀ w ∈ wsV own index y.cls y ws, w.before args s = true := fun w h => ht w (hT w h).1
  have hG : GoodIn Ts ws := fun w h => hT w (by unfold wsV; exact List.mem_append_right _ h)
  have hc : Cond.codeWith y bytes maxL ret hh ∈ ws := by rw [hw]; exact List.mem_cons_self
  refine ⟨⟨hrc, hrs, hR.1, hR.2, pay_in ht hG, hc⟩, ht _ (hG _ hc).1, ok _ (by simp [wsV]), ⟨hd.1, hd.2.1⟩, fun sig h => ?_, ok _ (by simp [wsV]), ok _ (by simp [wsV]), ok _ (by simp [wsV])⟩
  have h2 := hd.2.2
  rw [h] at h2
  exact (Option.some.inj h2).symm
theorem vx_runVW {y : MethodName} {bytes cc : ByteArray} {maxL nL mc ms n index : Nat} {ret : Option FieldType} {hh : List (Nat × Nat × Nat × Nat)} {ws : List Cond} {rm : Room} {Pc : Array Value → State → Prop} {Qc : Array Value → State → Outcome → State → Prop} {free : Addr → Prop} {Ts : List Cond} {own C : String} {b : Addr} {As rest : List Value} {g : JFrame}
    (S : CallFix p m c cc nL s args Ts own) (hM : Met l y ws rm Pc Qc mc ms free) (cw : vx_CVW R s args own C index y bytes maxL ret hh ws rm mc ms n) (hp : PreV s H C b Pc As)
    (hg : g.method = m) (hn : As.length = n) (hsize : g.locals.size = nL) (hstack : g.stack = As.reverse ++ .ref b :: rest) (hW : 2 * g.monitorRoom + (rest.map fun v => v.category).sum ≤ 8) (hdg : decode cc g.pc = .ok (.invokevirtual index, 3)) (hf : cells + mc ≤ R.cells ∧ slots + ms ≤ R.slots) :
    va_Run p l e R s m args below meth c H locs cells slots mc ms g rest (Qc (Value.ref b :: As).toArray) free := by
  obtain ⟨⟨hrc, hrs, hfr, hlo, hws, hcw⟩, hcode, hini, hy, hlen, hl, hin, hse⟩ := cw
  have hK : Back l R p e below s args y 3 8 (PreOf R mc ms Pc) (PostOf Qc mc ms free) := va_backW (hh := hh) (bytes := bytes) (maxL := maxL) (ret := ret) hM hp.1 hrc hrs hfr hlo hws hcw (fun a' U hW => word_at hW (Or.inl (by first | rfl | simp [Cond.onTables, Cond.keeps, Cond.steady])) hini)
  obtain ⟨hx, hb, hml, ho, -⟩ := S
  obtain ⟨-, ⟨cellB, hcB, hoB, hclB⟩, hPc⟩ := hp
  intro T hT X
  obtain ⟨v, vm₁, ⟨U', l2, c2, s2⟩, hW₁, X', ⟨g', mk, t, L, e1, e2, hq, h1, hL, h2, h3⟩, st⟩ := vx_callVW X hx (C := C) (hh := hh) (bytes := bytes) (maxL := maxL) (ret := ret) ho hl hin hse hcode hy hK (by rw [hT]; exact hcB) hoB hclB hg (hsize.trans hml.symm) (argsL := As) (rest := rest) (fun sig h => hn.trans (hlen sig h)) hstack hW (by rw [hb]; exact hdg)
    (fun vm₁ hW₁ => ⟨hf.1, hf.2, hPc (T.setVm vm₁) hT hW₁⟩)
  dsimp only [Pt.U, Pt.locs, Pt.cells, Pt.slots] at X' e1 e2 h1 h2 h3 st
  subst h1; subst h2; subst h3
  exact ⟨v, (T.setVm vm₁).calling g' mk (Value.ref b :: As).toArray, t, U', L, hT, X', hL, e1, e2, hq, st⟩
section
variable {y : MethodName} {bytes cc : ByteArray} {maxL nL mc ms n index : Nat} {ret : Option FieldType} {ws : List Cond} {rm : Room} {Pc : Array Value → State → Prop} {Qc : Array Value → State → Outcome → State → Prop} {XC : String → State → State → Prop} {free : Addr → Prop} {Ts : List Cond} {own C : String} {b : Addr} {As rest : List Value} {g : JFrame}
theorem vx_runVX {hh : List (Nat × Nat × Nat × Nat)} (S : CallFix p m c cc nL s args Ts own) (hM : vx_Met l y ws rm Pc Qc XC mc ms free) (cw : vx_CVW R s args own C index y bytes maxL ret hh ws rm mc ms n) (hp : PreV s H C b Pc As)
    (hg : g.method = m) (hn : As.length = n) (hsize : g.locals.size = nL) (hstack : g.stack = As.reverse ++ .ref b :: rest) (hW : 2 * g.monitorRoom + (rest.map fun v => v.category).sum ≤ 8) (hdg : decode cc g.pc = .ok (.invokevirtual index, 3)) (hf : cells + mc ≤ R.cells ∧ slots + ms ≤ R.slots) :
    vx_Run p l e R s m args below meth c H locs cells slots mc ms g rest (Qc (Value.ref b :: As).toArray) XC free := by
  obtain ⟨⟨hrc, hrs, hfr, hlo, hws, hcw⟩, hcode, hini, hy, hlen, hl, hin, hse⟩ := cw
  have hK : vx_Back l R p e below s args y 3 8 (PreOf R mc ms Pc) (PostOf Qc mc ms free) (vx_Post XC mc ms free) := vx_backW (hh := hh) (bytes := bytes) (maxL := maxL) (ret := ret) hM hp.1 hrc hrs hfr hlo hws hcw (fun a' U hW => word_at hW (Or.inl (by first | rfl | simp [Cond.onTables, Cond.keeps, Cond.steady])) hini)
  obtain ⟨hx, hb, hml, ho, -⟩ := S
  obtain ⟨-, ⟨cellB, hcB, hoB, hclB⟩, hPc⟩ := hp
  intro T hT X
  rcases vx_callVX X hx (C := C) (hh := hh) (bytes := bytes) (maxL := maxL) (ret := ret) ho hl hin hse hcode hy hK (by rw [hT]; exact hcB) hoB hclB hg (hsize.trans hml.symm) (argsL := As) (rest := rest) (fun sig h => hn.trans (hlen sig h)) hstack hW (by rw [hb]; exact hdg)
    (fun vm₁ hW₁ => ⟨hf.1, hf.2, hPc (T.setVm vm₁) hT hW₁⟩) with ⟨v, vm₁, ⟨U', l2, c2, s2⟩, hW₁, X', ⟨g', mk, t, L, e1, e2, hq, h1, hL, h2, h3⟩, st⟩ | ⟨q, vm₁, ⟨U', l2, c2, s2⟩, hW₁, X', ⟨g', mk, t, L, E, ce, e1, e2, hq, hce, hcv, hcl, h1, hL, h2, h3⟩, st⟩
  · dsimp only [Pt.U, Pt.locs, Pt.cells, Pt.slots] at X' e1 e2 h1 h2 h3 st
    subst h1; subst h2; subst h3
    exact Or.inl ⟨v, (T.setVm vm₁).calling g' mk (Value.ref b :: As).toArray, t, U', L, hT, X', hL, e1, e2, hq, st⟩
  · dsimp only [Pt.U, Pt.locs, Pt.cells, Pt.slots] at X' e1 e2 h1 h2 h3 st hcl
    subst h1; subst h2; subst h3
    exact Or.inr ⟨q, (T.setVm vm₁).calling g' mk (Value.ref b :: As).toArray, t, U', L, E, ce, hT, X', hL, e1, e2, hq, hce, hcv, vx_cls hW₁ hcl, st⟩
theorem vx_runSX {hh : List (Nat × Nat × Nat × Nat)} (S : CallFix p m c cc nL s args Ts own) (hM : vx_Met l y ws rm Pc Qc XC mc ms free) (cw : vx_CSW R s args own index y bytes maxL ret hh ws rm mc ms n) (hp : PreS s H Pc As)
    (hg : g.method = m) (hn : As.length = n) (hsize : g.locals.size = nL) (hstack : g.stack = As.reverse ++ rest) (hW : 2 * g.monitorRoom + (rest.map fun v => v.category).sum ≤ 8) (hdg : decode cc g.pc = .ok (.invokestatic index, 3)) (hf : cells + mc ≤ R.cells ∧ slots + ms ≤ R.slots) :
    vx_Run p l e R s m args below meth c H locs cells slots mc ms g rest (Qc As.toArray) XC free := by
  obtain ⟨⟨hrc, hrs, hfr, hlo, hws, hcw⟩, hcode, hini, hy, hlen, hl, hstt⟩ := cw
  have hK : vx_Back l R p e below s args y 3 8 (PreOf R mc ms Pc) (PostOf Qc mc ms free) (vx_Post XC mc ms free) := vx_backW (hh := hh) (bytes := bytes) (maxL := maxL) (ret := ret) hM hp.1 hrc hrs hfr hlo hws hcw (fun a' U hW => word_at hW (Or.inl (by first | rfl | simp [Cond.onTables, Cond.keeps, Cond.steady])) hini)
  obtain ⟨hx, hb, hml, ho, -⟩ := S
  intro T hT X
  rcases vx_callSX X hx (hh := hh) (bytes := bytes) (maxL := maxL) (ret := ret) ho hl hstt hini hcode hy hK hg (hsize.trans hml.symm) (argsL := As) (rest := rest) (fun sig h => hn.trans (hlen sig h)) hstack hW (by rw [hb]; exact hdg)
    (fun vm₁ hW₁ => ⟨hf.1, hf.2, hp.2 (T.setVm vm₁) hT hW₁⟩) with ⟨v, vm₁, ⟨U', l2, c2, s2⟩, hW₁, X', ⟨g', mk, t, L, e1, e2, hq, h1, hL, h2, h3⟩, st⟩ | ⟨q, vm₁, ⟨U', l2, c2, s2⟩, hW₁, X', ⟨g', mk, t, L, E, ce, e1, e2, hq, hce, hcv, hcl, h1, hL, h2, h3⟩, st⟩
  · dsimp only [Pt.U, Pt.locs, Pt.cells, Pt.slots] at X' e1 e2 h1 h2 h3 st
    subst h1; subst h2; subst h3
    exact Or.inl ⟨v, (T.setVm vm₁).calling g' mk As.toArray, t, U', L, hT, X', hL, e1, e2, hq, st⟩
  · dsimp only [Pt.U, Pt.locs, Pt.cells, Pt.slots] at X' e1 e2 h1 h2 h3 st hcl
    subst h1; subst h2; subst h3
    exact Or.inr ⟨q, (T.setVm vm₁).calling g' mk As.toArray, t, U', L, E, ce, hT, X', hL, e1, e2, hq, hce, hcv, vx_cls hW₁ hcl, st⟩
end
end VXH
theorem vx_ofWH {l : Launch} {y : MethodName} {ws ws' : List Cond} {rm : Room} {Pc : Array Value → State → Prop} {Qc : Array Value → State → Outcome → State → Prop} {XC : String → State → State → Prop} {mc ms : Nat} {free : Addr → Prop} {cc : ByteArray} {maxL : Nat} {ret : Option FieldType} {hh : List (Nat × Nat × Nat × Nat)}
    (hy : plainName y.cls = true) (hw : ws = Cond.codeWith y cc maxL ret hh :: ws')
    (body : ∀ p e s m args below meth c s₁, BodyLoose p l y (headSpec ws rm) cc maxL ret e s m args below meth c s₁ → c.maxLocals = maxL → Pc args s →
      W p l e (headSpec ws rm).room s m args below meth c s.heap [] 0 0 (vx_MQ below Qc XC args s mc ms free) (entryFrame m args maxL)) : vx_Met l y ws rm Pc Qc XC mc ms free := by
  refine MetFree.of_bodyS (code := cc) (maxLocals := maxL) (ret := ret) hy ?_ ?_
  · intro args s m h hn
    obtain ⟨m9, meth, c, hn9, h1, h2, h3, h4, -, h5, h6, -⟩ := Cond.codeWith_spec (atoms_spec (ws := ws) h _ (by rw [hw]; exact List.mem_cons_self))
    cases hn.symm.trans hn9
    exact ⟨meth, c, h1, h2, h3, h4, h5, h6⟩
  · intro p e s m args below meth c s₁ B hml hP _
    have hh0 : s₁.heap = s.heap := by rw [B.state]; rfl
    obtain ⟨t, a1, o, b1, b2, b3⟩ := body p e s m args below meth c s₁ B hml hP s₁ hh0 (Stand.of_body B)
    exact ⟨t, o, a1, b1, b2, b3⟩
/-! ===== END ===== -/
end
section
/-! ===== BEGIN printed: names, fields, word lists, decode rows ===== -/
def RX0 : String := "ClayAccounts$Fragment"
def TX0 : u_T := fun k => match k with
  | 0 => ("ClayAccounts$Fragment", "text", "LClayAccounts$Text;", true)
  | 1 => ("ClayAccounts$Fragment", "left", "I", false)
  | 2 => ("ClayAccounts$Fragment", "right", "I", false)
  | _ => ("ClayAccounts$Fragment", "rowCount", "I", false)
def tyX0 : Nat → FieldType := fun k => match k with
  | 0 => .object "ClayAccounts$Text"
  | 1 => .int
  | 2 => .int
  | _ => .int
abbrev wsX00 : List Cond := u_ws RX0 TX0 4
theorem nmX0 : ∀ a, a < 4 → ∀ b, b < 4 → a ≠ b → (TX0 a).2.1 ≠ (TX0 b).2.1 := by decide +kernel
theorem tyX0_ok : ∀ k, k < 4 → parseFieldDescriptor (TX0 k).2.2.1 = some (tyX0 k) := by decide +kernel
abbrev cX0_init : ByteArray := prog_2_method_1_code
def yX0_init : MethodName := ⟨RX0, "<init>", "()V"⟩
abbrev cX0_take : ByteArray := prog_2_method_2_code
def yX0_take : MethodName := ⟨RX0, "take", "(LClayAccounts$Text;II)V"⟩
abbrev cX0_goesLeftOf : ByteArray := prog_2_method_3_code
def yX0_goesLeftOf : MethodName := ⟨RX0, "goesLeftOf", "(LClayAccounts$Fragment;)Z"⟩
abbrev cX0_sayWith : ByteArray := prog_2_method_4_code
def yX0_sayWith : MethodName := ⟨RX0, "sayWith", "(LClayAccounts$Fragment;LClayAccounts$Text;)V"⟩
abbrev cX0_sayRow : ByteArray := prog_2_method_5_code
def yX0_sayRow : MethodName := ⟨RX0, "sayRow", "(ILClayAccounts$Text;)I"⟩
def RX1 : String := "ClayAccounts$Hole"
def TX1 : u_T := fun k => match k with
  | 0 => ("ClayAccounts$Hole", "line", "I", false)
  | 1 => ("ClayAccounts$Hole", "scale", "I", false)
  | 2 => ("ClayAccounts$Hole", "weight", "I", false)
  | 3 => ("ClayAccounts$Hole", "leastDigit", "I", false)
  | 4 => ("ClayAccounts$Hole", "room", "I", false)
  | 5 => ("ClayAccounts$Hole", "isBehindHole", "Z", false)
  | _ => ("ClayAccounts$Hole", "sureDigit", "I", false)
def tyX1 : Nat → FieldType := fun k => match k with
  | 0 => .int
  | 1 => .int
  | 2 => .int
  | 3 => .int
  | 4 => .int
  | 5 => .boolean
  | _ => .int
abbrev wsX10 : List Cond := u_ws RX1 TX1 7
theorem nmX1 : ∀ a, a < 7 → ∀ b, b < 7 → a ≠ b → (TX1 a).2.1 ≠ (TX1 b).2.1 := by decide +kernel
theorem tyX1_ok : ∀ k, k < 7 → parseFieldDescriptor (TX1 k).2.2.1 = some (tyX1 k) := by decide +kernel
abbrev cX1_init : ByteArray := prog_3_method_1_code
def yX1_init : MethodName := ⟨RX1, "<init>", "()V"⟩
abbrev cX1_limit : ByteArray := prog_3_method_2_code
def yX1_limit : MethodName := ⟨RX1, "limit", "(IIZ)V"⟩
abbrev cX1_noteDigit : ByteArray := prog_3_method_3_code
def yX1_noteDigit : MethodName := ⟨RX1, "noteDigit", "(I)V"⟩
def RX2 : String := "ClayAccounts$Line"
def TX2 : u_T := fun k => match k with
  | 0 => ("ClayAccounts$Line", "kind", "I", false)
  | 1 => ("ClayAccounts$Line", "system", "I", false)
  | 2 => ("ClayAccounts$Line", "holeCount", "I", false)
  | 3 => ("ClayAccounts$Line", "value", "I", false)
  | 4 => ("ClayAccounts$Line", "least", "I", false)
  | _ => ("ClayAccounts$Line", "greatest", "I", false)
def tyX2 : Nat → FieldType := fun k => match k with
  | 0 => .int
  | 1 => .int
  | 2 => .int
  | 3 => .int
  | 4 => .int
  | _ => .int
abbrev wsX20 : List Cond := u_ws RX2 TX2 6
theorem nmX2 : ∀ a, a < 6 → ∀ b, b < 6 → a ≠ b → (TX2 a).2.1 ≠ (TX2 b).2.1 := by decide +kernel
theorem tyX2_ok : ∀ k, k < 6 → parseFieldDescriptor (TX2 k).2.2.1 = some (tyX2 k) := by decide +kernel
abbrev cX2_init : ByteArray := prog_4_method_1_code
def yX2_init : MethodName := ⟨RX2, "<init>", "()V"⟩
abbrev cX2_begin : ByteArray := prog_4_method_2_code
def yX2_begin : MethodName := ⟨RX2, "begin", "(I)V"⟩
abbrev cX2_noteValue : ByteArray := prog_4_method_3_code
def yX2_noteValue : MethodName := ⟨RX2, "noteValue", "(I)V"⟩
abbrev cX2_valueBound : ByteArray := prog_4_method_4_code
def yX2_valueBound : MethodName := ⟨RX2, "valueBound", "(Z)I"⟩
def RX3 : String := "ClayAccounts$Matcher"
def TX3 : u_T := fun k => match k with
  | 0 => ("ClayAccounts$Matcher", "partners", "[I", true)
  | 1 => ("ClayAccounts$Matcher", "pairCount", "I", false)
  | 2 => ("ClayAccounts$Matcher", "sureCount", "I", false)
  | 3 => ("ClayAccounts$Matcher", "weights", "[I", true)
  | _ => ("ClayAccounts$Matcher", "best", "[I", true)
def tyX3 : Nat → FieldType := fun k => match k with
  | 0 => .array .int
  | 1 => .int
  | 2 => .int
  | 3 => .array .int
  | _ => .array .int
abbrev wsX30 : List Cond := u_ws RX3 TX3 5
theorem nmX3 : ∀ a, a < 5 → ∀ b, b < 5 → a ≠ b → (TX3 a).2.1 ≠ (TX3 b).2.1 := by decide +kernel
theorem tyX3_ok : ∀ k, k < 5 → parseFieldDescriptor (TX3 k).2.2.1 = some (tyX3 k) := by decide +kernel
abbrev cX3_init : ByteArray := prog_5_method_1_code
def yX3_init : MethodName := ⟨RX3, "<init>", "()V"⟩
abbrev cX3_forget : ByteArray := prog_5_method_2_code
def yX3_forget : MethodName := ⟨RX3, "forget", "()V"⟩
abbrev cX3_tell : ByteArray := prog_5_method_3_code
def yX3_tell : MethodName := ⟨RX3, "tell", "(III)V"⟩
abbrev cX3_pairUp : ByteArray := prog_5_method_4_code
def yX3_pairUp : MethodName := ⟨RX3, "pairUp", "(I)V"⟩
abbrev cX3_bestOf : ByteArray := prog_5_method_5_code
def yX3_bestOf : MethodName := ⟨RX3, "bestOf", "(III)I"⟩
abbrev cX3_pairOff : ByteArray := prog_5_method_6_code
def yX3_pairOff : MethodName := ⟨RX3, "pairOff", "(III)I"⟩
def RX4 : String := "ClayAccounts$Solver"
def TX4 : u_T := fun k => match k with
  | 0 => ("ClayAccounts$Solver", "sumCount", "I", false)
  | 1 => ("ClayAccounts$Solver", "off", "[[J", true)
  | 2 => ("ClayAccounts$Solver", "slopes", "[[J", true)
  | 3 => ("ClayAccounts$Solver", "downs", "[[J", true)
  | 4 => ("ClayAccounts$Solver", "ups", "[[J", true)
  | 5 => ("ClayAccounts$Solver", "digits", "[I", true)
  | _ => ("ClayAccounts$Solver", "oneIsEnough", "Z", false)
def tyX4 : Nat → FieldType := fun k => match k with
  | 0 => .int
  | 1 => .array (.array .long)
  | 2 => .array (.array .long)
  | 3 => .array (.array .long)
  | 4 => .array (.array .long)
  | 5 => .array .int
  | _ => .boolean
abbrev wsX40 : List Cond := u_ws RX4 TX4 7
theorem nmX4 : ∀ a, a < 7 → ∀ b, b < 7 → a ≠ b → (TX4 a).2.1 ≠ (TX4 b).2.1 := by decide +kernel
theorem tyX4_ok : ∀ k, k < 7 → parseFieldDescriptor (TX4 k).2.2.1 = some (tyX4 k) := by decide +kernel
abbrev cX4_init : ByteArray := prog_6_method_1_code
def yX4_init : MethodName := ⟨RX4, "<init>", "()V"⟩
abbrev cX4_solve : ByteArray := prog_6_method_2_code
def yX4_solve : MethodName := ⟨RX4, "solve", "(LClayAccounts$Tablet;Z)V"⟩
abbrev cX4_weigh : ByteArray := prog_6_method_3_code
def yX4_weigh : MethodName := ⟨RX4, "weigh", "(LClayAccounts$Tablet;II)V"⟩
abbrev cX4_addPart : ByteArray := prog_6_method_4_code
def yX4_addPart : MethodName := ⟨RX4, "addPart", "(LClayAccounts$Tablet;III)V"⟩
abbrev cX4_measure : ByteArray := prog_6_method_5_code
def yX4_measure : MethodName := ⟨RX4, "measure", "(I)V"⟩
abbrev cX4_missedWith : ByteArray := prog_6_method_6_code
def yX4_missedWith : MethodName := ⟨RX4, "missedWith", "(I)I"⟩
abbrev cX4_isWorthwhile : ByteArray := prog_6_method_7_code
def yX4_isWorthwhile : MethodName := ⟨RX4, "isWorthwhile", "(LClayAccounts$Tablet;I)Z"⟩
abbrev cX4_fill : ByteArray := prog_6_method_8_code
def yX4_fill : MethodName := ⟨RX4, "fill", "(LClayAccounts$Tablet;II)V"⟩
abbrev cX4_noteReading : ByteArray := prog_6_method_9_code
def yX4_noteReading : MethodName := ⟨RX4, "noteReading", "(LClayAccounts$Tablet;)V"⟩
def RX5 : String := "ClayAccounts$Tablet"
def TX5 : u_T := fun k => match k with
  | 0 => ("ClayAccounts$Tablet", "lines", "[LClayAccounts$Line;", true)
  | 1 => ("ClayAccounts$Tablet", "holes", "[LClayAccounts$Hole;", true)
  | 2 => ("ClayAccounts$Tablet", "lineCount", "I", false)
  | 3 => ("ClayAccounts$Tablet", "holeCount", "I", false)
  | 4 => ("ClayAccounts$Tablet", "isSolved", "Z", false)
  | 5 => ("ClayAccounts$Tablet", "readingCount", "I", false)
  | _ => ("ClayAccounts$Tablet", "fewestWrong", "I", false)
def tyX5 : Nat → FieldType := fun k => match k with
  | 0 => .array (.object "ClayAccounts$Line")
  | 1 => .array (.object "ClayAccounts$Hole")
  | 2 => .int
  | 3 => .int
  | 4 => .boolean
  | 5 => .int
  | _ => .int
abbrev wsX50 : List Cond := u_ws RX5 TX5 7
theorem nmX5 : ∀ a, a < 7 → ∀ b, b < 7 → a ≠ b → (TX5 a).2.1 ≠ (TX5 b).2.1 := by decide +kernel
theorem tyX5_ok : ∀ k, k < 7 → parseFieldDescriptor (TX5 k).2.2.1 = some (tyX5 k) := by decide +kernel
abbrev cX5_init : ByteArray := prog_7_method_1_code
def yX5_init : MethodName := ⟨RX5, "<init>", "()V"⟩
abbrev cX5_clear : ByteArray := prog_7_method_2_code
def yX5_clear : MethodName := ⟨RX5, "clear", "()V"⟩
abbrev cX5_isFull : ByteArray := prog_7_method_3_code
def yX5_isFull : MethodName := ⟨RX5, "isFull", "()Z"⟩
abbrev cX5_addLine : ByteArray := prog_7_method_4_code
def yX5_addLine : MethodName := ⟨RX5, "addLine", "(I)V"⟩
abbrev cX5_addKnown : ByteArray := prog_7_method_5_code
def yX5_addKnown : MethodName := ⟨RX5, "addKnown", "(II)V"⟩
abbrev cX5_addHole : ByteArray := prog_7_method_6_code
def yX5_addHole : MethodName := ⟨RX5, "addHole", "(II)LClayAccounts$Hole;"⟩
def RX6 : String := "ClayAccounts$TabletReader"
def TX6 : u_T := fun k => match k with
  | 0 => ("ClayAccounts$TabletReader", "tokens", "LClayAccounts$Tokens;", true)
  | 1 => ("ClayAccounts$TabletReader", "state", "I", false)
  | 2 => ("ClayAccounts$TabletReader", "lineKind", "I", false)
  | 3 => ("ClayAccounts$TabletReader", "isLineTooMany", "Z", false)
  | 4 => ("ClayAccounts$TabletReader", "unitAhead", "I", false)
  | 5 => ("ClayAccounts$TabletReader", "countPlace", "I", false)
  | 6 => ("ClayAccounts$TabletReader", "tens", "I", false)
  | _ => ("ClayAccounts$TabletReader", "ones", "I", false)
def tyX6 : Nat → FieldType := fun k => match k with
  | 0 => .object "ClayAccounts$Tokens"
  | 1 => .int
  | 2 => .int
  | 3 => .boolean
  | 4 => .int
  | 5 => .int
  | 6 => .int
  | _ => .int
abbrev wsX60 : List Cond := u_ws RX6 TX6 8
theorem nmX6 : ∀ a, a < 8 → ∀ b, b < 8 → a ≠ b → (TX6 a).2.1 ≠ (TX6 b).2.1 := by decide +kernel
theorem tyX6_ok : ∀ k, k < 8 → parseFieldDescriptor (TX6 k).2.2.1 = some (tyX6 k) := by decide +kernel
abbrev cX6_init : ByteArray := prog_8_method_1_code
def yX6_init : MethodName := ⟨RX6, "<init>", "()V"⟩
abbrev cX6_read : ByteArray := prog_8_method_2_code
def yX6_read : MethodName := ⟨RX6, "read", "(LClayAccounts$Text;LClayAccounts$Units;LClayAccounts$Tablet;)Z"⟩
abbrev cX6_takeToken : ByteArray := prog_8_method_3_code
def yX6_takeToken : MethodName := ⟨RX6, "takeToken", "(LClayAccounts$Units;LClayAccounts$Tablet;)Z"⟩
abbrev cX6_beginLine : ByteArray := prog_8_method_4_code
def yX6_beginLine : MethodName := ⟨RX6, "beginLine", "(LClayAccounts$Tablet;)Z"⟩
abbrev cX6_takeCount : ByteArray := prog_8_method_5_code
def yX6_takeCount : MethodName := ⟨RX6, "takeCount", "()Z"⟩
abbrev cX6_takeAmount : ByteArray := prog_8_method_6_code
def yX6_takeAmount : MethodName := ⟨RX6, "takeAmount", "(LClayAccounts$Units;LClayAccounts$Tablet;)Z"⟩
abbrev cX6_canCountBe : ByteArray := prog_8_method_7_code
def yX6_canCountBe : MethodName := ⟨RX6, "canCountBe", "(I)Z"⟩
abbrev cX6_brokenDigits : ByteArray := prog_8_method_8_code
def yX6_brokenDigits : MethodName := ⟨RX6, "brokenDigits", "()I"⟩
abbrev cX6_isLesser : ByteArray := prog_8_method_9_code
def yX6_isLesser : MethodName := ⟨RX6, "isLesser", "(II)Z"⟩
abbrev cX6_addAmount : ByteArray := prog_8_method_10_code
def yX6_addAmount : MethodName := ⟨RX6, "addAmount", "(LClayAccounts$Units;ILClayAccounts$Tablet;)V"⟩
abbrev cX6_takeNameOrEnd : ByteArray := prog_8_method_11_code
def yX6_takeNameOrEnd : MethodName := ⟨RX6, "takeNameOrEnd", "(LClayAccounts$Units;)Z"⟩
abbrev cX6_endLine : ByteArray := prog_8_method_12_code
def yX6_endLine : MethodName := ⟨RX6, "endLine", "()Z"⟩
def RX7 : String := "ClayAccounts$Text"
def TX7 : u_T := fun k => match k with
  | 0 => ("ClayAccounts$Text", "bytes", "[B", true)
  | _ => ("ClayAccounts$Text", "size", "I", false)
def tyX7 : Nat → FieldType := fun k => match k with
  | 0 => .array .byte
  | _ => .int
abbrev wsX70 : List Cond := u_ws RX7 TX7 2
theorem nmX7 : ∀ a, a < 2 → ∀ b, b < 2 → a ≠ b → (TX7 a).2.1 ≠ (TX7 b).2.1 := by decide +kernel
theorem tyX7_ok : ∀ k, k < 2 → parseFieldDescriptor (TX7 k).2.2.1 = some (tyX7 k) := by decide +kernel
abbrev cX7_init : ByteArray := prog_9_method_1_code
def yX7_init : MethodName := ⟨RX7, "<init>", "(I)V"⟩
abbrev cX7_clear : ByteArray := prog_9_method_2_code
def yX7_clear : MethodName := ⟨RX7, "clear", "()V"⟩
abbrev cX7_put : ByteArray := prog_9_method_3_code
def yX7_put : MethodName := ⟨RX7, "put", "(I)V"⟩
abbrev cX7_putFour : ByteArray := prog_9_method_4_code
def yX7_putFour : MethodName := ⟨RX7, "putFour", "(I)V"⟩
abbrev cX7_byteAt : ByteArray := prog_9_method_5_code
def yX7_byteAt : MethodName := ⟨RX7, "byteAt", "(I)I"⟩
def RX8 : String := "ClayAccounts$Tokens"
def TX8 : u_T := fun k => match k with
  | 0 => ("ClayAccounts$Tokens", "kind", "I", false)
  | 1 => ("ClayAccounts$Tokens", "place", "I", false)
  | 2 => ("ClayAccounts$Tokens", "name", "J", false)
  | 3 => ("ClayAccounts$Tokens", "tens", "I", false)
  | 4 => ("ClayAccounts$Tokens", "ones", "I", false)
  | 5 => ("ClayAccounts$Tokens", "fault", "I", false)
  | 6 => ("ClayAccounts$Tokens", "faultPlace", "I", false)
  | 7 => ("ClayAccounts$Tokens", "text", "LClayAccounts$Text;", false)
  | 8 => ("ClayAccounts$Tokens", "most", "I", false)
  | 9 => ("ClayAccounts$Tokens", "withBroken", "Z", false)
  | _ => ("ClayAccounts$Tokens", "at", "I", false)
def tyX8 : Nat → FieldType := fun k => match k with
  | 0 => .int
  | 1 => .int
  | 2 => .long
  | 3 => .int
  | 4 => .int
  | 5 => .int
  | 6 => .int
  | 7 => .object "ClayAccounts$Text"
  | 8 => .int
  | 9 => .boolean
  | _ => .int
abbrev wsX80 : List Cond := u_ws RX8 TX8 11
theorem nmX8 : ∀ a, a < 11 → ∀ b, b < 11 → a ≠ b → (TX8 a).2.1 ≠ (TX8 b).2.1 := by decide +kernel
theorem tyX8_ok : ∀ k, k < 11 → parseFieldDescriptor (TX8 k).2.2.1 = some (tyX8 k) := by decide +kernel
abbrev cX8_init : ByteArray := prog_10_method_1_code
def yX8_init : MethodName := ⟨RX8, "<init>", "()V"⟩
abbrev cX8_begin : ByteArray := prog_10_method_2_code
def yX8_begin : MethodName := ⟨RX8, "begin", "(LClayAccounts$Text;IZ)V"⟩
abbrev cX8_refuse : ByteArray := prog_10_method_3_code
def yX8_refuse : MethodName := ⟨RX8, "refuse", "(II)Z"⟩
abbrev cX8_demand : ByteArray := prog_10_method_4_code
def yX8_demand : MethodName := ⟨RX8, "demand", "(I)Z"⟩
abbrev cX8_endsWell : ByteArray := prog_10_method_5_code
def yX8_endsWell : MethodName := ⟨RX8, "endsWell", "(I)Z"⟩
abbrev cX8_advance : ByteArray := prog_10_method_6_code
def yX8_advance : MethodName := ⟨RX8, "advance", "()V"⟩
abbrev cX8_number : ByteArray := prog_10_method_7_code
def yX8_number : MethodName := ⟨RX8, "number", "()I"⟩
abbrev cX8_takeName : ByteArray := prog_10_method_8_code
def yX8_takeName : MethodName := ⟨RX8, "takeName", "()V"⟩
abbrev cX8_kindOfName : ByteArray := prog_10_method_9_code
def yX8_kindOfName : MethodName := ⟨RX8, "kindOfName", "()I"⟩
abbrev cX8_takeNumber : ByteArray := prog_10_method_10_code
def yX8_takeNumber : MethodName := ⟨RX8, "takeNumber", "()V"⟩
abbrev cX8_takeSign : ByteArray := prog_10_method_11_code
def yX8_takeSign : MethodName := ⟨RX8, "takeSign", "(I)V"⟩
abbrev cX8_isDigit : ByteArray := prog_10_method_12_code
def yX8_isDigit : MethodName := ⟨RX8, "isDigit", "(I)Z"⟩
abbrev cX8_isSmallLetter : ByteArray := prog_10_method_13_code
def yX8_isSmallLetter : MethodName := ⟨RX8, "isSmallLetter", "(I)Z"⟩
abbrev cX8_isBlank : ByteArray := prog_10_method_14_code
def yX8_isBlank : MethodName := ⟨RX8, "isBlank", "(I)Z"⟩
def RX9 : String := "ClayAccounts$Units"
def TX9 : u_T := fun k => match k with
  | 0 => ("ClayAccounts$Units", "systemNames", "[J", true)
  | 1 => ("ClayAccounts$Units", "unitCounts", "[I", true)
  | 2 => ("ClayAccounts$Units", "names", "[J", true)
  | 3 => ("ClayAccounts$Units", "factors", "[I", true)
  | 4 => ("ClayAccounts$Units", "worths", "[I", true)
  | 5 => ("ClayAccounts$Units", "mosts", "[I", true)
  | _ => ("ClayAccounts$Units", "systemCount", "I", false)
def tyX9 : Nat → FieldType := fun k => match k with
  | 0 => .array .long
  | 1 => .array .int
  | 2 => .array .long
  | 3 => .array .int
  | 4 => .array .int
  | 5 => .array .int
  | _ => .int
abbrev wsX90 : List Cond := u_ws RX9 TX9 7
theorem nmX9 : ∀ a, a < 7 → ∀ b, b < 7 → a ≠ b → (TX9 a).2.1 ≠ (TX9 b).2.1 := by decide +kernel
theorem tyX9_ok : ∀ k, k < 7 → parseFieldDescriptor (TX9 k).2.2.1 = some (tyX9 k) := by decide +kernel
abbrev cX9_init : ByteArray := prog_11_method_1_code
def yX9_init : MethodName := ⟨RX9, "<init>", "()V"⟩
abbrev cX9_slot : ByteArray := prog_11_method_2_code
def yX9_slot : MethodName := ⟨RX9, "slot", "(II)I"⟩
abbrev cX9_systemOf : ByteArray := prog_11_method_3_code
def yX9_systemOf : MethodName := ⟨RX9, "systemOf", "(I)I"⟩
abbrev cX9_clear : ByteArray := prog_11_method_4_code
def yX9_clear : MethodName := ⟨RX9, "clear", "()V"⟩
abbrev cX9_addSystem : ByteArray := prog_11_method_5_code
def yX9_addSystem : MethodName := ⟨RX9, "addSystem", "(J)V"⟩
abbrev cX9_isFull : ByteArray := prog_11_method_6_code
def yX9_isFull : MethodName := ⟨RX9, "isFull", "()Z"⟩
abbrev cX9_addUnit : ByteArray := prog_11_method_7_code
def yX9_addUnit : MethodName := ⟨RX9, "addUnit", "(JI)V"⟩
abbrev cX9_find : ByteArray := prog_11_method_8_code
def yX9_find : MethodName := ⟨RX9, "find", "(J)I"⟩
abbrev cX9_isTaken : ByteArray := prog_11_method_9_code
def yX9_isTaken : MethodName := ⟨RX9, "isTaken", "(J)Z"⟩
abbrev cX9_canWrite : ByteArray := prog_11_method_10_code
def yX9_canWrite : MethodName := ⟨RX9, "canWrite", "(II)Z"⟩
abbrev cX9_writeTo : ByteArray := prog_11_method_11_code
def yX9_writeTo : MethodName := ⟨RX9, "writeTo", "(LClayAccounts$Text;II)V"⟩
abbrev cX9_writeAmount : ByteArray := prog_11_method_12_code
def yX9_writeAmount : MethodName := ⟨RX9, "writeAmount", "(LClayAccounts$Text;IJ)V"⟩
def RX10 : String := "ClayAccounts$UnitsReader"
def TX10 : u_T := fun k => match k with
  | 0 => ("ClayAccounts$UnitsReader", "tokens", "LClayAccounts$Tokens;", true)
  | 1 => ("ClayAccounts$UnitsReader", "state", "I", false)
  | _ => ("ClayAccounts$UnitsReader", "factor", "I", false)
def tyX10 : Nat → FieldType := fun k => match k with
  | 0 => .object "ClayAccounts$Tokens"
  | 1 => .int
  | _ => .int
abbrev wsX100 : List Cond := u_ws RX10 TX10 3
theorem nmX10 : ∀ a, a < 3 → ∀ b, b < 3 → a ≠ b → (TX10 a).2.1 ≠ (TX10 b).2.1 := by decide +kernel
theorem tyX10_ok : ∀ k, k < 3 → parseFieldDescriptor (TX10 k).2.2.1 = some (tyX10 k) := by decide +kernel
abbrev cX10_init : ByteArray := prog_12_method_1_code
def yX10_init : MethodName := ⟨RX10, "<init>", "()V"⟩
abbrev cX10_read : ByteArray := prog_12_method_2_code
def yX10_read : MethodName := ⟨RX10, "read", "(LClayAccounts$Text;LClayAccounts$Units;)Z"⟩
abbrev cX10_takeToken : ByteArray := prog_12_method_3_code
def yX10_takeToken : MethodName := ⟨RX10, "takeToken", "(LClayAccounts$Units;)Z"⟩
abbrev cX10_beginSystem : ByteArray := prog_12_method_4_code
def yX10_beginSystem : MethodName := ⟨RX10, "beginSystem", "(LClayAccounts$Units;)Z"⟩
abbrev cX10_takeSystemName : ByteArray := prog_12_method_5_code
def yX10_takeSystemName : MethodName := ⟨RX10, "takeSystemName", "(LClayAccounts$Units;)Z"⟩
abbrev cX10_takeUnitName : ByteArray := prog_12_method_6_code
def yX10_takeUnitName : MethodName := ⟨RX10, "takeUnitName", "(LClayAccounts$Units;)Z"⟩
abbrev cX10_isNewName : ByteArray := prog_12_method_7_code
def yX10_isNewName : MethodName := ⟨RX10, "isNewName", "(LClayAccounts$Units;)Z"⟩
abbrev cX10_takeFactor : ByteArray := prog_12_method_8_code
def yX10_takeFactor : MethodName := ⟨RX10, "takeFactor", "(LClayAccounts$Units;)Z"⟩
abbrev cX10_endSystem : ByteArray := prog_12_method_9_code
def yX10_endSystem : MethodName := ⟨RX10, "endSystem", "()Z"⟩
def RX11 : String := "ClayAccounts"
def TX11 : u_T := fun k => match k with
  | 0 => ("ClayAccounts", "tape", "LClayAccounts$Text;", true)
  | 1 => ("ClayAccounts", "out", "LClayAccounts$Text;", true)
  | 2 => ("ClayAccounts", "said", "LClayAccounts$Text;", true)
  | 3 => ("ClayAccounts", "unitsReader", "LClayAccounts$UnitsReader;", true)
  | 4 => ("ClayAccounts", "tabletReader", "LClayAccounts$TabletReader;", true)
  | 5 => ("ClayAccounts", "solver", "LClayAccounts$Solver;", true)
  | 6 => ("ClayAccounts", "matcher", "LClayAccounts$Matcher;", true)
  | 7 => ("ClayAccounts", "tablets", "[LClayAccounts$Tablet;", true)
  | 8 => ("ClayAccounts", "joinedTablet", "LClayAccounts$Tablet;", true)
  | 9 => ("ClayAccounts", "fragments", "[LClayAccounts$Fragment;", true)
  | 10 => ("ClayAccounts", "joins", "[I", true)
  | 11 => ("ClayAccounts", "units", "LClayAccounts$Units;", false)
  | 12 => ("ClayAccounts", "spareUnits", "LClayAccounts$Units;", false)
  | 13 => ("ClayAccounts", "tabletCount", "I", false)
  | 14 => ("ClayAccounts", "fragmentCount", "I", false)
  | _ => ("ClayAccounts", "faultKind", "I", false)
def tyX11 : Nat → FieldType := fun k => match k with
  | 0 => .object "ClayAccounts$Text"
  | 1 => .object "ClayAccounts$Text"
  | 2 => .object "ClayAccounts$Text"
  | 3 => .object "ClayAccounts$UnitsReader"
  | 4 => .object "ClayAccounts$TabletReader"
  | 5 => .object "ClayAccounts$Solver"
  | 6 => .object "ClayAccounts$Matcher"
  | 7 => .array (.object "ClayAccounts$Tablet")
  | 8 => .object "ClayAccounts$Tablet"
  | 9 => .array (.object "ClayAccounts$Fragment")
  | 10 => .array .int
  | 11 => .object "ClayAccounts$Units"
  | 12 => .object "ClayAccounts$Units"
  | 13 => .int
  | 14 => .int
  | _ => .int
abbrev wsX110 : List Cond := u_ws RX11 TX11 16
theorem nmX11 : ∀ a, a < 16 → ∀ b, b < 16 → a ≠ b → (TX11 a).2.1 ≠ (TX11 b).2.1 := by decide +kernel
theorem tyX11_ok : ∀ k, k < 16 → parseFieldDescriptor (TX11 k).2.2.1 = some (tyX11 k) := by decide +kernel
abbrev cX11_init : ByteArray := prog_1_method_1_code
def yX11_init : MethodName := ⟨RX11, "<init>", "()V"⟩
abbrev cX11_feed : ByteArray := prog_1_method_2_code
def yX11_feed : MethodName := ⟨RX11, "feed", "(IIIII)I"⟩
abbrev cX11_end : ByteArray := prog_1_method_3_code
def yX11_end : MethodName := ⟨RX11, "end", "(I)Z"⟩
abbrev cX11_systems : ByteArray := prog_1_method_4_code
def yX11_systems : MethodName := ⟨RX11, "systems", "()I"⟩
abbrev cX11_fault : ByteArray := prog_1_method_5_code
def yX11_fault : MethodName := ⟨RX11, "fault", "()I"⟩
abbrev cX11_system : ByteArray := prog_1_method_6_code
def yX11_system : MethodName := ⟨RX11, "system", "(II)I"⟩
abbrev cX11_write : ByteArray := prog_1_method_7_code
def yX11_write : MethodName := ⟨RX11, "write", "(II)I"⟩
abbrev cX11_octet : ByteArray := prog_1_method_8_code
def yX11_octet : MethodName := ⟨RX11, "octet", "(I)I"⟩
abbrev cX11_tablet : ByteArray := prog_1_method_9_code
def yX11_tablet : MethodName := ⟨RX11, "tablet", "()I"⟩
abbrev cX11_line : ByteArray := prog_1_method_10_code
def yX11_line : MethodName := ⟨RX11, "line", "(III)I"⟩
abbrev cX11_lines : ByteArray := prog_1_method_11_code
def yX11_lines : MethodName := ⟨RX11, "lines", "(I)I"⟩
abbrev cX11_readings : ByteArray := prog_1_method_12_code
def yX11_readings : MethodName := ⟨RX11, "readings", "(I)I"⟩
abbrev cX11_bound : ByteArray := prog_1_method_13_code
def yX11_bound : MethodName := ⟨RX11, "bound", "(IIZ)I"⟩
abbrev cX11_digit : ByteArray := prog_1_method_14_code
def yX11_digit : MethodName := ⟨RX11, "digit", "(II)I"⟩
abbrev cX11_wrong : ByteArray := prog_1_method_15_code
def yX11_wrong : MethodName := ⟨RX11, "wrong", "(I)I"⟩
abbrev cX11_fragment : ByteArray := prog_1_method_16_code
def yX11_fragment : MethodName := ⟨RX11, "fragment", "(II)I"⟩
abbrev cX11_rows : ByteArray := prog_1_method_17_code
def yX11_rows : MethodName := ⟨RX11, "rows", "(I)I"⟩
abbrev cX11_join : ByteArray := prog_1_method_18_code
def yX11_join : MethodName := ⟨RX11, "join", "(II)I"⟩
abbrev cX11_match : ByteArray := prog_1_method_19_code
def yX11_match : MethodName := ⟨RX11, "match", "()I"⟩
abbrev cX11_matched : ByteArray := prog_1_method_20_code
def yX11_matched : MethodName := ⟨RX11, "matched", "(I)I"⟩
abbrev cX11_count : ByteArray := prog_1_method_21_code
def yX11_count : MethodName := ⟨RX11, "count", "(I)I"⟩
abbrev cX11_isSystem : ByteArray := prog_1_method_22_code
def yX11_isSystem : MethodName := ⟨RX11, "isSystem", "(I)Z"⟩
abbrev cX11_isTablet : ByteArray := prog_1_method_23_code
def yX11_isTablet : MethodName := ⟨RX11, "isTablet", "(I)Z"⟩
abbrev cX11_isLine : ByteArray := prog_1_method_24_code
def yX11_isLine : MethodName := ⟨RX11, "isLine", "(II)Z"⟩
abbrev cX11_isFragment : ByteArray := prog_1_method_25_code
def yX11_isFragment : MethodName := ⟨RX11, "isFragment", "(I)Z"⟩
abbrev cX11_isEdge : ByteArray := prog_1_method_26_code
def yX11_isEdge : MethodName := ⟨RX11, "isEdge", "(I)Z"⟩
abbrev cX11_solved : ByteArray := prog_1_method_27_code
def yX11_solved : MethodName := ⟨RX11, "solved", "(I)LClayAccounts$Tablet;"⟩
abbrev cX11_joined : ByteArray := prog_1_method_28_code
def yX11_joined : MethodName := ⟨RX11, "joined", "(II)I"⟩
def RX12 : String := "ClayAccountsModel"
def TX12 : u_T := fun k => match k with
  | 0 => ("ClayAccountsModel", "thrown", "I", false)
  | 1 => ("ClayAccountsModel", "tape", "[I", true)
  | 2 => ("ClayAccountsModel", "taped", "I", false)
  | 3 => ("ClayAccountsModel", "text", "[I", true)
  | 4 => ("ClayAccountsModel", "size", "I", false)
  | 5 => ("ClayAccountsModel", "most", "I", false)
  | 6 => ("ClayAccountsModel", "to", "I", false)
  | 7 => ("ClayAccountsModel", "from", "I", false)
  | 8 => ("ClayAccountsModel", "kind", "I", false)
  | 9 => ("ClayAccountsModel", "sign", "I", false)
  | 10 => ("ClayAccountsModel", "broken", "Z", false)
  | 11 => ("ClayAccountsModel", "name", "J", false)
  | 12 => ("ClayAccountsModel", "first", "I", false)
  | 13 => ("ClayAccountsModel", "second", "I", false)
  | 14 => ("ClayAccountsModel", "fault", "I", false)
  | 15 => ("ClayAccountsModel", "place", "I", false)
  | 16 => ("ClayAccountsModel", "systemName", "[J", true)
  | 17 => ("ClayAccountsModel", "unitName", "[J", true)
  | 18 => ("ClayAccountsModel", "units", "[I", true)
  | 19 => ("ClayAccountsModel", "factor", "[I", true)
  | 20 => ("ClayAccountsModel", "systems", "I", false)
  | 21 => ("ClayAccountsModel", "out", "[I", true)
  | 22 => ("ClayAccountsModel", "outs", "I", false)
  | 23 => ("ClayAccountsModel", "lineMany", "[I", true)
  | 24 => ("ClayAccountsModel", "lineKind", "[I", true)
  | 25 => ("ClayAccountsModel", "lineSystem", "[I", true)
  | 26 => ("ClayAccountsModel", "amounts", "[I", true)
  | 27 => ("ClayAccountsModel", "asked", "[I", true)
  | 28 => ("ClayAccountsModel", "digit1", "[I", true)
  | 29 => ("ClayAccountsModel", "digit2", "[I", true)
  | 30 => ("ClayAccountsModel", "unitOf", "[I", true)
  | 31 => ("ClayAccountsModel", "tablets", "I", false)
  | 32 => ("ClayAccountsModel", "unitSystem", "I", false)
  | 33 => ("ClayAccountsModel", "unitNumber", "I", false)
  | 34 => ("ClayAccountsModel", "filled", "[I", true)
  | 35 => ("ClayAccountsModel", "value", "[J", true)
  | 36 => ("ClayAccountsModel", "found", "I", false)
  | 37 => ("ClayAccountsModel", "digitOfAll", "I", false)
  | 38 => ("ClayAccountsModel", "least", "J", false)
  | 39 => ("ClayAccountsModel", "greatest", "J", false)
  | 40 => ("ClayAccountsModel", "letters", "[I", true)
  | 41 => ("ClayAccountsModel", "fragmentLong", "[I", true)
  | 42 => ("ClayAccountsModel", "leftEdge", "[I", true)
  | 43 => ("ClayAccountsModel", "rightEdge", "[I", true)
  | 44 => ("ClayAccountsModel", "rowMany", "[I", true)
  | 45 => ("ClayAccountsModel", "fragments", "I", false)
  | 46 => ("ClayAccountsModel", "pair", "[I", true)
  | 47 => ("ClayAccountsModel", "best", "[I", true)
  | 48 => ("ClayAccountsModel", "mate", "[I", true)
  | 49 => ("ClayAccountsModel", "sure", "I", false)
  | _ => ("ClayAccountsModel", "made", "Z", false)
def tyX12 : Nat → FieldType := fun k => match k with
  | 0 => .int
  | 1 => .array .int
  | 2 => .int
  | 3 => .array .int
  | 4 => .int
  | 5 => .int
  | 6 => .int
  | 7 => .int
  | 8 => .int
  | 9 => .int
  | 10 => .boolean
  | 11 => .long
  | 12 => .int
  | 13 => .int
  | 14 => .int
  | 15 => .int
  | 16 => .array .long
  | 17 => .array .long
  | 18 => .array .int
  | 19 => .array .int
  | 20 => .int
  | 21 => .array .int
  | 22 => .int
  | 23 => .array .int
  | 24 => .array .int
  | 25 => .array .int
  | 26 => .array .int
  | 27 => .array .int
  | 28 => .array .int
  | 29 => .array .int
  | 30 => .array .int
  | 31 => .int
  | 32 => .int
  | 33 => .int
  | 34 => .array .int
  | 35 => .array .long
  | 36 => .int
  | 37 => .int
  | 38 => .long
  | 39 => .long
  | 40 => .array .int
  | 41 => .array .int
  | 42 => .array .int
  | 43 => .array .int
  | 44 => .array .int
  | 45 => .int
  | 46 => .array .int
  | 47 => .array .int
  | 48 => .array .int
  | 49 => .int
  | _ => .boolean
abbrev wsX120 : List Cond := u_ws RX12 TX12 51
theorem nmX12 : ∀ a, a < 51 → ∀ b, b < 51 → a ≠ b → (TX12 a).2.1 ≠ (TX12 b).2.1 := by decide +kernel
theorem tyX12_ok : ∀ k, k < 51 → parseFieldDescriptor (TX12 k).2.2.1 = some (tyX12 k) := by decide +kernel
abbrev cX12_init : ByteArray := prog_14_method_1_code
def yX12_init : MethodName := ⟨RX12, "<init>", "()V"⟩
abbrev cX12_thrown : ByteArray := prog_14_method_2_code
def yX12_thrown : MethodName := ⟨RX12, "thrown", "()I"⟩
abbrev cX12_refuse : ByteArray := prog_14_method_3_code
def yX12_refuse : MethodName := ⟨RX12, "refuse", "()I"⟩
abbrev cX12_come : ByteArray := prog_14_method_4_code
def yX12_come : MethodName := ⟨RX12, "come", "(I)V"⟩
abbrev cX12_feed : ByteArray := prog_14_method_5_code
def yX12_feed : MethodName := ⟨RX12, "feed", "(IIIII)I"⟩
abbrev cX12_end : ByteArray := prog_14_method_6_code
def yX12_end : MethodName := ⟨RX12, "end", "(I)Z"⟩
abbrev cX12_at : ByteArray := prog_14_method_7_code
def yX12_at : MethodName := ⟨RX12, "at", "(I)I"⟩
abbrev cX12_isDigit : ByteArray := prog_14_method_8_code
def yX12_isDigit : MethodName := ⟨RX12, "isDigit", "(I)Z"⟩
abbrev cX12_isLetter : ByteArray := prog_14_method_9_code
def yX12_isLetter : MethodName := ⟨RX12, "isLetter", "(I)Z"⟩
abbrev cX12_isCount : ByteArray := prog_14_method_10_code
def yX12_isCount : MethodName := ⟨RX12, "isCount", "(I)Z"⟩
abbrev cX12_go : ByteArray := prog_14_method_11_code
def yX12_go : MethodName := ⟨RX12, "go", "()V"⟩
abbrev cX12_digitOf : ByteArray := prog_14_method_12_code
def yX12_digitOf : MethodName := ⟨RX12, "digitOf", "(I)I"⟩
abbrev cX12_bad : ByteArray := prog_14_method_13_code
def yX12_bad : MethodName := ⟨RX12, "bad", "(I)Z"⟩
abbrev cX12_badAt : ByteArray := prog_14_method_14_code
def yX12_badAt : MethodName := ⟨RX12, "badAt", "(II)Z"⟩
abbrev cX12_isKey : ByteArray := prog_14_method_16_code
def yX12_isKey : MethodName := ⟨RX12, "isKey", "(J)Z"⟩
abbrev cX12_isFree : ByteArray := prog_14_method_17_code
def yX12_isFree : MethodName := ⟨RX12, "isFree", "()Z"⟩
abbrev cX12_isSign : ByteArray := prog_14_method_18_code
def yX12_isSign : MethodName := ⟨RX12, "isSign", "(I)Z"⟩
abbrev cX12_takes : ByteArray := prog_14_method_19_code
def yX12_takes : MethodName := ⟨RX12, "takes", "(IZ)V"⟩
abbrev cX12_begins : ByteArray := prog_14_method_20_code
def yX12_begins : MethodName := ⟨RX12, "begins", "(IZ)V"⟩
abbrev cX12_isTaken : ByteArray := prog_14_method_21_code
def yX12_isTaken : MethodName := ⟨RX12, "isTaken", "(I)Z"⟩
abbrev cX12_readSystem : ByteArray := prog_14_method_22_code
def yX12_readSystem : MethodName := ⟨RX12, "readSystem", "(I)Z"⟩
abbrev cX12_isFactor : ByteArray := prog_14_method_23_code
def yX12_isFactor : MethodName := ⟨RX12, "isFactor", "()Z"⟩
abbrev cX12_readUnit : ByteArray := prog_14_method_24_code
def yX12_readUnit : MethodName := ⟨RX12, "readUnit", "(I)Z"⟩
abbrev cX12_systems : ByteArray := prog_14_method_25_code
def yX12_systems : MethodName := ⟨RX12, "systems", "()I"⟩
abbrev cX12_fault : ByteArray := prog_14_method_26_code
def yX12_fault : MethodName := ⟨RX12, "fault", "()I"⟩
abbrev cX12_system : ByteArray := prog_14_method_27_code
def yX12_system : MethodName := ⟨RX12, "system", "(II)I"⟩
abbrev cX12_worth : ByteArray := prog_14_method_28_code
def yX12_worth : MethodName := ⟨RX12, "worth", "(II)I"⟩
abbrev cX12_outByte : ByteArray := prog_14_method_29_code
def yX12_outByte : MethodName := ⟨RX12, "outByte", "(I)V"⟩
abbrev cX12_outName : ByteArray := prog_14_method_30_code
def yX12_outName : MethodName := ⟨RX12, "outName", "(J)V"⟩
abbrev cX12_write : ByteArray := prog_14_method_31_code
def yX12_write : MethodName := ⟨RX12, "write", "(II)I"⟩
abbrev cX12_octet : ByteArray := prog_14_method_32_code
def yX12_octet : MethodName := ⟨RX12, "octet", "(I)I"⟩
abbrev cX12_isUnit : ByteArray := prog_14_method_33_code
def yX12_isUnit : MethodName := ⟨RX12, "isUnit", "()Z"⟩
abbrev cX12_mostOf : ByteArray := prog_14_method_34_code
def yX12_mostOf : MethodName := ⟨RX12, "mostOf", "(II)I"⟩
abbrev cX12_isGood : ByteArray := prog_14_method_35_code
def yX12_isGood : MethodName := ⟨RX12, "isGood", "(III)Z"⟩
abbrev cX12_canBe : ByteArray := prog_14_method_36_code
def yX12_canBe : MethodName := ⟨RX12, "canBe", "(III)Z"⟩
abbrev cX12_readAmount : ByteArray := prog_14_method_37_code
def yX12_readAmount : MethodName := ⟨RX12, "readAmount", "(II)Z"⟩
abbrev cX12_readTablet : ByteArray := prog_14_method_38_code
def yX12_readTablet : MethodName := ⟨RX12, "readTablet", "(I)Z"⟩
abbrev cX12_tablet : ByteArray := prog_14_method_39_code
def yX12_tablet : MethodName := ⟨RX12, "tablet", "()I"⟩
abbrev cX12_isTablet : ByteArray := prog_14_method_40_code
def yX12_isTablet : MethodName := ⟨RX12, "isTablet", "(I)Z"⟩
abbrev cX12_isLine : ByteArray := prog_14_method_41_code
def yX12_isLine : MethodName := ⟨RX12, "isLine", "(II)Z"⟩
abbrev cX12_fills : ByteArray := prog_14_method_42_code
def yX12_fills : MethodName := ⟨RX12, "fills", "(II)Z"⟩
abbrev cX12_wrongs : ByteArray := prog_14_method_43_code
def yX12_wrongs : MethodName := ⟨RX12, "wrongs", "(I)I"⟩
abbrev cX12_ways : ByteArray := prog_14_method_44_code
def yX12_ways : MethodName := ⟨RX12, "ways", "(I)I"⟩
abbrev cX12_readAll : ByteArray := prog_14_method_45_code
def yX12_readAll : MethodName := ⟨RX12, "readAll", "(III)V"⟩
abbrev cX12_line : ByteArray := prog_14_method_46_code
def yX12_line : MethodName := ⟨RX12, "line", "(III)I"⟩
abbrev cX12_lines : ByteArray := prog_14_method_47_code
def yX12_lines : MethodName := ⟨RX12, "lines", "(I)I"⟩
abbrev cX12_readings : ByteArray := prog_14_method_48_code
def yX12_readings : MethodName := ⟨RX12, "readings", "(I)I"⟩
abbrev cX12_bound : ByteArray := prog_14_method_49_code
def yX12_bound : MethodName := ⟨RX12, "bound", "(IIZ)I"⟩
abbrev cX12_digit : ByteArray := prog_14_method_50_code
def yX12_digit : MethodName := ⟨RX12, "digit", "(II)I"⟩
abbrev cX12_wrong : ByteArray := prog_14_method_51_code
def yX12_wrong : MethodName := ⟨RX12, "wrong", "(I)I"⟩
abbrev cX12_isEdge : ByteArray := prog_14_method_52_code
def yX12_isEdge : MethodName := ⟨RX12, "isEdge", "(I)Z"⟩
abbrev cX12_fragment : ByteArray := prog_14_method_53_code
def yX12_fragment : MethodName := ⟨RX12, "fragment", "(II)I"⟩
abbrev cX12_isFragment : ByteArray := prog_14_method_54_code
def yX12_isFragment : MethodName := ⟨RX12, "isFragment", "(I)Z"⟩
abbrev cX12_rows : ByteArray := prog_14_method_55_code
def yX12_rows : MethodName := ⟨RX12, "rows", "(I)I"⟩
abbrev cX12_say : ByteArray := prog_14_method_56_code
def yX12_say : MethodName := ⟨RX12, "say", "(I)V"⟩
abbrev cX12_sayRow : ByteArray := prog_14_method_57_code
def yX12_sayRow : MethodName := ⟨RX12, "sayRow", "(II)I"⟩
abbrev cX12_joined : ByteArray := prog_14_method_58_code
def yX12_joined : MethodName := ⟨RX12, "joined", "(II)I"⟩
abbrev cX12_join : ByteArray := prog_14_method_59_code
def yX12_join : MethodName := ⟨RX12, "join", "(II)I"⟩
abbrev cX12_forget : ByteArray := prog_14_method_60_code
def yX12_forget : MethodName := ⟨RX12, "forget", "()V"⟩
abbrev cX12_lowest : ByteArray := prog_14_method_61_code
def yX12_lowest : MethodName := ⟨RX12, "lowest", "(I)I"⟩
abbrev cX12_match : ByteArray := prog_14_method_62_code
def yX12_match : MethodName := ⟨RX12, "match", "()I"⟩
abbrev cX12_matched : ByteArray := prog_14_method_63_code
def yX12_matched : MethodName := ⟨RX12, "matched", "(I)I"⟩
abbrev cX12_count : ByteArray := prog_14_method_64_code
def yX12_count : MethodName := ⟨RX12, "count", "(I)I"⟩
def RJ9 : String := "java/lang/Math"
def TJ9 : u_T := fun k => match k with
  | _ => ("", "", "", false)
def tyJ9 : Nat → FieldType := fun k => match k with
  | _ => .int
abbrev wsJ90 : List Cond := u_ws RJ9 TJ9 0
theorem nmJ9 : ∀ a, a < 0 → ∀ b, b < 0 → a ≠ b → (TJ9 a).2.1 ≠ (TJ9 b).2.1 := by decide +kernel
theorem tyJ9_ok : ∀ k, k < 0 → parseFieldDescriptor (TJ9 k).2.2.1 = some (tyJ9 k) := by decide +kernel
abbrev cJ9_max_7cf53 : ByteArray := prog_16_method_65_code
def yJ9_max_7cf53 : MethodName := ⟨RJ9, "max", "(II)I"⟩
abbrev cJ9_max_f86c9 : ByteArray := prog_16_method_66_code
def yJ9_max_f86c9 : MethodName := ⟨RJ9, "max", "(JJ)J"⟩
abbrev cJ9_min_7cf53 : ByteArray := prog_16_method_69_code
def yJ9_min_7cf53 : MethodName := ⟨RJ9, "min", "(II)I"⟩
abbrev cJ9_min_f86c9 : ByteArray := prog_16_method_70_code
def yJ9_min_f86c9 : MethodName := ⟨RJ9, "min", "(JJ)J"⟩
def RJ0 : String := "java/lang/String"
def TJ0 : u_T := fun k => match k with
  | _ => ("", "", "", false)
def tyJ0 : Nat → FieldType := fun k => match k with
  | _ => .int
abbrev wsJ00 : List Cond := u_ws RJ0 TJ0 0
theorem nmJ0 : ∀ a, a < 0 → ∀ b, b < 0 → a ≠ b → (TJ0 a).2.1 ≠ (TJ0 b).2.1 := by decide +kernel
theorem tyJ0_ok : ∀ k, k < 0 → parseFieldDescriptor (TJ0 k).2.2.1 = some (tyJ0 k) := by decide +kernel
def RJ7 : String := "java/util/Arrays"
def TJ7 : u_T := fun k => match k with
  | _ => ("", "", "", false)
def tyJ7 : Nat → FieldType := fun k => match k with
  | _ => .int
abbrev wsJ70 : List Cond := u_ws RJ7 TJ7 0
theorem nmJ7 : ∀ a, a < 0 → ∀ b, b < 0 → a ≠ b → (TJ7 a).2.1 ≠ (TJ7 b).2.1 := by decide +kernel
theorem tyJ7_ok : ∀ k, k < 0 → parseFieldDescriptor (TJ7 k).2.2.1 = some (tyJ7 k) := by decide +kernel
abbrev cJ7_fill_d0a16 : ByteArray := prog_20_method_101_code
def yJ7_fill_d0a16 : MethodName := ⟨RJ7, "fill", "([JJ)V"⟩
abbrev cJ7_fill_53178 : ByteArray := prog_20_method_103_code
def yJ7_fill_53178 : MethodName := ⟨RJ7, "fill", "([II)V"⟩
def RL : String := "ClayAccountsLaw"
abbrev cL_system : ByteArray := method_3_code
def yL_system : MethodName := ⟨RL, "system", "(LClayAccounts;II[J)I"⟩
abbrev cL_octet : ByteArray := method_4_code
def yL_octet : MethodName := ⟨RL, "octet", "(LClayAccounts;I[J)I"⟩
abbrev cL_line : ByteArray := method_5_code
def yL_line : MethodName := ⟨RL, "line", "(LClayAccounts;III[J)I"⟩
abbrev cL_bound : ByteArray := method_6_code
def yL_bound : MethodName := ⟨RL, "bound", "(LClayAccounts;IIZ[J)I"⟩
abbrev cL_digit : ByteArray := method_7_code
def yL_digit : MethodName := ⟨RL, "digit", "(LClayAccounts;II[J)I"⟩
abbrev cL_law : ByteArray := code
def yL_law : MethodName := ⟨RL, "law", "([I)Z"⟩
def wsX7_init : List Cond := .code yX7_init cX7_init 2 none :: ([.methodLink RX7 3 objectInit, .instanceMethod objectInit, .code objectInit ⟨#[0xb1]⟩ 1 none, .methodLink RX7 9 Lib.Math.max.name, .static Lib.Math.max.name, .initialized "java/lang/Math", .code Lib.Math.max.name Lib.Math.max.code 2 (some .int), .arrayClass .byte, .fieldLink RX7 15 "ClayAccounts$Text" "bytes" "[B", .fieldLink RX7 21 "ClayAccounts$Text" "size" "I"] ++ wsX70)
def wsX0_init : List Cond := .code yX0_init cX0_init 1 none :: ([.methodLink RX0 3 objectInit, .instanceMethod objectInit, .code objectInit ⟨#[0xb1]⟩ 1 none, .classLink RX0 9 RX7, .instantiable RX7 2, .initialized RX7, .fieldLink RX0 14 "ClayAccounts$Fragment" "text" "LClayAccounts$Text;", .methodLink RX0 11 yX7_init, .instanceMethod yX7_init, .code yX7_init cX7_init 2 none, .methodLink RX7 3 objectInit, .methodLink RX7 9 Lib.Math.max.name, .static Lib.Math.max.name, .initialized "java/lang/Math", .code Lib.Math.max.name Lib.Math.max.code 2 (some .int), .arrayClass .byte, .fieldLink RX7 15 "ClayAccounts$Text" "bytes" "[B", .fieldLink RX7 21 "ClayAccounts$Text" "size" "I"] ++ wsX70 ++ wsX00)
def wsX7_clear : List Cond := .code yX7_clear cX7_clear 1 none :: ([.fieldLink RX7 21 "ClayAccounts$Text" "size" "I"] ++ wsX70)
def wsX7_byteAt : List Cond := .code yX7_byteAt cX7_byteAt 2 (some .int) :: ([.fieldLink RX7 21 "ClayAccounts$Text" "size" "I", .fieldLink RX7 15 "ClayAccounts$Text" "bytes" "[B"] ++ wsX70)
def wsX7_put : List Cond := .code yX7_put cX7_put 2 none :: ([.fieldLink RX7 21 "ClayAccounts$Text" "size" "I", .fieldLink RX7 15 "ClayAccounts$Text" "bytes" "[B"] ++ wsX70)
def wsX0_take : List Cond := .code yX0_take cX0_take 6 none :: ([.fieldLink RX0 14 "ClayAccounts$Fragment" "text" "LClayAccounts$Text;", .fieldLink RX0 23 "ClayAccounts$Fragment" "rowCount" "I", .fieldLink RX0 27 "ClayAccounts$Text" "size" "I", .fieldLink RX0 37 "ClayAccounts$Fragment" "left" "I", .fieldLink RX0 40 "ClayAccounts$Fragment" "right" "I", .methodLink RX0 20 yX7_clear, .instanceMethod yX7_clear, .selects RX7 yX7_clear yX7_clear, .initialized RX7, .code yX7_clear cX7_clear 1 none, .fieldLink RX7 21 "ClayAccounts$Text" "size" "I", .methodLink RX0 30 yX7_byteAt, .instanceMethod yX7_byteAt, .selects RX7 yX7_byteAt yX7_byteAt, .code yX7_byteAt cX7_byteAt 2 (some .int), .fieldLink RX7 15 "ClayAccounts$Text" "bytes" "[B", .methodLink RX0 34 yX7_put, .instanceMethod yX7_put, .selects RX7 yX7_put yX7_put, .code yX7_put cX7_put 2 none] ++ wsX00 ++ wsX70)
def wsX0_goesLeftOf : List Cond := .code yX0_goesLeftOf cX0_goesLeftOf 2 (some .boolean) :: ([.fieldLink RX0 40 "ClayAccounts$Fragment" "right" "I", .fieldLink RX0 37 "ClayAccounts$Fragment" "left" "I", .constant RX0 43 (99999999), .fieldLink RX0 23 "ClayAccounts$Fragment" "rowCount" "I"] ++ wsX00)
def wsX0_sayRow : List Cond := .code yX0_sayRow cX0_sayRow 4 (some .int) :: ([.fieldLink RX0 14 "ClayAccounts$Fragment" "text" "LClayAccounts$Text;", .fieldLink RX0 27 "ClayAccounts$Text" "size" "I", .methodLink RX0 30 yX7_byteAt, .instanceMethod yX7_byteAt, .selects RX7 yX7_byteAt yX7_byteAt, .initialized RX7, .code yX7_byteAt cX7_byteAt 2 (some .int), .fieldLink RX7 21 "ClayAccounts$Text" "size" "I", .fieldLink RX7 15 "ClayAccounts$Text" "bytes" "[B", .methodLink RX0 34 yX7_put, .instanceMethod yX7_put, .selects RX7 yX7_put yX7_put, .code yX7_put cX7_put 2 none] ++ wsX00 ++ wsX70)
def wsX0_sayWith : List Cond := .code yX0_sayWith cX0_sayWith 6 none :: ([.fieldLink RX0 23 "ClayAccounts$Fragment" "rowCount" "I", .methodLink RX0 20 yX7_clear, .instanceMethod yX7_clear, .selects RX7 yX7_clear yX7_clear, .initialized RX7, .code yX7_clear cX7_clear 1 none, .fieldLink RX7 21 "ClayAccounts$Text" "size" "I", .methodLink RX0 44 yX0_sayRow, .instanceMethod yX0_sayRow, .selects RX0 yX0_sayRow yX0_sayRow, .initialized RX0, .code yX0_sayRow cX0_sayRow 4 (some .int), .fieldLink RX0 14 "ClayAccounts$Fragment" "text" "LClayAccounts$Text;", .fieldLink RX0 27 "ClayAccounts$Text" "size" "I", .methodLink RX0 30 yX7_byteAt, .instanceMethod yX7_byteAt, .selects RX7 yX7_byteAt yX7_byteAt, .code yX7_byteAt cX7_byteAt 2 (some .int), .fieldLink RX7 15 "ClayAccounts$Text" "bytes" "[B", .methodLink RX0 34 yX7_put, .instanceMethod yX7_put, .selects RX7 yX7_put yX7_put, .code yX7_put cX7_put 2 none] ++ wsX00 ++ wsX70)
def wsX1_init : List Cond := .code yX1_init cX1_init 1 none :: ([.methodLink RX1 3 objectInit, .instanceMethod objectInit, .code objectInit ⟨#[0xb1]⟩ 1 none])
def wsX1_limit : List Cond := .code yX1_limit cX1_limit 4 none :: ([.fieldLink RX1 9 "ClayAccounts$Hole" "leastDigit" "I", .fieldLink RX1 15 "ClayAccounts$Hole" "room" "I", .fieldLink RX1 18 "ClayAccounts$Hole" "isBehindHole" "Z"] ++ wsX10)
def wsX1_noteDigit : List Cond := .code yX1_noteDigit cX1_noteDigit 2 none :: ([.fieldLink RX1 22 "ClayAccounts$Hole" "sureDigit" "I"] ++ wsX10)
def wsX2_init : List Cond := .code yX2_init cX2_init 1 none :: ([.methodLink RX2 3 objectInit, .instanceMethod objectInit, .code objectInit ⟨#[0xb1]⟩ 1 none])
def wsX2_begin : List Cond := .code yX2_begin cX2_begin 2 none :: ([.fieldLink RX2 9 "ClayAccounts$Line" "kind" "I", .fieldLink RX2 15 "ClayAccounts$Line" "system" "I", .fieldLink RX2 18 "ClayAccounts$Line" "holeCount" "I", .fieldLink RX2 21 "ClayAccounts$Line" "value" "I", .fieldLink RX2 24 "ClayAccounts$Line" "least" "I", .fieldLink RX2 27 "ClayAccounts$Line" "greatest" "I"] ++ wsX20)
def wsX2_noteValue : List Cond := .code yX2_noteValue cX2_noteValue 2 none :: ([.fieldLink RX2 24 "ClayAccounts$Line" "least" "I", .methodLink RX2 30 Lib.Math.min.name, .static Lib.Math.min.name, .initialized "java/lang/Math", .code Lib.Math.min.name Lib.Math.min.code 2 (some .int), .fieldLink RX2 27 "ClayAccounts$Line" "greatest" "I", .methodLink RX2 36 Lib.Math.max.name, .static Lib.Math.max.name, .code Lib.Math.max.name Lib.Math.max.code 2 (some .int)] ++ wsX20)
def wsX2_valueBound : List Cond := .code yX2_valueBound cX2_valueBound 2 (some .int) :: ([.fieldLink RX2 18 "ClayAccounts$Line" "holeCount" "I", .fieldLink RX2 21 "ClayAccounts$Line" "value" "I", .fieldLink RX2 27 "ClayAccounts$Line" "greatest" "I", .fieldLink RX2 24 "ClayAccounts$Line" "least" "I"] ++ wsX20)
def wsJ7_fill_53178 : List Cond := .code yJ7_fill_53178 cJ7_fill_53178 4 none :: ([])
def wsX3_init : List Cond := .code yX3_init cX3_init 1 none :: ([.methodLink RX3 3 objectInit, .instanceMethod objectInit, .code objectInit ⟨#[0xb1]⟩ 1 none, .arrayClass .int, .fieldLink RX3 9 "ClayAccounts$Matcher" "partners" "[I", .fieldLink RX3 15 "ClayAccounts$Matcher" "weights" "[I", .fieldLink RX3 18 "ClayAccounts$Matcher" "best" "[I", .methodLink RX3 21 yJ7_fill_53178, .static yJ7_fill_53178, .initialized RJ7, .code yJ7_fill_53178 cJ7_fill_53178 4 none] ++ wsX30)
def wsX3_forget : List Cond := .code yX3_forget cX3_forget 1 none :: ([.fieldLink RX3 9 "ClayAccounts$Matcher" "partners" "[I", .fieldLink RX3 27 "ClayAccounts$Matcher" "pairCount" "I", .fieldLink RX3 31 "ClayAccounts$Matcher" "sureCount" "I", .methodLink RX3 21 yJ7_fill_53178, .static yJ7_fill_53178, .initialized RJ7, .code yJ7_fill_53178 cJ7_fill_53178 4 none] ++ wsX30)
def wsX3_tell : List Cond := .code yX3_tell cX3_tell 5 none :: ([.fieldLink RX3 15 "ClayAccounts$Matcher" "weights" "[I"] ++ wsX30)
def wsX3_bestOf : List Cond := .code yX3_bestOf cX3_bestOf 8 (some .int) :: ([.fieldLink RX3 18 "ClayAccounts$Matcher" "best" "[I", .fieldLink RX3 15 "ClayAccounts$Matcher" "weights" "[I", .methodLink RX3 50 Lib.Math.max.name, .static Lib.Math.max.name, .initialized "java/lang/Math", .code Lib.Math.max.name Lib.Math.max.code 2 (some .int)] ++ wsX30)
def wsX3_pairOff : List Cond := .code yX3_pairOff cX3_pairOff 8 (some .int) :: ([.fieldLink RX3 15 "ClayAccounts$Matcher" "weights" "[I", .fieldLink RX3 18 "ClayAccounts$Matcher" "best" "[I", .fieldLink RX3 9 "ClayAccounts$Matcher" "partners" "[I", .fieldLink RX3 27 "ClayAccounts$Matcher" "pairCount" "I", .fieldLink RX3 31 "ClayAccounts$Matcher" "sureCount" "I"] ++ wsX30)
def wsX3_pairUp_r1 : List Cond := [Cond.methodLink RX3 37 Lib.Math.min.name, Cond.static Lib.Math.min.name, Cond.initialized "java/lang/Math", Cond.code Lib.Math.min.name Lib.Math.min.code 2 (some .int), Cond.fieldLink RX3 18 "ClayAccounts$Matcher" "best" "[I", Cond.methodLink RX3 34 yX3_forget, Cond.instanceMethod yX3_forget, Cond.selects RX3 yX3_forget yX3_forget, Cond.initialized RX3, Cond.code yX3_forget cX3_forget 1 none, Cond.fieldLink RX3 9 "ClayAccounts$Matcher" "partners" "[I", Cond.fieldLink RX3 27 "ClayAccounts$Matcher" "pairCount" "I", Cond.fieldLink RX3 31 "ClayAccounts$Matcher" "sureCount" "I", Cond.methodLink RX3 21 yJ7_fill_53178, Cond.static yJ7_fill_53178, Cond.initialized RJ7, Cond.code yJ7_fill_53178 cJ7_fill_53178 4 none, Cond.methodLink RX3 43 yX3_bestOf, Cond.instanceMethod yX3_bestOf, Cond.selects RX3 yX3_bestOf yX3_bestOf, Cond.code yX3_bestOf cX3_bestOf 8 (some .int), Cond.fieldLink RX3 15 "ClayAccounts$Matcher" "weights" "[I", Cond.methodLink RX3 50 Lib.Math.max.name, Cond.static Lib.Math.max.name]
def wsX3_pairUp_r2 : List Cond := [Cond.code Lib.Math.max.name Lib.Math.max.code 2 (some .int), Cond.methodLink RX3 47 yX3_pairOff, Cond.instanceMethod yX3_pairOff, Cond.selects RX3 yX3_pairOff yX3_pairOff, Cond.code yX3_pairOff cX3_pairOff 8 (some .int)]
def wsX3_pairUp : List Cond := .code yX3_pairUp cX3_pairUp 6 none :: ((wsX3_pairUp_r1 ++ wsX3_pairUp_r2) ++ wsX30)
def wsX4_init : List Cond := .code yX4_init cX4_init 1 none :: ([.methodLink RX4 3 objectInit, .instanceMethod objectInit, .code objectInit ⟨#[0xb1]⟩ 1 none, .classLink RX4 9 "[[J", .arrayClass .long, .fieldLink RX4 11 "ClayAccounts$Solver" "off" "[[J", .fieldLink RX4 16 "ClayAccounts$Solver" "slopes" "[[J", .fieldLink RX4 19 "ClayAccounts$Solver" "downs" "[[J", .fieldLink RX4 22 "ClayAccounts$Solver" "ups" "[[J", .arrayClass .int, .fieldLink RX4 25 "ClayAccounts$Solver" "digits" "[I"] ++ wsX40)
def wsX4_addPart : List Cond := .code yX4_addPart cX4_addPart 6 none :: ([.fieldLink RX4 11 "ClayAccounts$Solver" "off" "[[J", .fieldLink RX4 42 "ClayAccounts$Tablet" "lines" "[LClayAccounts$Line;", .fieldLink RX4 77 "ClayAccounts$Line" "value" "I", .fieldLink RX4 80 "ClayAccounts$Tablet" "holeCount" "I", .fieldLink RX4 83 "ClayAccounts$Tablet" "holes" "[LClayAccounts$Hole;", .fieldLink RX4 87 "ClayAccounts$Hole" "line" "I", .fieldLink RX4 16 "ClayAccounts$Solver" "slopes" "[[J", .fieldLink RX4 92 "ClayAccounts$Hole" "weight" "I"] ++ wsX40 ++ wsX50 ++ wsX20 ++ wsX10)
def wsX4_weigh : List Cond := .code yX4_weigh cX4_weigh 7 none :: ([.fieldLink RX4 11 "ClayAccounts$Solver" "off" "[[J", .fieldLink RX4 16 "ClayAccounts$Solver" "slopes" "[[J", .fieldLink RX4 42 "ClayAccounts$Tablet" "lines" "[LClayAccounts$Line;", .fieldLink RX4 74 "ClayAccounts$Line" "system" "I", .fieldLink RX4 46 "ClayAccounts$Line" "kind" "I", .methodLink RX4 70 yX4_addPart, .instanceMethod yX4_addPart, .selects RX4 yX4_addPart yX4_addPart, .initialized RX4, .code yX4_addPart cX4_addPart 6 none, .fieldLink RX4 77 "ClayAccounts$Line" "value" "I", .fieldLink RX4 80 "ClayAccounts$Tablet" "holeCount" "I", .fieldLink RX4 83 "ClayAccounts$Tablet" "holes" "[LClayAccounts$Hole;", .fieldLink RX4 87 "ClayAccounts$Hole" "line" "I", .fieldLink RX4 92 "ClayAccounts$Hole" "weight" "I"] ++ wsX40 ++ wsX50 ++ wsX20 ++ wsX10)
def wsX4_measure : List Cond := .code yX4_measure cX4_measure 5 none :: ([.fieldLink RX4 19 "ClayAccounts$Solver" "downs" "[[J", .fieldLink RX4 22 "ClayAccounts$Solver" "ups" "[[J", .constantLong RX4 95 (9), .fieldLink RX4 16 "ClayAccounts$Solver" "slopes" "[[J", .methodLink RX4 97 Lib.MathLoose.min_long.x, .static Lib.MathLoose.min_long.x, .initialized "java/lang/Math", .code Lib.MathLoose.min_long.x Lib.MathLoose.min_long.code 4 (some .long), .methodLink RX4 103 Lib.MathLoose.max_long.x, .static Lib.MathLoose.max_long.x, .code Lib.MathLoose.max_long.x Lib.MathLoose.max_long.code 4 (some .long)] ++ wsX40)
def wsX4_missedWith : List Cond := .code yX4_missedWith cX4_missedWith 6 (some .int) :: ([.fieldLink RX4 33 "ClayAccounts$Solver" "sumCount" "I", .fieldLink RX4 11 "ClayAccounts$Solver" "off" "[[J", .fieldLink RX4 19 "ClayAccounts$Solver" "downs" "[[J", .fieldLink RX4 22 "ClayAccounts$Solver" "ups" "[[J"] ++ wsX40)
def wsX4_isWorthwhile : List Cond := .code yX4_isWorthwhile cX4_isWorthwhile 3 (some .boolean) :: ([.fieldLink RX4 29 "ClayAccounts$Solver" "oneIsEnough" "Z", .fieldLink RX4 106 "ClayAccounts$Tablet" "readingCount" "I", .fieldLink RX4 109 "ClayAccounts$Tablet" "fewestWrong" "I"] ++ wsX40 ++ wsX50)
def wsX4_noteReading_r1 : List Cond := [Cond.fieldLink RX4 106 "ClayAccounts$Tablet" "readingCount" "I", Cond.fieldLink RX4 80 "ClayAccounts$Tablet" "holeCount" "I", Cond.fieldLink RX4 83 "ClayAccounts$Tablet" "holes" "[LClayAccounts$Hole;", Cond.fieldLink RX4 25 "ClayAccounts$Solver" "digits" "[I", Cond.fieldLink RX4 87 "ClayAccounts$Hole" "line" "I", Cond.fieldLink RX4 42 "ClayAccounts$Tablet" "lines" "[LClayAccounts$Line;", Cond.fieldLink RX4 77 "ClayAccounts$Line" "value" "I", Cond.fieldLink RX4 92 "ClayAccounts$Hole" "weight" "I", Cond.methodLink RX4 131 yX1_noteDigit, Cond.instanceMethod yX1_noteDigit, Cond.selects RX1 yX1_noteDigit yX1_noteDigit, Cond.initialized RX1, Cond.code yX1_noteDigit cX1_noteDigit 2 none, Cond.fieldLink RX1 22 "ClayAccounts$Hole" "sureDigit" "I", Cond.methodLink RX4 134 yX2_noteValue, Cond.instanceMethod yX2_noteValue, Cond.selects RX2 yX2_noteValue yX2_noteValue, Cond.initialized RX2, Cond.code yX2_noteValue cX2_noteValue 2 none, Cond.fieldLink RX2 24 "ClayAccounts$Line" "least" "I", Cond.methodLink RX2 30 Lib.Math.min.name, Cond.static Lib.Math.min.name, Cond.initialized "java/lang/Math", Cond.code Lib.Math.min.name Lib.Math.min.code 2 (some .int)]
def wsX4_noteReading_r2 : List Cond := [Cond.fieldLink RX2 27 "ClayAccounts$Line" "greatest" "I", Cond.methodLink RX2 36 Lib.Math.max.name, Cond.static Lib.Math.max.name, Cond.code Lib.Math.max.name Lib.Math.max.code 2 (some .int)]
def wsX4_noteReading : List Cond := .code yX4_noteReading cX4_noteReading 6 none :: ((wsX4_noteReading_r1 ++ wsX4_noteReading_r2) ++ wsX50 ++ wsX40 ++ wsX10 ++ wsX20)
def wsX4_fill_r1 : List Cond := [Cond.fieldLink RX4 80 "ClayAccounts$Tablet" "holeCount" "I", Cond.fieldLink RX4 109 "ClayAccounts$Tablet" "fewestWrong" "I", Cond.methodLink RX4 112 Lib.Math.min.name, Cond.static Lib.Math.min.name, Cond.initialized "java/lang/Math", Cond.code Lib.Math.min.name Lib.Math.min.code 2 (some .int), Cond.fieldLink RX4 83 "ClayAccounts$Tablet" "holes" "[LClayAccounts$Hole;", Cond.fieldLink RX4 119 "ClayAccounts$Hole" "isBehindHole" "Z", Cond.fieldLink RX4 122 "ClayAccounts$Hole" "room" "I", Cond.fieldLink RX4 25 "ClayAccounts$Solver" "digits" "[I", Cond.fieldLink RX4 125 "ClayAccounts$Hole" "leastDigit" "I", Cond.fieldLink RX4 128 "ClayAccounts$Hole" "scale" "I", Cond.fieldLink RX4 33 "ClayAccounts$Solver" "sumCount" "I", Cond.fieldLink RX4 11 "ClayAccounts$Solver" "off" "[[J", Cond.fieldLink RX4 16 "ClayAccounts$Solver" "slopes" "[[J", Cond.methodLink RX4 115 yX4_noteReading, Cond.instanceMethod yX4_noteReading, Cond.selects RX4 yX4_noteReading yX4_noteReading, Cond.initialized RX4, Cond.code yX4_noteReading cX4_noteReading 6 none, Cond.fieldLink RX4 106 "ClayAccounts$Tablet" "readingCount" "I", Cond.fieldLink RX4 87 "ClayAccounts$Hole" "line" "I", Cond.fieldLink RX4 42 "ClayAccounts$Tablet" "lines" "[LClayAccounts$Line;", Cond.fieldLink RX4 77 "ClayAccounts$Line" "value" "I"]
def wsX4_fill_r2 : List Cond := [Cond.fieldLink RX4 92 "ClayAccounts$Hole" "weight" "I", Cond.methodLink RX4 131 yX1_noteDigit, Cond.instanceMethod yX1_noteDigit, Cond.selects RX1 yX1_noteDigit yX1_noteDigit, Cond.initialized RX1, Cond.code yX1_noteDigit cX1_noteDigit 2 none, Cond.fieldLink RX1 22 "ClayAccounts$Hole" "sureDigit" "I", Cond.methodLink RX4 134 yX2_noteValue, Cond.instanceMethod yX2_noteValue, Cond.selects RX2 yX2_noteValue yX2_noteValue, Cond.initialized RX2, Cond.code yX2_noteValue cX2_noteValue 2 none, Cond.fieldLink RX2 24 "ClayAccounts$Line" "least" "I", Cond.methodLink RX2 30 Lib.Math.min.name, Cond.fieldLink RX2 27 "ClayAccounts$Line" "greatest" "I", Cond.methodLink RX2 36 Lib.Math.max.name, Cond.static Lib.Math.max.name, Cond.code Lib.Math.max.name Lib.Math.max.code 2 (some .int), Cond.methodLink RX4 59 yX4_missedWith, Cond.instanceMethod yX4_missedWith, Cond.selects RX4 yX4_missedWith yX4_missedWith, Cond.code yX4_missedWith cX4_missedWith 6 (some .int), Cond.fieldLink RX4 19 "ClayAccounts$Solver" "downs" "[[J", Cond.fieldLink RX4 22 "ClayAccounts$Solver" "ups" "[[J"]
def wsX4_fill_r3 : List Cond := [Cond.methodLink RX4 63 yX4_isWorthwhile, Cond.instanceMethod yX4_isWorthwhile, Cond.selects RX4 yX4_isWorthwhile yX4_isWorthwhile, Cond.code yX4_isWorthwhile cX4_isWorthwhile 3 (some .boolean), Cond.fieldLink RX4 29 "ClayAccounts$Solver" "oneIsEnough" "Z", Cond.methodLink RX4 67 yX4_fill, Cond.instanceMethod yX4_fill, Cond.selects RX4 yX4_fill yX4_fill]
def wsX4_fill : List Cond := .code yX4_fill cX4_fill 8 none :: ((wsX4_fill_r1 ++ (wsX4_fill_r2 ++ wsX4_fill_r3)) ++ wsX50 ++ wsX10 ++ wsX40 ++ wsX20)
def wsX4_solve_r1 : List Cond := [Cond.fieldLink RX4 29 "ClayAccounts$Solver" "oneIsEnough" "Z", Cond.fieldLink RX4 33 "ClayAccounts$Solver" "sumCount" "I", Cond.fieldLink RX4 37 "ClayAccounts$Tablet" "lineCount" "I", Cond.fieldLink RX4 42 "ClayAccounts$Tablet" "lines" "[LClayAccounts$Line;", Cond.fieldLink RX4 46 "ClayAccounts$Line" "kind" "I", Cond.methodLink RX4 51 yX4_weigh, Cond.instanceMethod yX4_weigh, Cond.selects RX4 yX4_weigh yX4_weigh, Cond.initialized RX4, Cond.code yX4_weigh cX4_weigh 7 none, Cond.fieldLink RX4 11 "ClayAccounts$Solver" "off" "[[J", Cond.fieldLink RX4 16 "ClayAccounts$Solver" "slopes" "[[J", Cond.fieldLink RX4 74 "ClayAccounts$Line" "system" "I", Cond.methodLink RX4 70 yX4_addPart, Cond.instanceMethod yX4_addPart, Cond.selects RX4 yX4_addPart yX4_addPart, Cond.code yX4_addPart cX4_addPart 6 none, Cond.fieldLink RX4 77 "ClayAccounts$Line" "value" "I", Cond.fieldLink RX4 80 "ClayAccounts$Tablet" "holeCount" "I", Cond.fieldLink RX4 83 "ClayAccounts$Tablet" "holes" "[LClayAccounts$Hole;", Cond.fieldLink RX4 87 "ClayAccounts$Hole" "line" "I", Cond.fieldLink RX4 92 "ClayAccounts$Hole" "weight" "I", Cond.methodLink RX4 55 yX4_measure, Cond.instanceMethod yX4_measure]
def wsX4_solve_r2 : List Cond := [Cond.selects RX4 yX4_measure yX4_measure, Cond.code yX4_measure cX4_measure 5 none, Cond.fieldLink RX4 19 "ClayAccounts$Solver" "downs" "[[J", Cond.fieldLink RX4 22 "ClayAccounts$Solver" "ups" "[[J", Cond.constantLong RX4 95 (9), Cond.methodLink RX4 97 Lib.MathLoose.min_long.x, Cond.static Lib.MathLoose.min_long.x, Cond.initialized "java/lang/Math", Cond.code Lib.MathLoose.min_long.x Lib.MathLoose.min_long.code 4 (some .long), Cond.methodLink RX4 103 Lib.MathLoose.max_long.x, Cond.static Lib.MathLoose.max_long.x, Cond.code Lib.MathLoose.max_long.x Lib.MathLoose.max_long.code 4 (some .long), Cond.methodLink RX4 59 yX4_missedWith, Cond.instanceMethod yX4_missedWith, Cond.selects RX4 yX4_missedWith yX4_missedWith, Cond.code yX4_missedWith cX4_missedWith 6 (some .int), Cond.methodLink RX4 63 yX4_isWorthwhile, Cond.instanceMethod yX4_isWorthwhile, Cond.selects RX4 yX4_isWorthwhile yX4_isWorthwhile, Cond.code yX4_isWorthwhile cX4_isWorthwhile 3 (some .boolean), Cond.fieldLink RX4 106 "ClayAccounts$Tablet" "readingCount" "I", Cond.fieldLink RX4 109 "ClayAccounts$Tablet" "fewestWrong" "I", Cond.methodLink RX4 67 yX4_fill, Cond.instanceMethod yX4_fill]
def wsX4_solve_r3 : List Cond := [Cond.selects RX4 yX4_fill yX4_fill, Cond.code yX4_fill cX4_fill 8 none, Cond.methodLink RX4 112 Lib.Math.min.name, Cond.static Lib.Math.min.name, Cond.code Lib.Math.min.name Lib.Math.min.code 2 (some .int), Cond.fieldLink RX4 119 "ClayAccounts$Hole" "isBehindHole" "Z", Cond.fieldLink RX4 122 "ClayAccounts$Hole" "room" "I", Cond.fieldLink RX4 25 "ClayAccounts$Solver" "digits" "[I", Cond.fieldLink RX4 125 "ClayAccounts$Hole" "leastDigit" "I", Cond.fieldLink RX4 128 "ClayAccounts$Hole" "scale" "I", Cond.methodLink RX4 115 yX4_noteReading, Cond.instanceMethod yX4_noteReading, Cond.selects RX4 yX4_noteReading yX4_noteReading, Cond.code yX4_noteReading cX4_noteReading 6 none, Cond.methodLink RX4 131 yX1_noteDigit, Cond.instanceMethod yX1_noteDigit, Cond.selects RX1 yX1_noteDigit yX1_noteDigit, Cond.initialized RX1, Cond.code yX1_noteDigit cX1_noteDigit 2 none, Cond.fieldLink RX1 22 "ClayAccounts$Hole" "sureDigit" "I", Cond.methodLink RX4 134 yX2_noteValue, Cond.instanceMethod yX2_noteValue, Cond.selects RX2 yX2_noteValue yX2_noteValue, Cond.initialized RX2]
def wsX4_solve_r4 : List Cond := [Cond.code yX2_noteValue cX2_noteValue 2 none, Cond.fieldLink RX2 24 "ClayAccounts$Line" "least" "I", Cond.methodLink RX2 30 Lib.Math.min.name, Cond.fieldLink RX2 27 "ClayAccounts$Line" "greatest" "I", Cond.methodLink RX2 36 Lib.Math.max.name, Cond.static Lib.Math.max.name, Cond.code Lib.Math.max.name Lib.Math.max.code 2 (some .int)]
def wsX4_solve : List Cond := .code yX4_solve cX4_solve 4 none :: ((wsX4_solve_r1 ++ (wsX4_solve_r2 ++ (wsX4_solve_r3 ++ wsX4_solve_r4))) ++ wsX40 ++ wsX50 ++ wsX20 ++ wsX10)
def wsX5_init : List Cond := .code yX5_init cX5_init 2 none :: ([.methodLink RX5 3 objectInit, .instanceMethod objectInit, .code objectInit ⟨#[0xb1]⟩ 1 none, .classLink RX5 9 RX2, .fieldLink RX5 11 "ClayAccounts$Tablet" "lines" "[LClayAccounts$Line;", .classLink RX5 17 RX1, .fieldLink RX5 19 "ClayAccounts$Tablet" "holes" "[LClayAccounts$Hole;", .instantiable RX2 6, .initialized RX2, .instantiable RX1 7, .initialized RX1, .instanceMethod yX2_init, .code yX2_init cX2_init 1 none, .methodLink RX2 3 objectInit, .instanceMethod yX1_init, .code yX1_init cX1_init 1 none, .methodLink RX1 3 objectInit] ++ wsX50 ++ wsX20 ++ wsX10)
def wsX5_clear : List Cond := .code yX5_clear cX5_clear 1 none :: ([.fieldLink RX5 25 "ClayAccounts$Tablet" "lineCount" "I", .fieldLink RX5 29 "ClayAccounts$Tablet" "holeCount" "I", .fieldLink RX5 32 "ClayAccounts$Tablet" "isSolved" "Z", .fieldLink RX5 36 "ClayAccounts$Tablet" "readingCount" "I", .fieldLink RX5 39 "ClayAccounts$Tablet" "fewestWrong" "I"] ++ wsX50)
def wsX5_isFull : List Cond := .code yX5_isFull cX5_isFull 1 (some .boolean) :: ([.fieldLink RX5 25 "ClayAccounts$Tablet" "lineCount" "I"] ++ wsX50)
def wsX5_addLine : List Cond := .code yX5_addLine cX5_addLine 2 none :: ([.fieldLink RX5 11 "ClayAccounts$Tablet" "lines" "[LClayAccounts$Line;", .fieldLink RX5 25 "ClayAccounts$Tablet" "lineCount" "I", .methodLink RX5 42 yX5_isFull, .instanceMethod yX5_isFull, .selects RX5 yX5_isFull yX5_isFull, .initialized RX5, .code yX5_isFull cX5_isFull 1 (some .boolean), .methodLink RX5 46 yX2_begin, .instanceMethod yX2_begin, .selects RX2 yX2_begin yX2_begin, .initialized RX2, .code yX2_begin cX2_begin 2 none, .fieldLink RX2 9 "ClayAccounts$Line" "kind" "I", .fieldLink RX2 15 "ClayAccounts$Line" "system" "I", .fieldLink RX2 18 "ClayAccounts$Line" "holeCount" "I", .fieldLink RX2 21 "ClayAccounts$Line" "value" "I", .fieldLink RX2 24 "ClayAccounts$Line" "least" "I", .fieldLink RX2 27 "ClayAccounts$Line" "greatest" "I"] ++ wsX50 ++ wsX20)
def wsX5_addKnown : List Cond := .code yX5_addKnown cX5_addKnown 4 none :: ([.fieldLink RX5 25 "ClayAccounts$Tablet" "lineCount" "I", .fieldLink RX5 11 "ClayAccounts$Tablet" "lines" "[LClayAccounts$Line;", .fieldLink RX5 50 "ClayAccounts$Line" "system" "I", .fieldLink RX5 53 "ClayAccounts$Line" "value" "I"] ++ wsX50 ++ wsX20)
def wsX5_addHole : List Cond := .code yX5_addHole cX5_addHole 5 (some (.object "ClayAccounts$Hole")) :: ([.fieldLink RX5 19 "ClayAccounts$Tablet" "holes" "[LClayAccounts$Hole;", .fieldLink RX5 29 "ClayAccounts$Tablet" "holeCount" "I", .fieldLink RX5 25 "ClayAccounts$Tablet" "lineCount" "I", .fieldLink RX5 56 "ClayAccounts$Hole" "line" "I", .fieldLink RX5 59 "ClayAccounts$Hole" "scale" "I", .fieldLink RX5 62 "ClayAccounts$Hole" "weight" "I", .fieldLink RX5 65 "ClayAccounts$Hole" "sureDigit" "I", .fieldLink RX5 11 "ClayAccounts$Tablet" "lines" "[LClayAccounts$Line;", .fieldLink RX5 68 "ClayAccounts$Line" "holeCount" "I"] ++ wsX50 ++ wsX10 ++ wsX20)
def wsX8_init : List Cond := .code yX8_init cX8_init 1 none :: ([.methodLink RX8 3 objectInit, .instanceMethod objectInit, .code objectInit ⟨#[0xb1]⟩ 1 none, .classLink RX8 9 RX7, .instantiable RX7 2, .initialized RX7, .fieldLink RX8 14 "ClayAccounts$Tokens" "text" "LClayAccounts$Text;", .methodLink RX8 11 yX7_init, .instanceMethod yX7_init, .code yX7_init cX7_init 2 none, .methodLink RX7 3 objectInit, .methodLink RX7 9 Lib.Math.max.name, .static Lib.Math.max.name, .initialized "java/lang/Math", .code Lib.Math.max.name Lib.Math.max.code 2 (some .int), .arrayClass .byte, .fieldLink RX7 15 "ClayAccounts$Text" "bytes" "[B", .fieldLink RX7 21 "ClayAccounts$Text" "size" "I"] ++ wsX70 ++ wsX80)
def wsX6_init_r1 : List Cond := [Cond.methodLink RX6 3 objectInit, Cond.instanceMethod objectInit, Cond.code objectInit ⟨#[0xb1]⟩ 1 none, Cond.classLink RX6 9 RX8, Cond.instantiable RX8 11, Cond.initialized RX8, Cond.fieldLink RX6 12 "ClayAccounts$TabletReader" "tokens" "LClayAccounts$Tokens;", Cond.instanceMethod yX8_init, Cond.code yX8_init cX8_init 1 none, Cond.methodLink RX8 3 objectInit, Cond.classLink RX8 9 RX7, Cond.instantiable RX7 2, Cond.initialized RX7, Cond.fieldLink RX8 14 "ClayAccounts$Tokens" "text" "LClayAccounts$Text;", Cond.methodLink RX8 11 yX7_init, Cond.instanceMethod yX7_init, Cond.code yX7_init cX7_init 2 none, Cond.methodLink RX7 3 objectInit, Cond.methodLink RX7 9 Lib.Math.max.name, Cond.static Lib.Math.max.name, Cond.initialized "java/lang/Math", Cond.code Lib.Math.max.name Lib.Math.max.code 2 (some .int), Cond.arrayClass .byte, Cond.fieldLink RX7 15 "ClayAccounts$Text" "bytes" "[B"]
def wsX6_init_r2 : List Cond := [Cond.fieldLink RX7 21 "ClayAccounts$Text" "size" "I"]
def wsX6_init : List Cond := .code yX6_init cX6_init 1 none :: ((wsX6_init_r1 ++ wsX6_init_r2) ++ wsX80 ++ wsX60 ++ wsX70)
def wsX8_begin : List Cond := .code yX8_begin cX8_begin 4 none :: ([.fieldLink RX8 14 "ClayAccounts$Tokens" "text" "LClayAccounts$Text;", .fieldLink RX8 20 "ClayAccounts$Tokens" "most" "I", .fieldLink RX8 24 "ClayAccounts$Tokens" "withBroken" "Z", .fieldLink RX8 28 "ClayAccounts$Tokens" "at" "I", .fieldLink RX8 31 "ClayAccounts$Tokens" "fault" "I", .fieldLink RX8 34 "ClayAccounts$Tokens" "faultPlace" "I"] ++ wsX80)
def wsX8_isBlank : List Cond := .code yX8_isBlank cX8_isBlank 1 (some .boolean) :: ([])
def wsX8_isSmallLetter : List Cond := .code yX8_isSmallLetter cX8_isSmallLetter 1 (some .boolean) :: ([])
def wsX8_kindOfName : List Cond := .code yX8_kindOfName cX8_kindOfName 1 (some .int) :: ([.fieldLink RX8 85 "ClayAccounts$Tokens" "name" "J", .constantLong RX8 93 (126965465245037), .constantLong RX8 95 (500086104428), .constantLong RX8 97 (444300619364)] ++ wsX80)
def wsX8_takeName : List Cond := .code yX8_takeName cX8_takeName 3 none :: ([.fieldLink RX8 85 "ClayAccounts$Tokens" "name" "J", .fieldLink RX8 14 "ClayAccounts$Tokens" "text" "LClayAccounts$Text;", .fieldLink RX8 28 "ClayAccounts$Tokens" "at" "I", .fieldLink RX8 43 "ClayAccounts$Text" "size" "I", .fieldLink RX8 40 "ClayAccounts$Tokens" "place" "I", .fieldLink RX8 37 "ClayAccounts$Tokens" "kind" "I", .methodLink RX8 56 yX7_byteAt, .instanceMethod yX7_byteAt, .selects RX7 yX7_byteAt yX7_byteAt, .initialized RX7, .code yX7_byteAt cX7_byteAt 2 (some .int), .fieldLink RX7 21 "ClayAccounts$Text" "size" "I", .fieldLink RX7 15 "ClayAccounts$Text" "bytes" "[B", .methodLink RX8 64 yX8_isSmallLetter, .static yX8_isSmallLetter, .initialized RX8, .code yX8_isSmallLetter cX8_isSmallLetter 1 (some .boolean), .methodLink RX8 89 yX8_kindOfName, .instanceMethod yX8_kindOfName, .selects RX8 yX8_kindOfName yX8_kindOfName, .code yX8_kindOfName cX8_kindOfName 1 (some .int), .constantLong RX8 93 (126965465245037), .constantLong RX8 95 (500086104428), .constantLong RX8 97 (444300619364)] ++ wsX80 ++ wsX70)
def wsX8_isDigit : List Cond := .code yX8_isDigit cX8_isDigit 2 (some .boolean) :: ([.fieldLink RX8 24 "ClayAccounts$Tokens" "withBroken" "Z"] ++ wsX80)
def wsX8_takeNumber : List Cond := .code yX8_takeNumber cX8_takeNumber 3 none :: ([.fieldLink RX8 79 "ClayAccounts$Tokens" "tens" "I", .fieldLink RX8 82 "ClayAccounts$Tokens" "ones" "I", .fieldLink RX8 14 "ClayAccounts$Tokens" "text" "LClayAccounts$Text;", .fieldLink RX8 28 "ClayAccounts$Tokens" "at" "I", .fieldLink RX8 43 "ClayAccounts$Text" "size" "I", .fieldLink RX8 40 "ClayAccounts$Tokens" "place" "I", .fieldLink RX8 37 "ClayAccounts$Tokens" "kind" "I", .methodLink RX8 56 yX7_byteAt, .instanceMethod yX7_byteAt, .selects RX7 yX7_byteAt yX7_byteAt, .initialized RX7, .code yX7_byteAt cX7_byteAt 2 (some .int), .fieldLink RX7 21 "ClayAccounts$Text" "size" "I", .fieldLink RX7 15 "ClayAccounts$Text" "bytes" "[B", .methodLink RX8 70 yX8_isDigit, .instanceMethod yX8_isDigit, .selects RX8 yX8_isDigit yX8_isDigit, .initialized RX8, .code yX8_isDigit cX8_isDigit 2 (some .boolean), .fieldLink RX8 24 "ClayAccounts$Tokens" "withBroken" "Z", .methodLink RX8 64 yX8_isSmallLetter, .static yX8_isSmallLetter, .code yX8_isSmallLetter cX8_isSmallLetter 1 (some .boolean)] ++ wsX80 ++ wsX70)
def wsX8_takeSign : List Cond := .code yX8_takeSign cX8_takeSign 2 none :: ([.fieldLink RX8 28 "ClayAccounts$Tokens" "at" "I", .fieldLink RX8 37 "ClayAccounts$Tokens" "kind" "I"] ++ wsX80)
def wsX8_advance_r1 : List Cond := [Cond.fieldLink RX8 14 "ClayAccounts$Tokens" "text" "LClayAccounts$Text;", Cond.fieldLink RX8 43 "ClayAccounts$Text" "size" "I", Cond.fieldLink RX8 20 "ClayAccounts$Tokens" "most" "I", Cond.methodLink RX8 50 Lib.Math.min.name, Cond.static Lib.Math.min.name, Cond.initialized "java/lang/Math", Cond.code Lib.Math.min.name Lib.Math.min.code 2 (some .int), Cond.fieldLink RX8 28 "ClayAccounts$Tokens" "at" "I", Cond.fieldLink RX8 37 "ClayAccounts$Tokens" "kind" "I", Cond.fieldLink RX8 40 "ClayAccounts$Tokens" "place" "I", Cond.methodLink RX8 56 yX7_byteAt, Cond.instanceMethod yX7_byteAt, Cond.selects RX7 yX7_byteAt yX7_byteAt, Cond.initialized RX7, Cond.code yX7_byteAt cX7_byteAt 2 (some .int), Cond.fieldLink RX7 21 "ClayAccounts$Text" "size" "I", Cond.fieldLink RX7 15 "ClayAccounts$Text" "bytes" "[B", Cond.methodLink RX8 60 yX8_isBlank, Cond.static yX8_isBlank, Cond.initialized RX8, Cond.code yX8_isBlank cX8_isBlank 1 (some .boolean), Cond.methodLink RX8 64 yX8_isSmallLetter, Cond.static yX8_isSmallLetter, Cond.code yX8_isSmallLetter cX8_isSmallLetter 1 (some .boolean)]
def wsX8_advance_r2 : List Cond := [Cond.methodLink RX8 67 yX8_takeName, Cond.instanceMethod yX8_takeName, Cond.selects RX8 yX8_takeName yX8_takeName, Cond.code yX8_takeName cX8_takeName 3 none, Cond.fieldLink RX8 85 "ClayAccounts$Tokens" "name" "J", Cond.methodLink RX8 89 yX8_kindOfName, Cond.instanceMethod yX8_kindOfName, Cond.selects RX8 yX8_kindOfName yX8_kindOfName, Cond.code yX8_kindOfName cX8_kindOfName 1 (some .int), Cond.constantLong RX8 93 (126965465245037), Cond.constantLong RX8 95 (500086104428), Cond.constantLong RX8 97 (444300619364), Cond.methodLink RX8 70 yX8_isDigit, Cond.instanceMethod yX8_isDigit, Cond.selects RX8 yX8_isDigit yX8_isDigit, Cond.code yX8_isDigit cX8_isDigit 2 (some .boolean), Cond.fieldLink RX8 24 "ClayAccounts$Tokens" "withBroken" "Z", Cond.methodLink RX8 73 yX8_takeNumber, Cond.instanceMethod yX8_takeNumber, Cond.selects RX8 yX8_takeNumber yX8_takeNumber, Cond.code yX8_takeNumber cX8_takeNumber 3 none, Cond.fieldLink RX8 79 "ClayAccounts$Tokens" "tens" "I", Cond.fieldLink RX8 82 "ClayAccounts$Tokens" "ones" "I", Cond.methodLink RX8 76 yX8_takeSign]
def wsX8_advance_r3 : List Cond := [Cond.instanceMethod yX8_takeSign, Cond.selects RX8 yX8_takeSign yX8_takeSign, Cond.code yX8_takeSign cX8_takeSign 2 none]
def wsX8_advance : List Cond := .code yX8_advance cX8_advance 3 none :: ((wsX8_advance_r1 ++ (wsX8_advance_r2 ++ wsX8_advance_r3)) ++ wsX80 ++ wsX70)
def wsX8_refuse : List Cond := .code yX8_refuse cX8_refuse 3 (some .boolean) :: ([.fieldLink RX8 31 "ClayAccounts$Tokens" "fault" "I", .fieldLink RX8 34 "ClayAccounts$Tokens" "faultPlace" "I"] ++ wsX80)
def wsX8_endsWell : List Cond := .code yX8_endsWell cX8_endsWell 2 (some .boolean) :: ([.fieldLink RX8 14 "ClayAccounts$Tokens" "text" "LClayAccounts$Text;", .fieldLink RX8 43 "ClayAccounts$Text" "size" "I", .fieldLink RX8 20 "ClayAccounts$Tokens" "most" "I", .fieldLink RX8 40 "ClayAccounts$Tokens" "place" "I", .methodLink RX8 46 yX8_refuse, .instanceMethod yX8_refuse, .selects RX8 yX8_refuse yX8_refuse, .initialized RX8, .code yX8_refuse cX8_refuse 3 (some .boolean), .fieldLink RX8 31 "ClayAccounts$Tokens" "fault" "I", .fieldLink RX8 34 "ClayAccounts$Tokens" "faultPlace" "I"] ++ wsX80 ++ wsX70)
def wsX8_demand : List Cond := .code yX8_demand cX8_demand 2 (some .boolean) :: ([.fieldLink RX8 37 "ClayAccounts$Tokens" "kind" "I", .fieldLink RX8 31 "ClayAccounts$Tokens" "fault" "I", .fieldLink RX8 40 "ClayAccounts$Tokens" "place" "I", .fieldLink RX8 34 "ClayAccounts$Tokens" "faultPlace" "I"] ++ wsX80)
def wsX6_takeCount : List Cond := .code yX6_takeCount cX6_takeCount 1 (some .boolean) :: ([.fieldLink RX6 12 "ClayAccounts$TabletReader" "tokens" "LClayAccounts$Tokens;", .fieldLink RX6 83 "ClayAccounts$Tokens" "place" "I", .fieldLink RX6 90 "ClayAccounts$TabletReader" "countPlace" "I", .fieldLink RX6 93 "ClayAccounts$Tokens" "tens" "I", .fieldLink RX6 96 "ClayAccounts$TabletReader" "tens" "I", .fieldLink RX6 97 "ClayAccounts$Tokens" "ones" "I", .fieldLink RX6 100 "ClayAccounts$TabletReader" "ones" "I", .fieldLink RX6 27 "ClayAccounts$TabletReader" "state" "I", .methodLink RX6 101 yX8_demand, .instanceMethod yX8_demand, .selects RX8 yX8_demand yX8_demand, .initialized RX8, .code yX8_demand cX8_demand 2 (some .boolean), .fieldLink RX8 37 "ClayAccounts$Tokens" "kind" "I", .fieldLink RX8 31 "ClayAccounts$Tokens" "fault" "I", .fieldLink RX8 40 "ClayAccounts$Tokens" "place" "I", .fieldLink RX8 34 "ClayAccounts$Tokens" "faultPlace" "I"] ++ wsX60 ++ wsX80)
def wsX6_beginLine_r1 : List Cond := [Cond.fieldLink RX6 69 "ClayAccounts$TabletReader" "isLineTooMany" "Z", Cond.fieldLink RX6 73 "ClayAccounts$TabletReader" "unitAhead" "I", Cond.fieldLink RX6 12 "ClayAccounts$TabletReader" "tokens" "LClayAccounts$Tokens;", Cond.fieldLink RX6 34 "ClayAccounts$Tokens" "kind" "I", Cond.fieldLink RX6 76 "ClayAccounts$TabletReader" "lineKind" "I", Cond.fieldLink RX6 27 "ClayAccounts$TabletReader" "state" "I", Cond.fieldLink RX6 83 "ClayAccounts$Tokens" "place" "I", Cond.methodLink RX6 66 yX5_isFull, Cond.instanceMethod yX5_isFull, Cond.selects RX5 yX5_isFull yX5_isFull, Cond.initialized RX5, Cond.code yX5_isFull cX5_isFull 1 (some .boolean), Cond.fieldLink RX5 25 "ClayAccounts$Tablet" "lineCount" "I", Cond.methodLink RX6 79 yX5_addLine, Cond.instanceMethod yX5_addLine, Cond.selects RX5 yX5_addLine yX5_addLine, Cond.code yX5_addLine cX5_addLine 2 none, Cond.fieldLink RX5 11 "ClayAccounts$Tablet" "lines" "[LClayAccounts$Line;", Cond.methodLink RX5 42 yX5_isFull, Cond.methodLink RX5 46 yX2_begin, Cond.instanceMethod yX2_begin, Cond.selects RX2 yX2_begin yX2_begin, Cond.initialized RX2, Cond.code yX2_begin cX2_begin 2 none]
def wsX6_beginLine_r2 : List Cond := [Cond.fieldLink RX2 9 "ClayAccounts$Line" "kind" "I", Cond.fieldLink RX2 15 "ClayAccounts$Line" "system" "I", Cond.fieldLink RX2 18 "ClayAccounts$Line" "holeCount" "I", Cond.fieldLink RX2 21 "ClayAccounts$Line" "value" "I", Cond.fieldLink RX2 24 "ClayAccounts$Line" "least" "I", Cond.fieldLink RX2 27 "ClayAccounts$Line" "greatest" "I", Cond.methodLink RX6 86 yX8_refuse, Cond.instanceMethod yX8_refuse, Cond.selects RX8 yX8_refuse yX8_refuse, Cond.initialized RX8, Cond.code yX8_refuse cX8_refuse 3 (some .boolean), Cond.fieldLink RX8 31 "ClayAccounts$Tokens" "fault" "I", Cond.fieldLink RX8 34 "ClayAccounts$Tokens" "faultPlace" "I", Cond.methodLink RX6 52 yX6_takeCount, Cond.instanceMethod yX6_takeCount, Cond.selects RX6 yX6_takeCount yX6_takeCount, Cond.initialized RX6, Cond.code yX6_takeCount cX6_takeCount 1 (some .boolean), Cond.fieldLink RX6 90 "ClayAccounts$TabletReader" "countPlace" "I", Cond.fieldLink RX6 93 "ClayAccounts$Tokens" "tens" "I", Cond.fieldLink RX6 96 "ClayAccounts$TabletReader" "tens" "I", Cond.fieldLink RX6 97 "ClayAccounts$Tokens" "ones" "I", Cond.fieldLink RX6 100 "ClayAccounts$TabletReader" "ones" "I", Cond.methodLink RX6 101 yX8_demand]
def wsX6_beginLine_r3 : List Cond := [Cond.instanceMethod yX8_demand, Cond.selects RX8 yX8_demand yX8_demand, Cond.code yX8_demand cX8_demand 2 (some .boolean), Cond.fieldLink RX8 37 "ClayAccounts$Tokens" "kind" "I", Cond.fieldLink RX8 40 "ClayAccounts$Tokens" "place" "I"]
def wsX6_beginLine : List Cond := .code yX6_beginLine cX6_beginLine 2 (some .boolean) :: ((wsX6_beginLine_r1 ++ (wsX6_beginLine_r2 ++ wsX6_beginLine_r3)) ++ wsX60 ++ wsX80 ++ wsX50 ++ wsX20)
def wsX9_find : List Cond := .code yX9_find cX9_find 4 (some .int) :: ([.fieldLink RX9 19 "ClayAccounts$Units" "names" "[J"] ++ wsX90)
def wsX6_canCountBe : List Cond := .code yX6_canCountBe cX6_canCountBe 4 (some .boolean) :: ([.fieldLink RX6 96 "ClayAccounts$TabletReader" "tens" "I", .fieldLink RX6 100 "ClayAccounts$TabletReader" "ones" "I"] ++ wsX60)
def wsX6_brokenDigits : List Cond := .code yX6_brokenDigits cX6_brokenDigits 1 (some .int) :: ([.fieldLink RX6 96 "ClayAccounts$TabletReader" "tens" "I", .fieldLink RX6 100 "ClayAccounts$TabletReader" "ones" "I"] ++ wsX60)
def wsX9_systemOf : List Cond := .code yX9_systemOf cX9_systemOf 1 (some .int) :: ([])
def wsX6_isLesser : List Cond := .code yX6_isLesser cX6_isLesser 2 (some .boolean) :: ([.methodLink RX6 135 yX9_systemOf, .static yX9_systemOf, .initialized RX9, .code yX9_systemOf cX9_systemOf 1 (some .int)])
def wsX6_addAmount_r1 : List Cond := [Cond.fieldLink RX6 139 "ClayAccounts$Units" "worths" "[I", Cond.fieldLink RX6 114 "ClayAccounts$Units" "mosts" "[I", Cond.fieldLink RX6 96 "ClayAccounts$TabletReader" "tens" "I", Cond.fieldLink RX6 100 "ClayAccounts$TabletReader" "ones" "I", Cond.methodLink RX6 135 yX9_systemOf, Cond.static yX9_systemOf, Cond.initialized RX9, Cond.code yX9_systemOf cX9_systemOf 1 (some .int), Cond.methodLink RX6 142 yX5_addKnown, Cond.instanceMethod yX5_addKnown, Cond.selects RX5 yX5_addKnown yX5_addKnown, Cond.initialized RX5, Cond.code yX5_addKnown cX5_addKnown 4 none, Cond.fieldLink RX5 25 "ClayAccounts$Tablet" "lineCount" "I", Cond.fieldLink RX5 11 "ClayAccounts$Tablet" "lines" "[LClayAccounts$Line;", Cond.fieldLink RX5 50 "ClayAccounts$Line" "system" "I", Cond.fieldLink RX5 53 "ClayAccounts$Line" "value" "I", Cond.methodLink RX6 146 yX5_addHole, Cond.instanceMethod yX5_addHole, Cond.selects RX5 yX5_addHole yX5_addHole, Cond.code yX5_addHole cX5_addHole 5 (some (.object "ClayAccounts$Hole")), Cond.fieldLink RX5 19 "ClayAccounts$Tablet" "holes" "[LClayAccounts$Hole;", Cond.fieldLink RX5 29 "ClayAccounts$Tablet" "holeCount" "I", Cond.fieldLink RX5 56 "ClayAccounts$Hole" "line" "I"]
def wsX6_addAmount_r2 : List Cond := [Cond.fieldLink RX5 59 "ClayAccounts$Hole" "scale" "I", Cond.fieldLink RX5 62 "ClayAccounts$Hole" "weight" "I", Cond.fieldLink RX5 65 "ClayAccounts$Hole" "sureDigit" "I", Cond.fieldLink RX5 68 "ClayAccounts$Line" "holeCount" "I", Cond.methodLink RX6 150 yX1_limit, Cond.instanceMethod yX1_limit, Cond.selects RX1 yX1_limit yX1_limit, Cond.initialized RX1, Cond.code yX1_limit cX1_limit 4 none, Cond.fieldLink RX1 9 "ClayAccounts$Hole" "leastDigit" "I", Cond.fieldLink RX1 15 "ClayAccounts$Hole" "room" "I", Cond.fieldLink RX1 18 "ClayAccounts$Hole" "isBehindHole" "Z"]
def wsX6_addAmount : List Cond := .code yX6_addAmount cX6_addAmount 9 none :: ((wsX6_addAmount_r1 ++ wsX6_addAmount_r2) ++ wsX90 ++ wsX60 ++ wsX50 ++ wsX20 ++ wsX10)
def wsX6_takeAmount_r1 : List Cond := [Cond.fieldLink RX6 12 "ClayAccounts$TabletReader" "tokens" "LClayAccounts$Tokens;", Cond.fieldLink RX6 34 "ClayAccounts$Tokens" "kind" "I", Cond.fieldLink RX6 104 "ClayAccounts$Tokens" "name" "J", Cond.fieldLink RX6 114 "ClayAccounts$Units" "mosts" "[I", Cond.fieldLink RX6 90 "ClayAccounts$TabletReader" "countPlace" "I", Cond.fieldLink RX6 69 "ClayAccounts$TabletReader" "isLineTooMany" "Z", Cond.fieldLink RX6 121 "ClayAccounts$Tablet" "holeCount" "I", Cond.fieldLink RX6 73 "ClayAccounts$TabletReader" "unitAhead" "I", Cond.fieldLink RX6 83 "ClayAccounts$Tokens" "place" "I", Cond.fieldLink RX6 27 "ClayAccounts$TabletReader" "state" "I", Cond.methodLink RX6 108 yX9_find, Cond.instanceMethod yX9_find, Cond.selects RX9 yX9_find yX9_find, Cond.initialized RX9, Cond.code yX9_find cX9_find 4 (some .int), Cond.fieldLink RX9 19 "ClayAccounts$Units" "names" "[J", Cond.methodLink RX6 118 yX6_canCountBe, Cond.instanceMethod yX6_canCountBe, Cond.selects RX6 yX6_canCountBe yX6_canCountBe, Cond.initialized RX6, Cond.code yX6_canCountBe cX6_canCountBe 4 (some .boolean), Cond.fieldLink RX6 96 "ClayAccounts$TabletReader" "tens" "I", Cond.fieldLink RX6 100 "ClayAccounts$TabletReader" "ones" "I", Cond.methodLink RX6 86 yX8_refuse]
def wsX6_takeAmount_r2 : List Cond := [Cond.instanceMethod yX8_refuse, Cond.selects RX8 yX8_refuse yX8_refuse, Cond.initialized RX8, Cond.code yX8_refuse cX8_refuse 3 (some .boolean), Cond.fieldLink RX8 31 "ClayAccounts$Tokens" "fault" "I", Cond.fieldLink RX8 34 "ClayAccounts$Tokens" "faultPlace" "I", Cond.methodLink RX6 124 yX6_brokenDigits, Cond.instanceMethod yX6_brokenDigits, Cond.selects RX6 yX6_brokenDigits yX6_brokenDigits, Cond.code yX6_brokenDigits cX6_brokenDigits 1 (some .int), Cond.methodLink RX6 101 yX8_demand, Cond.instanceMethod yX8_demand, Cond.selects RX8 yX8_demand yX8_demand, Cond.code yX8_demand cX8_demand 2 (some .boolean), Cond.fieldLink RX8 37 "ClayAccounts$Tokens" "kind" "I", Cond.fieldLink RX8 40 "ClayAccounts$Tokens" "place" "I", Cond.methodLink RX6 128 yX6_isLesser, Cond.static yX6_isLesser, Cond.code yX6_isLesser cX6_isLesser 2 (some .boolean), Cond.methodLink RX6 135 yX9_systemOf, Cond.static yX9_systemOf, Cond.code yX9_systemOf cX9_systemOf 1 (some .int), Cond.methodLink RX6 131 yX6_addAmount, Cond.instanceMethod yX6_addAmount]
def wsX6_takeAmount_r3 : List Cond := [Cond.selects RX6 yX6_addAmount yX6_addAmount, Cond.code yX6_addAmount cX6_addAmount 9 none, Cond.fieldLink RX6 139 "ClayAccounts$Units" "worths" "[I", Cond.methodLink RX6 142 yX5_addKnown, Cond.instanceMethod yX5_addKnown, Cond.selects RX5 yX5_addKnown yX5_addKnown, Cond.initialized RX5, Cond.code yX5_addKnown cX5_addKnown 4 none, Cond.fieldLink RX5 25 "ClayAccounts$Tablet" "lineCount" "I", Cond.fieldLink RX5 11 "ClayAccounts$Tablet" "lines" "[LClayAccounts$Line;", Cond.fieldLink RX5 50 "ClayAccounts$Line" "system" "I", Cond.fieldLink RX5 53 "ClayAccounts$Line" "value" "I", Cond.methodLink RX6 146 yX5_addHole, Cond.instanceMethod yX5_addHole, Cond.selects RX5 yX5_addHole yX5_addHole, Cond.code yX5_addHole cX5_addHole 5 (some (.object "ClayAccounts$Hole")), Cond.fieldLink RX5 19 "ClayAccounts$Tablet" "holes" "[LClayAccounts$Hole;", Cond.fieldLink RX5 29 "ClayAccounts$Tablet" "holeCount" "I", Cond.fieldLink RX5 56 "ClayAccounts$Hole" "line" "I", Cond.fieldLink RX5 59 "ClayAccounts$Hole" "scale" "I", Cond.fieldLink RX5 62 "ClayAccounts$Hole" "weight" "I", Cond.fieldLink RX5 65 "ClayAccounts$Hole" "sureDigit" "I", Cond.fieldLink RX5 68 "ClayAccounts$Line" "holeCount" "I", Cond.methodLink RX6 150 yX1_limit]
def wsX6_takeAmount_r4 : List Cond := [Cond.instanceMethod yX1_limit, Cond.selects RX1 yX1_limit yX1_limit, Cond.initialized RX1, Cond.code yX1_limit cX1_limit 4 none, Cond.fieldLink RX1 9 "ClayAccounts$Hole" "leastDigit" "I", Cond.fieldLink RX1 15 "ClayAccounts$Hole" "room" "I", Cond.fieldLink RX1 18 "ClayAccounts$Hole" "isBehindHole" "Z"]
def wsX6_takeAmount : List Cond := .code yX6_takeAmount cX6_takeAmount 4 (some .boolean) :: ((wsX6_takeAmount_r1 ++ (wsX6_takeAmount_r2 ++ (wsX6_takeAmount_r3 ++ wsX6_takeAmount_r4))) ++ wsX60 ++ wsX80 ++ wsX90 ++ wsX50 ++ wsX20 ++ wsX10)
def wsX6_endLine : List Cond := .code yX6_endLine cX6_endLine 1 (some .boolean) :: ([.fieldLink RX6 27 "ClayAccounts$TabletReader" "state" "I", .fieldLink RX6 12 "ClayAccounts$TabletReader" "tokens" "LClayAccounts$Tokens;", .methodLink RX6 101 yX8_demand, .instanceMethod yX8_demand, .selects RX8 yX8_demand yX8_demand, .initialized RX8, .code yX8_demand cX8_demand 2 (some .boolean), .fieldLink RX8 37 "ClayAccounts$Tokens" "kind" "I", .fieldLink RX8 31 "ClayAccounts$Tokens" "fault" "I", .fieldLink RX8 40 "ClayAccounts$Tokens" "place" "I", .fieldLink RX8 34 "ClayAccounts$Tokens" "faultPlace" "I"] ++ wsX60 ++ wsX80)
def wsX6_takeNameOrEnd_r1 : List Cond := [Cond.fieldLink RX6 76 "ClayAccounts$TabletReader" "lineKind" "I", Cond.fieldLink RX6 12 "ClayAccounts$TabletReader" "tokens" "LClayAccounts$Tokens;", Cond.fieldLink RX6 34 "ClayAccounts$Tokens" "kind" "I", Cond.fieldLink RX6 27 "ClayAccounts$TabletReader" "state" "I", Cond.fieldLink RX6 104 "ClayAccounts$Tokens" "name" "J", Cond.fieldLink RX6 83 "ClayAccounts$Tokens" "place" "I", Cond.methodLink RX6 63 yX6_endLine, Cond.instanceMethod yX6_endLine, Cond.selects RX6 yX6_endLine yX6_endLine, Cond.initialized RX6, Cond.code yX6_endLine cX6_endLine 1 (some .boolean), Cond.methodLink RX6 101 yX8_demand, Cond.instanceMethod yX8_demand, Cond.selects RX8 yX8_demand yX8_demand, Cond.initialized RX8, Cond.code yX8_demand cX8_demand 2 (some .boolean), Cond.fieldLink RX8 37 "ClayAccounts$Tokens" "kind" "I", Cond.fieldLink RX8 31 "ClayAccounts$Tokens" "fault" "I", Cond.fieldLink RX8 40 "ClayAccounts$Tokens" "place" "I", Cond.fieldLink RX8 34 "ClayAccounts$Tokens" "faultPlace" "I", Cond.methodLink RX6 108 yX9_find, Cond.instanceMethod yX9_find, Cond.selects RX9 yX9_find yX9_find, Cond.initialized RX9]
def wsX6_takeNameOrEnd_r2 : List Cond := [Cond.code yX9_find cX9_find 4 (some .int), Cond.fieldLink RX9 19 "ClayAccounts$Units" "names" "[J", Cond.methodLink RX6 86 yX8_refuse, Cond.instanceMethod yX8_refuse, Cond.selects RX8 yX8_refuse yX8_refuse, Cond.code yX8_refuse cX8_refuse 3 (some .boolean)]
def wsX6_takeNameOrEnd : List Cond := .code yX6_takeNameOrEnd cX6_takeNameOrEnd 2 (some .boolean) :: ((wsX6_takeNameOrEnd_r1 ++ wsX6_takeNameOrEnd_r2) ++ wsX60 ++ wsX80 ++ wsX90)
def wsX6_takeToken_r1 : List Cond := [Cond.fieldLink RX6 27 "ClayAccounts$TabletReader" "state" "I", Cond.fieldLink RX6 12 "ClayAccounts$TabletReader" "tokens" "LClayAccounts$Tokens;", Cond.fieldLink RX6 34 "ClayAccounts$Tokens" "kind" "I", Cond.methodLink RX6 48 yX6_beginLine, Cond.instanceMethod yX6_beginLine, Cond.selects RX6 yX6_beginLine yX6_beginLine, Cond.initialized RX6, Cond.code yX6_beginLine cX6_beginLine 2 (some .boolean), Cond.fieldLink RX6 69 "ClayAccounts$TabletReader" "isLineTooMany" "Z", Cond.fieldLink RX6 73 "ClayAccounts$TabletReader" "unitAhead" "I", Cond.fieldLink RX6 76 "ClayAccounts$TabletReader" "lineKind" "I", Cond.fieldLink RX6 83 "ClayAccounts$Tokens" "place" "I", Cond.methodLink RX6 66 yX5_isFull, Cond.instanceMethod yX5_isFull, Cond.selects RX5 yX5_isFull yX5_isFull, Cond.initialized RX5, Cond.code yX5_isFull cX5_isFull 1 (some .boolean), Cond.fieldLink RX5 25 "ClayAccounts$Tablet" "lineCount" "I", Cond.methodLink RX6 79 yX5_addLine, Cond.instanceMethod yX5_addLine, Cond.selects RX5 yX5_addLine yX5_addLine, Cond.code yX5_addLine cX5_addLine 2 none, Cond.fieldLink RX5 11 "ClayAccounts$Tablet" "lines" "[LClayAccounts$Line;", Cond.methodLink RX5 42 yX5_isFull]
def wsX6_takeToken_r2 : List Cond := [Cond.methodLink RX5 46 yX2_begin, Cond.instanceMethod yX2_begin, Cond.selects RX2 yX2_begin yX2_begin, Cond.initialized RX2, Cond.code yX2_begin cX2_begin 2 none, Cond.fieldLink RX2 9 "ClayAccounts$Line" "kind" "I", Cond.fieldLink RX2 15 "ClayAccounts$Line" "system" "I", Cond.fieldLink RX2 18 "ClayAccounts$Line" "holeCount" "I", Cond.fieldLink RX2 21 "ClayAccounts$Line" "value" "I", Cond.fieldLink RX2 24 "ClayAccounts$Line" "least" "I", Cond.fieldLink RX2 27 "ClayAccounts$Line" "greatest" "I", Cond.methodLink RX6 86 yX8_refuse, Cond.instanceMethod yX8_refuse, Cond.selects RX8 yX8_refuse yX8_refuse, Cond.initialized RX8, Cond.code yX8_refuse cX8_refuse 3 (some .boolean), Cond.fieldLink RX8 31 "ClayAccounts$Tokens" "fault" "I", Cond.fieldLink RX8 34 "ClayAccounts$Tokens" "faultPlace" "I", Cond.methodLink RX6 52 yX6_takeCount, Cond.instanceMethod yX6_takeCount, Cond.selects RX6 yX6_takeCount yX6_takeCount, Cond.code yX6_takeCount cX6_takeCount 1 (some .boolean), Cond.fieldLink RX6 90 "ClayAccounts$TabletReader" "countPlace" "I", Cond.fieldLink RX6 93 "ClayAccounts$Tokens" "tens" "I"]
def wsX6_takeToken_r3 : List Cond := [Cond.fieldLink RX6 96 "ClayAccounts$TabletReader" "tens" "I", Cond.fieldLink RX6 97 "ClayAccounts$Tokens" "ones" "I", Cond.fieldLink RX6 100 "ClayAccounts$TabletReader" "ones" "I", Cond.methodLink RX6 101 yX8_demand, Cond.instanceMethod yX8_demand, Cond.selects RX8 yX8_demand yX8_demand, Cond.code yX8_demand cX8_demand 2 (some .boolean), Cond.fieldLink RX8 37 "ClayAccounts$Tokens" "kind" "I", Cond.fieldLink RX8 40 "ClayAccounts$Tokens" "place" "I", Cond.methodLink RX6 56 yX6_takeAmount, Cond.instanceMethod yX6_takeAmount, Cond.selects RX6 yX6_takeAmount yX6_takeAmount, Cond.code yX6_takeAmount cX6_takeAmount 4 (some .boolean), Cond.fieldLink RX6 104 "ClayAccounts$Tokens" "name" "J", Cond.fieldLink RX6 114 "ClayAccounts$Units" "mosts" "[I", Cond.fieldLink RX6 121 "ClayAccounts$Tablet" "holeCount" "I", Cond.methodLink RX6 108 yX9_find, Cond.instanceMethod yX9_find, Cond.selects RX9 yX9_find yX9_find, Cond.initialized RX9, Cond.code yX9_find cX9_find 4 (some .int), Cond.fieldLink RX9 19 "ClayAccounts$Units" "names" "[J", Cond.methodLink RX6 118 yX6_canCountBe, Cond.instanceMethod yX6_canCountBe]
def wsX6_takeToken_r4 : List Cond := [Cond.selects RX6 yX6_canCountBe yX6_canCountBe, Cond.code yX6_canCountBe cX6_canCountBe 4 (some .boolean), Cond.methodLink RX6 124 yX6_brokenDigits, Cond.instanceMethod yX6_brokenDigits, Cond.selects RX6 yX6_brokenDigits yX6_brokenDigits, Cond.code yX6_brokenDigits cX6_brokenDigits 1 (some .int), Cond.methodLink RX6 128 yX6_isLesser, Cond.static yX6_isLesser, Cond.code yX6_isLesser cX6_isLesser 2 (some .boolean), Cond.methodLink RX6 135 yX9_systemOf, Cond.static yX9_systemOf, Cond.code yX9_systemOf cX9_systemOf 1 (some .int), Cond.methodLink RX6 131 yX6_addAmount, Cond.instanceMethod yX6_addAmount, Cond.selects RX6 yX6_addAmount yX6_addAmount, Cond.code yX6_addAmount cX6_addAmount 9 none, Cond.fieldLink RX6 139 "ClayAccounts$Units" "worths" "[I", Cond.methodLink RX6 142 yX5_addKnown, Cond.instanceMethod yX5_addKnown, Cond.selects RX5 yX5_addKnown yX5_addKnown, Cond.code yX5_addKnown cX5_addKnown 4 none, Cond.fieldLink RX5 50 "ClayAccounts$Line" "system" "I", Cond.fieldLink RX5 53 "ClayAccounts$Line" "value" "I", Cond.methodLink RX6 146 yX5_addHole]
def wsX6_takeToken_r5 : List Cond := [Cond.instanceMethod yX5_addHole, Cond.selects RX5 yX5_addHole yX5_addHole, Cond.code yX5_addHole cX5_addHole 5 (some (.object "ClayAccounts$Hole")), Cond.fieldLink RX5 19 "ClayAccounts$Tablet" "holes" "[LClayAccounts$Hole;", Cond.fieldLink RX5 29 "ClayAccounts$Tablet" "holeCount" "I", Cond.fieldLink RX5 56 "ClayAccounts$Hole" "line" "I", Cond.fieldLink RX5 59 "ClayAccounts$Hole" "scale" "I", Cond.fieldLink RX5 62 "ClayAccounts$Hole" "weight" "I", Cond.fieldLink RX5 65 "ClayAccounts$Hole" "sureDigit" "I", Cond.fieldLink RX5 68 "ClayAccounts$Line" "holeCount" "I", Cond.methodLink RX6 150 yX1_limit, Cond.instanceMethod yX1_limit, Cond.selects RX1 yX1_limit yX1_limit, Cond.initialized RX1, Cond.code yX1_limit cX1_limit 4 none, Cond.fieldLink RX1 9 "ClayAccounts$Hole" "leastDigit" "I", Cond.fieldLink RX1 15 "ClayAccounts$Hole" "room" "I", Cond.fieldLink RX1 18 "ClayAccounts$Hole" "isBehindHole" "Z", Cond.methodLink RX6 59 yX6_takeNameOrEnd, Cond.instanceMethod yX6_takeNameOrEnd, Cond.selects RX6 yX6_takeNameOrEnd yX6_takeNameOrEnd, Cond.code yX6_takeNameOrEnd cX6_takeNameOrEnd 2 (some .boolean), Cond.methodLink RX6 63 yX6_endLine, Cond.instanceMethod yX6_endLine]
def wsX6_takeToken_r6 : List Cond := [Cond.selects RX6 yX6_endLine yX6_endLine, Cond.code yX6_endLine cX6_endLine 1 (some .boolean)]
def wsX6_takeToken : List Cond := .code yX6_takeToken cX6_takeToken 3 (some .boolean) :: ((wsX6_takeToken_r1 ++ (wsX6_takeToken_r2 ++ (wsX6_takeToken_r3 ++ (wsX6_takeToken_r4 ++ (wsX6_takeToken_r5 ++ wsX6_takeToken_r6))))) ++ wsX60 ++ wsX80 ++ wsX50 ++ wsX20 ++ wsX90 ++ wsX10)
def wsX6_read_r1 : List Cond := [Cond.fieldLink RX6 12 "ClayAccounts$TabletReader" "tokens" "LClayAccounts$Tokens;", Cond.fieldLink RX6 27 "ClayAccounts$TabletReader" "state" "I", Cond.fieldLink RX6 34 "ClayAccounts$Tokens" "kind" "I", Cond.fieldLink RX6 37 "ClayAccounts$Tablet" "lineCount" "I", Cond.methodLink RX6 18 yX5_clear, Cond.instanceMethod yX5_clear, Cond.selects RX5 yX5_clear yX5_clear, Cond.initialized RX5, Cond.code yX5_clear cX5_clear 1 none, Cond.fieldLink RX5 25 "ClayAccounts$Tablet" "lineCount" "I", Cond.fieldLink RX5 29 "ClayAccounts$Tablet" "holeCount" "I", Cond.fieldLink RX5 32 "ClayAccounts$Tablet" "isSolved" "Z", Cond.fieldLink RX5 36 "ClayAccounts$Tablet" "readingCount" "I", Cond.fieldLink RX5 39 "ClayAccounts$Tablet" "fewestWrong" "I", Cond.methodLink RX6 23 yX8_begin, Cond.instanceMethod yX8_begin, Cond.selects RX8 yX8_begin yX8_begin, Cond.initialized RX8, Cond.code yX8_begin cX8_begin 4 none, Cond.fieldLink RX8 14 "ClayAccounts$Tokens" "text" "LClayAccounts$Text;", Cond.fieldLink RX8 20 "ClayAccounts$Tokens" "most" "I", Cond.fieldLink RX8 24 "ClayAccounts$Tokens" "withBroken" "Z", Cond.fieldLink RX8 28 "ClayAccounts$Tokens" "at" "I", Cond.fieldLink RX8 31 "ClayAccounts$Tokens" "fault" "I"]
def wsX6_read_r2 : List Cond := [Cond.fieldLink RX8 34 "ClayAccounts$Tokens" "faultPlace" "I", Cond.methodLink RX6 31 yX8_advance, Cond.instanceMethod yX8_advance, Cond.selects RX8 yX8_advance yX8_advance, Cond.code yX8_advance cX8_advance 3 none, Cond.fieldLink RX8 43 "ClayAccounts$Text" "size" "I", Cond.methodLink RX8 50 Lib.Math.min.name, Cond.static Lib.Math.min.name, Cond.initialized "java/lang/Math", Cond.code Lib.Math.min.name Lib.Math.min.code 2 (some .int), Cond.fieldLink RX8 37 "ClayAccounts$Tokens" "kind" "I", Cond.fieldLink RX8 40 "ClayAccounts$Tokens" "place" "I", Cond.methodLink RX8 56 yX7_byteAt, Cond.instanceMethod yX7_byteAt, Cond.selects RX7 yX7_byteAt yX7_byteAt, Cond.initialized RX7, Cond.code yX7_byteAt cX7_byteAt 2 (some .int), Cond.fieldLink RX7 21 "ClayAccounts$Text" "size" "I", Cond.fieldLink RX7 15 "ClayAccounts$Text" "bytes" "[B", Cond.methodLink RX8 60 yX8_isBlank, Cond.static yX8_isBlank, Cond.code yX8_isBlank cX8_isBlank 1 (some .boolean), Cond.methodLink RX8 64 yX8_isSmallLetter, Cond.static yX8_isSmallLetter]
def wsX6_read_r3 : List Cond := [Cond.code yX8_isSmallLetter cX8_isSmallLetter 1 (some .boolean), Cond.methodLink RX8 67 yX8_takeName, Cond.instanceMethod yX8_takeName, Cond.selects RX8 yX8_takeName yX8_takeName, Cond.code yX8_takeName cX8_takeName 3 none, Cond.fieldLink RX8 85 "ClayAccounts$Tokens" "name" "J", Cond.methodLink RX8 89 yX8_kindOfName, Cond.instanceMethod yX8_kindOfName, Cond.selects RX8 yX8_kindOfName yX8_kindOfName, Cond.code yX8_kindOfName cX8_kindOfName 1 (some .int), Cond.constantLong RX8 93 (126965465245037), Cond.constantLong RX8 95 (500086104428), Cond.constantLong RX8 97 (444300619364), Cond.methodLink RX8 70 yX8_isDigit, Cond.instanceMethod yX8_isDigit, Cond.selects RX8 yX8_isDigit yX8_isDigit, Cond.code yX8_isDigit cX8_isDigit 2 (some .boolean), Cond.methodLink RX8 73 yX8_takeNumber, Cond.instanceMethod yX8_takeNumber, Cond.selects RX8 yX8_takeNumber yX8_takeNumber, Cond.code yX8_takeNumber cX8_takeNumber 3 none, Cond.fieldLink RX8 79 "ClayAccounts$Tokens" "tens" "I", Cond.fieldLink RX8 82 "ClayAccounts$Tokens" "ones" "I", Cond.methodLink RX8 76 yX8_takeSign]
def wsX6_read_r4 : List Cond := [Cond.instanceMethod yX8_takeSign, Cond.selects RX8 yX8_takeSign yX8_takeSign, Cond.code yX8_takeSign cX8_takeSign 2 none, Cond.methodLink RX6 40 yX8_endsWell, Cond.instanceMethod yX8_endsWell, Cond.selects RX8 yX8_endsWell yX8_endsWell, Cond.code yX8_endsWell cX8_endsWell 2 (some .boolean), Cond.methodLink RX8 46 yX8_refuse, Cond.instanceMethod yX8_refuse, Cond.selects RX8 yX8_refuse yX8_refuse, Cond.code yX8_refuse cX8_refuse 3 (some .boolean), Cond.methodLink RX6 44 yX6_takeToken, Cond.instanceMethod yX6_takeToken, Cond.selects RX6 yX6_takeToken yX6_takeToken, Cond.initialized RX6, Cond.code yX6_takeToken cX6_takeToken 3 (some .boolean), Cond.methodLink RX6 48 yX6_beginLine, Cond.instanceMethod yX6_beginLine, Cond.selects RX6 yX6_beginLine yX6_beginLine, Cond.code yX6_beginLine cX6_beginLine 2 (some .boolean), Cond.fieldLink RX6 69 "ClayAccounts$TabletReader" "isLineTooMany" "Z", Cond.fieldLink RX6 73 "ClayAccounts$TabletReader" "unitAhead" "I", Cond.fieldLink RX6 76 "ClayAccounts$TabletReader" "lineKind" "I", Cond.fieldLink RX6 83 "ClayAccounts$Tokens" "place" "I"]
def wsX6_read_r5 : List Cond := [Cond.methodLink RX6 66 yX5_isFull, Cond.instanceMethod yX5_isFull, Cond.selects RX5 yX5_isFull yX5_isFull, Cond.code yX5_isFull cX5_isFull 1 (some .boolean), Cond.methodLink RX6 79 yX5_addLine, Cond.instanceMethod yX5_addLine, Cond.selects RX5 yX5_addLine yX5_addLine, Cond.code yX5_addLine cX5_addLine 2 none, Cond.fieldLink RX5 11 "ClayAccounts$Tablet" "lines" "[LClayAccounts$Line;", Cond.methodLink RX5 42 yX5_isFull, Cond.methodLink RX5 46 yX2_begin, Cond.instanceMethod yX2_begin, Cond.selects RX2 yX2_begin yX2_begin, Cond.initialized RX2, Cond.code yX2_begin cX2_begin 2 none, Cond.fieldLink RX2 9 "ClayAccounts$Line" "kind" "I", Cond.fieldLink RX2 15 "ClayAccounts$Line" "system" "I", Cond.fieldLink RX2 18 "ClayAccounts$Line" "holeCount" "I", Cond.fieldLink RX2 21 "ClayAccounts$Line" "value" "I", Cond.fieldLink RX2 24 "ClayAccounts$Line" "least" "I", Cond.fieldLink RX2 27 "ClayAccounts$Line" "greatest" "I", Cond.methodLink RX6 86 yX8_refuse, Cond.methodLink RX6 52 yX6_takeCount, Cond.instanceMethod yX6_takeCount]
def wsX6_read_r6 : List Cond := [Cond.selects RX6 yX6_takeCount yX6_takeCount, Cond.code yX6_takeCount cX6_takeCount 1 (some .boolean), Cond.fieldLink RX6 90 "ClayAccounts$TabletReader" "countPlace" "I", Cond.fieldLink RX6 93 "ClayAccounts$Tokens" "tens" "I", Cond.fieldLink RX6 96 "ClayAccounts$TabletReader" "tens" "I", Cond.fieldLink RX6 97 "ClayAccounts$Tokens" "ones" "I", Cond.fieldLink RX6 100 "ClayAccounts$TabletReader" "ones" "I", Cond.methodLink RX6 101 yX8_demand, Cond.instanceMethod yX8_demand, Cond.selects RX8 yX8_demand yX8_demand, Cond.code yX8_demand cX8_demand 2 (some .boolean), Cond.methodLink RX6 56 yX6_takeAmount, Cond.instanceMethod yX6_takeAmount, Cond.selects RX6 yX6_takeAmount yX6_takeAmount, Cond.code yX6_takeAmount cX6_takeAmount 4 (some .boolean), Cond.fieldLink RX6 104 "ClayAccounts$Tokens" "name" "J", Cond.fieldLink RX6 114 "ClayAccounts$Units" "mosts" "[I", Cond.fieldLink RX6 121 "ClayAccounts$Tablet" "holeCount" "I", Cond.methodLink RX6 108 yX9_find, Cond.instanceMethod yX9_find, Cond.selects RX9 yX9_find yX9_find, Cond.initialized RX9, Cond.code yX9_find cX9_find 4 (some .int), Cond.fieldLink RX9 19 "ClayAccounts$Units" "names" "[J"]
def wsX6_read_r7 : List Cond := [Cond.methodLink RX6 118 yX6_canCountBe, Cond.instanceMethod yX6_canCountBe, Cond.selects RX6 yX6_canCountBe yX6_canCountBe, Cond.code yX6_canCountBe cX6_canCountBe 4 (some .boolean), Cond.methodLink RX6 124 yX6_brokenDigits, Cond.instanceMethod yX6_brokenDigits, Cond.selects RX6 yX6_brokenDigits yX6_brokenDigits, Cond.code yX6_brokenDigits cX6_brokenDigits 1 (some .int), Cond.methodLink RX6 128 yX6_isLesser, Cond.static yX6_isLesser, Cond.code yX6_isLesser cX6_isLesser 2 (some .boolean), Cond.methodLink RX6 135 yX9_systemOf, Cond.static yX9_systemOf, Cond.code yX9_systemOf cX9_systemOf 1 (some .int), Cond.methodLink RX6 131 yX6_addAmount, Cond.instanceMethod yX6_addAmount, Cond.selects RX6 yX6_addAmount yX6_addAmount, Cond.code yX6_addAmount cX6_addAmount 9 none, Cond.fieldLink RX6 139 "ClayAccounts$Units" "worths" "[I", Cond.methodLink RX6 142 yX5_addKnown, Cond.instanceMethod yX5_addKnown, Cond.selects RX5 yX5_addKnown yX5_addKnown, Cond.code yX5_addKnown cX5_addKnown 4 none, Cond.fieldLink RX5 50 "ClayAccounts$Line" "system" "I"]
def wsX6_read_r8 : List Cond := [Cond.fieldLink RX5 53 "ClayAccounts$Line" "value" "I", Cond.methodLink RX6 146 yX5_addHole, Cond.instanceMethod yX5_addHole, Cond.selects RX5 yX5_addHole yX5_addHole, Cond.code yX5_addHole cX5_addHole 5 (some (.object "ClayAccounts$Hole")), Cond.fieldLink RX5 19 "ClayAccounts$Tablet" "holes" "[LClayAccounts$Hole;", Cond.fieldLink RX5 56 "ClayAccounts$Hole" "line" "I", Cond.fieldLink RX5 59 "ClayAccounts$Hole" "scale" "I", Cond.fieldLink RX5 62 "ClayAccounts$Hole" "weight" "I", Cond.fieldLink RX5 65 "ClayAccounts$Hole" "sureDigit" "I", Cond.fieldLink RX5 68 "ClayAccounts$Line" "holeCount" "I", Cond.methodLink RX6 150 yX1_limit, Cond.instanceMethod yX1_limit, Cond.selects RX1 yX1_limit yX1_limit, Cond.initialized RX1, Cond.code yX1_limit cX1_limit 4 none, Cond.fieldLink RX1 9 "ClayAccounts$Hole" "leastDigit" "I", Cond.fieldLink RX1 15 "ClayAccounts$Hole" "room" "I", Cond.fieldLink RX1 18 "ClayAccounts$Hole" "isBehindHole" "Z", Cond.methodLink RX6 59 yX6_takeNameOrEnd, Cond.instanceMethod yX6_takeNameOrEnd, Cond.selects RX6 yX6_takeNameOrEnd yX6_takeNameOrEnd, Cond.code yX6_takeNameOrEnd cX6_takeNameOrEnd 2 (some .boolean), Cond.methodLink RX6 63 yX6_endLine]
def wsX6_read_r9 : List Cond := [Cond.instanceMethod yX6_endLine, Cond.selects RX6 yX6_endLine yX6_endLine, Cond.code yX6_endLine cX6_endLine 1 (some .boolean)]
def wsX6_read : List Cond := .code yX6_read cX6_read 5 (some .boolean) :: ((wsX6_read_r1 ++ (wsX6_read_r2 ++ (wsX6_read_r3 ++ (wsX6_read_r4 ++ (wsX6_read_r5 ++ (wsX6_read_r6 ++ (wsX6_read_r7 ++ (wsX6_read_r8 ++ wsX6_read_r9)))))))) ++ wsX60 ++ wsX80 ++ wsX50 ++ wsX70 ++ wsX20 ++ wsX90 ++ wsX10)
def wsX7_putFour : List Cond := .code yX7_putFour cX7_putFour 2 none :: ([.methodLink RX7 25 yX7_put, .instanceMethod yX7_put, .selects RX7 yX7_put yX7_put, .initialized RX7, .code yX7_put cX7_put 2 none, .fieldLink RX7 21 "ClayAccounts$Text" "size" "I", .fieldLink RX7 15 "ClayAccounts$Text" "bytes" "[B"] ++ wsX70)
def wsX8_number : List Cond := .code yX8_number cX8_number 1 (some .int) :: ([.fieldLink RX8 79 "ClayAccounts$Tokens" "tens" "I", .fieldLink RX8 82 "ClayAccounts$Tokens" "ones" "I"] ++ wsX80)
def wsX9_init : List Cond := .code yX9_init cX9_init 1 none :: ([.methodLink RX9 3 objectInit, .instanceMethod objectInit, .code objectInit ⟨#[0xb1]⟩ 1 none, .arrayClass .long, .fieldLink RX9 9 "ClayAccounts$Units" "systemNames" "[J", .arrayClass .int, .fieldLink RX9 15 "ClayAccounts$Units" "unitCounts" "[I", .fieldLink RX9 19 "ClayAccounts$Units" "names" "[J", .fieldLink RX9 22 "ClayAccounts$Units" "factors" "[I", .fieldLink RX9 25 "ClayAccounts$Units" "worths" "[I", .fieldLink RX9 28 "ClayAccounts$Units" "mosts" "[I"] ++ wsX90)
def wsX9_slot : List Cond := .code yX9_slot cX9_slot 2 (some .int) :: ([])
def wsJ7_fill_d0a16 : List Cond := .code yJ7_fill_d0a16 cJ7_fill_d0a16 5 none :: ([])
def wsX9_clear : List Cond := .code yX9_clear cX9_clear 1 none :: ([.fieldLink RX9 31 "ClayAccounts$Units" "systemCount" "I", .fieldLink RX9 9 "ClayAccounts$Units" "systemNames" "[J", .fieldLink RX9 15 "ClayAccounts$Units" "unitCounts" "[I", .fieldLink RX9 19 "ClayAccounts$Units" "names" "[J", .methodLink RX9 35 yJ7_fill_d0a16, .static yJ7_fill_d0a16, .initialized RJ7, .code yJ7_fill_d0a16 cJ7_fill_d0a16 5 none, .methodLink RX9 41 yJ7_fill_53178, .static yJ7_fill_53178, .code yJ7_fill_53178 cJ7_fill_53178 4 none] ++ wsX90)
def wsX9_addSystem : List Cond := .code yX9_addSystem cX9_addSystem 3 none :: ([.fieldLink RX9 31 "ClayAccounts$Units" "systemCount" "I", .fieldLink RX9 9 "ClayAccounts$Units" "systemNames" "[J"] ++ wsX90)
def wsX9_isFull : List Cond := .code yX9_isFull cX9_isFull 1 (some .boolean) :: ([.fieldLink RX9 31 "ClayAccounts$Units" "systemCount" "I", .fieldLink RX9 15 "ClayAccounts$Units" "unitCounts" "[I"] ++ wsX90)
def wsX9_addUnit : List Cond := .code yX9_addUnit cX9_addUnit 6 none :: ([.fieldLink RX9 31 "ClayAccounts$Units" "systemCount" "I", .fieldLink RX9 15 "ClayAccounts$Units" "unitCounts" "[I", .fieldLink RX9 19 "ClayAccounts$Units" "names" "[J", .fieldLink RX9 22 "ClayAccounts$Units" "factors" "[I", .fieldLink RX9 25 "ClayAccounts$Units" "worths" "[I", .fieldLink RX9 28 "ClayAccounts$Units" "mosts" "[I", .methodLink RX9 44 yX9_isFull, .instanceMethod yX9_isFull, .selects RX9 yX9_isFull yX9_isFull, .initialized RX9, .code yX9_isFull cX9_isFull 1 (some .boolean), .methodLink RX9 48 yX9_slot, .static yX9_slot, .code yX9_slot cX9_slot 2 (some .int)] ++ wsX90)
def wsX9_isTaken : List Cond := .code yX9_isTaken cX9_isTaken 4 (some .boolean) :: ([.fieldLink RX9 9 "ClayAccounts$Units" "systemNames" "[J", .methodLink RX9 52 yX9_find, .instanceMethod yX9_find, .selects RX9 yX9_find yX9_find, .initialized RX9, .code yX9_find cX9_find 4 (some .int), .fieldLink RX9 19 "ClayAccounts$Units" "names" "[J"] ++ wsX90)
def wsX9_canWrite : List Cond := .code yX9_canWrite cX9_canWrite 5 (some .boolean) :: ([.fieldLink RX9 15 "ClayAccounts$Units" "unitCounts" "[I", .fieldLink RX9 25 "ClayAccounts$Units" "worths" "[I", .methodLink RX9 48 yX9_slot, .static yX9_slot, .initialized RX9, .code yX9_slot cX9_slot 2 (some .int)] ++ wsX90)
def wsX9_writeAmount : List Cond := .code yX9_writeAmount cX9_writeAmount 6 none :: ([.fieldLink RX9 60 "ClayAccounts$Text" "size" "I", .methodLink RX9 65 yX7_put, .instanceMethod yX7_put, .selects RX7 yX7_put yX7_put, .initialized RX7, .code yX7_put cX7_put 2 none, .fieldLink RX7 21 "ClayAccounts$Text" "size" "I", .fieldLink RX7 15 "ClayAccounts$Text" "bytes" "[B"] ++ wsX70)
def wsX9_writeTo : List Cond := .code yX9_writeTo cX9_writeTo 9 none :: ([.fieldLink RX9 15 "ClayAccounts$Units" "unitCounts" "[I", .fieldLink RX9 25 "ClayAccounts$Units" "worths" "[I", .fieldLink RX9 19 "ClayAccounts$Units" "names" "[J", .methodLink RX9 48 yX9_slot, .static yX9_slot, .initialized RX9, .code yX9_slot cX9_slot 2 (some .int), .methodLink RX9 56 yX9_writeAmount, .static yX9_writeAmount, .code yX9_writeAmount cX9_writeAmount 6 none, .fieldLink RX9 60 "ClayAccounts$Text" "size" "I", .methodLink RX9 65 yX7_put, .instanceMethod yX7_put, .selects RX7 yX7_put yX7_put, .initialized RX7, .code yX7_put cX7_put 2 none, .fieldLink RX7 21 "ClayAccounts$Text" "size" "I", .fieldLink RX7 15 "ClayAccounts$Text" "bytes" "[B"] ++ wsX90 ++ wsX70)
def wsX10_init_r1 : List Cond := [Cond.methodLink RX10 3 objectInit, Cond.instanceMethod objectInit, Cond.code objectInit ⟨#[0xb1]⟩ 1 none, Cond.classLink RX10 9 RX8, Cond.instantiable RX8 11, Cond.initialized RX8, Cond.fieldLink RX10 12 "ClayAccounts$UnitsReader" "tokens" "LClayAccounts$Tokens;", Cond.instanceMethod yX8_init, Cond.code yX8_init cX8_init 1 none, Cond.methodLink RX8 3 objectInit, Cond.classLink RX8 9 RX7, Cond.instantiable RX7 2, Cond.initialized RX7, Cond.fieldLink RX8 14 "ClayAccounts$Tokens" "text" "LClayAccounts$Text;", Cond.methodLink RX8 11 yX7_init, Cond.instanceMethod yX7_init, Cond.code yX7_init cX7_init 2 none, Cond.methodLink RX7 3 objectInit, Cond.methodLink RX7 9 Lib.Math.max.name, Cond.static Lib.Math.max.name, Cond.initialized "java/lang/Math", Cond.code Lib.Math.max.name Lib.Math.max.code 2 (some .int), Cond.arrayClass .byte, Cond.fieldLink RX7 15 "ClayAccounts$Text" "bytes" "[B"]
def wsX10_init_r2 : List Cond := [Cond.fieldLink RX7 21 "ClayAccounts$Text" "size" "I"]
def wsX10_init : List Cond := .code yX10_init cX10_init 1 none :: ((wsX10_init_r1 ++ wsX10_init_r2) ++ wsX80 ++ wsX100 ++ wsX70)
def wsX10_beginSystem : List Cond := .code yX10_beginSystem cX10_beginSystem 2 (some .boolean) :: ([.fieldLink RX10 12 "ClayAccounts$UnitsReader" "tokens" "LClayAccounts$Tokens;", .fieldLink RX10 27 "ClayAccounts$UnitsReader" "state" "I", .fieldLink RX10 37 "ClayAccounts$Units" "systemCount" "I", .fieldLink RX10 70 "ClayAccounts$Tokens" "place" "I", .methodLink RX10 57 yX8_demand, .instanceMethod yX8_demand, .selects RX8 yX8_demand yX8_demand, .initialized RX8, .code yX8_demand cX8_demand 2 (some .boolean), .fieldLink RX8 37 "ClayAccounts$Tokens" "kind" "I", .fieldLink RX8 31 "ClayAccounts$Tokens" "fault" "I", .fieldLink RX8 40 "ClayAccounts$Tokens" "place" "I", .fieldLink RX8 34 "ClayAccounts$Tokens" "faultPlace" "I", .methodLink RX10 73 yX8_refuse, .instanceMethod yX8_refuse, .selects RX8 yX8_refuse yX8_refuse, .code yX8_refuse cX8_refuse 3 (some .boolean)] ++ wsX100 ++ wsX90 ++ wsX80)
def wsX10_isNewName_r1 : List Cond := [Cond.fieldLink RX10 12 "ClayAccounts$UnitsReader" "tokens" "LClayAccounts$Tokens;", Cond.fieldLink RX10 80 "ClayAccounts$Tokens" "name" "J", Cond.fieldLink RX10 70 "ClayAccounts$Tokens" "place" "I", Cond.methodLink RX10 57 yX8_demand, Cond.instanceMethod yX8_demand, Cond.selects RX8 yX8_demand yX8_demand, Cond.initialized RX8, Cond.code yX8_demand cX8_demand 2 (some .boolean), Cond.fieldLink RX8 37 "ClayAccounts$Tokens" "kind" "I", Cond.fieldLink RX8 31 "ClayAccounts$Tokens" "fault" "I", Cond.fieldLink RX8 40 "ClayAccounts$Tokens" "place" "I", Cond.fieldLink RX8 34 "ClayAccounts$Tokens" "faultPlace" "I", Cond.methodLink RX10 92 yX9_isTaken, Cond.instanceMethod yX9_isTaken, Cond.selects RX9 yX9_isTaken yX9_isTaken, Cond.initialized RX9, Cond.code yX9_isTaken cX9_isTaken 4 (some .boolean), Cond.fieldLink RX9 9 "ClayAccounts$Units" "systemNames" "[J", Cond.methodLink RX9 52 yX9_find, Cond.instanceMethod yX9_find, Cond.selects RX9 yX9_find yX9_find, Cond.code yX9_find cX9_find 4 (some .int), Cond.fieldLink RX9 19 "ClayAccounts$Units" "names" "[J", Cond.methodLink RX10 73 yX8_refuse]
def wsX10_isNewName_r2 : List Cond := [Cond.instanceMethod yX8_refuse, Cond.selects RX8 yX8_refuse yX8_refuse, Cond.code yX8_refuse cX8_refuse 3 (some .boolean)]
def wsX10_isNewName : List Cond := .code yX10_isNewName cX10_isNewName 2 (some .boolean) :: ((wsX10_isNewName_r1 ++ wsX10_isNewName_r2) ++ wsX100 ++ wsX80 ++ wsX90)
def wsX10_takeSystemName_r1 : List Cond := [Cond.fieldLink RX10 12 "ClayAccounts$UnitsReader" "tokens" "LClayAccounts$Tokens;", Cond.fieldLink RX10 80 "ClayAccounts$Tokens" "name" "J", Cond.fieldLink RX10 27 "ClayAccounts$UnitsReader" "state" "I", Cond.methodLink RX10 77 yX10_isNewName, Cond.instanceMethod yX10_isNewName, Cond.selects RX10 yX10_isNewName yX10_isNewName, Cond.initialized RX10, Cond.code yX10_isNewName cX10_isNewName 2 (some .boolean), Cond.fieldLink RX10 70 "ClayAccounts$Tokens" "place" "I", Cond.methodLink RX10 57 yX8_demand, Cond.instanceMethod yX8_demand, Cond.selects RX8 yX8_demand yX8_demand, Cond.initialized RX8, Cond.code yX8_demand cX8_demand 2 (some .boolean), Cond.fieldLink RX8 37 "ClayAccounts$Tokens" "kind" "I", Cond.fieldLink RX8 31 "ClayAccounts$Tokens" "fault" "I", Cond.fieldLink RX8 40 "ClayAccounts$Tokens" "place" "I", Cond.fieldLink RX8 34 "ClayAccounts$Tokens" "faultPlace" "I", Cond.methodLink RX10 92 yX9_isTaken, Cond.instanceMethod yX9_isTaken, Cond.selects RX9 yX9_isTaken yX9_isTaken, Cond.initialized RX9, Cond.code yX9_isTaken cX9_isTaken 4 (some .boolean), Cond.fieldLink RX9 9 "ClayAccounts$Units" "systemNames" "[J"]
def wsX10_takeSystemName_r2 : List Cond := [Cond.methodLink RX9 52 yX9_find, Cond.instanceMethod yX9_find, Cond.selects RX9 yX9_find yX9_find, Cond.code yX9_find cX9_find 4 (some .int), Cond.fieldLink RX9 19 "ClayAccounts$Units" "names" "[J", Cond.methodLink RX10 73 yX8_refuse, Cond.instanceMethod yX8_refuse, Cond.selects RX8 yX8_refuse yX8_refuse, Cond.code yX8_refuse cX8_refuse 3 (some .boolean), Cond.methodLink RX10 84 yX9_addSystem, Cond.instanceMethod yX9_addSystem, Cond.selects RX9 yX9_addSystem yX9_addSystem, Cond.code yX9_addSystem cX9_addSystem 3 none, Cond.fieldLink RX9 31 "ClayAccounts$Units" "systemCount" "I"]
def wsX10_takeSystemName : List Cond := .code yX10_takeSystemName cX10_takeSystemName 2 (some .boolean) :: ((wsX10_takeSystemName_r1 ++ wsX10_takeSystemName_r2) ++ wsX100 ++ wsX80 ++ wsX90)
def wsX10_takeUnitName_r1 : List Cond := [Cond.fieldLink RX10 12 "ClayAccounts$UnitsReader" "tokens" "LClayAccounts$Tokens;", Cond.fieldLink RX10 80 "ClayAccounts$Tokens" "name" "J", Cond.fieldLink RX10 54 "ClayAccounts$UnitsReader" "factor" "I", Cond.fieldLink RX10 27 "ClayAccounts$UnitsReader" "state" "I", Cond.methodLink RX10 77 yX10_isNewName, Cond.instanceMethod yX10_isNewName, Cond.selects RX10 yX10_isNewName yX10_isNewName, Cond.initialized RX10, Cond.code yX10_isNewName cX10_isNewName 2 (some .boolean), Cond.fieldLink RX10 70 "ClayAccounts$Tokens" "place" "I", Cond.methodLink RX10 57 yX8_demand, Cond.instanceMethod yX8_demand, Cond.selects RX8 yX8_demand yX8_demand, Cond.initialized RX8, Cond.code yX8_demand cX8_demand 2 (some .boolean), Cond.fieldLink RX8 37 "ClayAccounts$Tokens" "kind" "I", Cond.fieldLink RX8 31 "ClayAccounts$Tokens" "fault" "I", Cond.fieldLink RX8 40 "ClayAccounts$Tokens" "place" "I", Cond.fieldLink RX8 34 "ClayAccounts$Tokens" "faultPlace" "I", Cond.methodLink RX10 92 yX9_isTaken, Cond.instanceMethod yX9_isTaken, Cond.selects RX9 yX9_isTaken yX9_isTaken, Cond.initialized RX9, Cond.code yX9_isTaken cX9_isTaken 4 (some .boolean)]
def wsX10_takeUnitName_r2 : List Cond := [Cond.fieldLink RX9 9 "ClayAccounts$Units" "systemNames" "[J", Cond.methodLink RX9 52 yX9_find, Cond.instanceMethod yX9_find, Cond.selects RX9 yX9_find yX9_find, Cond.code yX9_find cX9_find 4 (some .int), Cond.fieldLink RX9 19 "ClayAccounts$Units" "names" "[J", Cond.methodLink RX10 73 yX8_refuse, Cond.instanceMethod yX8_refuse, Cond.selects RX8 yX8_refuse yX8_refuse, Cond.code yX8_refuse cX8_refuse 3 (some .boolean), Cond.methodLink RX10 88 yX9_addUnit, Cond.instanceMethod yX9_addUnit, Cond.selects RX9 yX9_addUnit yX9_addUnit, Cond.code yX9_addUnit cX9_addUnit 6 none, Cond.fieldLink RX9 31 "ClayAccounts$Units" "systemCount" "I", Cond.fieldLink RX9 15 "ClayAccounts$Units" "unitCounts" "[I", Cond.fieldLink RX9 22 "ClayAccounts$Units" "factors" "[I", Cond.fieldLink RX9 25 "ClayAccounts$Units" "worths" "[I", Cond.fieldLink RX9 28 "ClayAccounts$Units" "mosts" "[I", Cond.methodLink RX9 44 yX9_isFull, Cond.instanceMethod yX9_isFull, Cond.selects RX9 yX9_isFull yX9_isFull, Cond.code yX9_isFull cX9_isFull 1 (some .boolean), Cond.methodLink RX9 48 yX9_slot]
def wsX10_takeUnitName_r3 : List Cond := [Cond.static yX9_slot, Cond.code yX9_slot cX9_slot 2 (some .int)]
def wsX10_takeUnitName : List Cond := .code yX10_takeUnitName cX10_takeUnitName 2 (some .boolean) :: ((wsX10_takeUnitName_r1 ++ (wsX10_takeUnitName_r2 ++ wsX10_takeUnitName_r3)) ++ wsX100 ++ wsX80 ++ wsX90)
def wsX10_takeFactor : List Cond := .code yX10_takeFactor cX10_takeFactor 2 (some .boolean) :: ([.fieldLink RX10 12 "ClayAccounts$UnitsReader" "tokens" "LClayAccounts$Tokens;", .fieldLink RX10 54 "ClayAccounts$UnitsReader" "factor" "I", .fieldLink RX10 70 "ClayAccounts$Tokens" "place" "I", .fieldLink RX10 27 "ClayAccounts$UnitsReader" "state" "I", .methodLink RX10 96 yX8_number, .instanceMethod yX8_number, .selects RX8 yX8_number yX8_number, .initialized RX8, .code yX8_number cX8_number 1 (some .int), .fieldLink RX8 79 "ClayAccounts$Tokens" "tens" "I", .fieldLink RX8 82 "ClayAccounts$Tokens" "ones" "I", .methodLink RX10 73 yX8_refuse, .instanceMethod yX8_refuse, .selects RX8 yX8_refuse yX8_refuse, .code yX8_refuse cX8_refuse 3 (some .boolean), .fieldLink RX8 31 "ClayAccounts$Tokens" "fault" "I", .fieldLink RX8 34 "ClayAccounts$Tokens" "faultPlace" "I", .methodLink RX10 100 yX9_isFull, .instanceMethod yX9_isFull, .selects RX9 yX9_isFull yX9_isFull, .initialized RX9, .code yX9_isFull cX9_isFull 1 (some .boolean), .fieldLink RX9 31 "ClayAccounts$Units" "systemCount" "I", .fieldLink RX9 15 "ClayAccounts$Units" "unitCounts" "[I"] ++ wsX100 ++ wsX80 ++ wsX90)
def wsX10_endSystem : List Cond := .code yX10_endSystem cX10_endSystem 1 (some .boolean) :: ([.fieldLink RX10 27 "ClayAccounts$UnitsReader" "state" "I", .fieldLink RX10 12 "ClayAccounts$UnitsReader" "tokens" "LClayAccounts$Tokens;", .methodLink RX10 57 yX8_demand, .instanceMethod yX8_demand, .selects RX8 yX8_demand yX8_demand, .initialized RX8, .code yX8_demand cX8_demand 2 (some .boolean), .fieldLink RX8 37 "ClayAccounts$Tokens" "kind" "I", .fieldLink RX8 31 "ClayAccounts$Tokens" "fault" "I", .fieldLink RX8 40 "ClayAccounts$Tokens" "place" "I", .fieldLink RX8 34 "ClayAccounts$Tokens" "faultPlace" "I"] ++ wsX100 ++ wsX80)
def wsX10_takeToken_r1 : List Cond := [Cond.fieldLink RX10 27 "ClayAccounts$UnitsReader" "state" "I", Cond.fieldLink RX10 54 "ClayAccounts$UnitsReader" "factor" "I", Cond.fieldLink RX10 12 "ClayAccounts$UnitsReader" "tokens" "LClayAccounts$Tokens;", Cond.fieldLink RX10 34 "ClayAccounts$Tokens" "kind" "I", Cond.methodLink RX10 48 yX10_beginSystem, Cond.instanceMethod yX10_beginSystem, Cond.selects RX10 yX10_beginSystem yX10_beginSystem, Cond.initialized RX10, Cond.code yX10_beginSystem cX10_beginSystem 2 (some .boolean), Cond.fieldLink RX10 37 "ClayAccounts$Units" "systemCount" "I", Cond.fieldLink RX10 70 "ClayAccounts$Tokens" "place" "I", Cond.methodLink RX10 57 yX8_demand, Cond.instanceMethod yX8_demand, Cond.selects RX8 yX8_demand yX8_demand, Cond.initialized RX8, Cond.code yX8_demand cX8_demand 2 (some .boolean), Cond.fieldLink RX8 37 "ClayAccounts$Tokens" "kind" "I", Cond.fieldLink RX8 31 "ClayAccounts$Tokens" "fault" "I", Cond.fieldLink RX8 40 "ClayAccounts$Tokens" "place" "I", Cond.fieldLink RX8 34 "ClayAccounts$Tokens" "faultPlace" "I", Cond.methodLink RX10 73 yX8_refuse, Cond.instanceMethod yX8_refuse, Cond.selects RX8 yX8_refuse yX8_refuse, Cond.code yX8_refuse cX8_refuse 3 (some .boolean)]
def wsX10_takeToken_r2 : List Cond := [Cond.methodLink RX10 51 yX10_takeSystemName, Cond.instanceMethod yX10_takeSystemName, Cond.selects RX10 yX10_takeSystemName yX10_takeSystemName, Cond.code yX10_takeSystemName cX10_takeSystemName 2 (some .boolean), Cond.fieldLink RX10 80 "ClayAccounts$Tokens" "name" "J", Cond.methodLink RX10 77 yX10_isNewName, Cond.instanceMethod yX10_isNewName, Cond.selects RX10 yX10_isNewName yX10_isNewName, Cond.code yX10_isNewName cX10_isNewName 2 (some .boolean), Cond.methodLink RX10 92 yX9_isTaken, Cond.instanceMethod yX9_isTaken, Cond.selects RX9 yX9_isTaken yX9_isTaken, Cond.initialized RX9, Cond.code yX9_isTaken cX9_isTaken 4 (some .boolean), Cond.fieldLink RX9 9 "ClayAccounts$Units" "systemNames" "[J", Cond.methodLink RX9 52 yX9_find, Cond.instanceMethod yX9_find, Cond.selects RX9 yX9_find yX9_find, Cond.code yX9_find cX9_find 4 (some .int), Cond.fieldLink RX9 19 "ClayAccounts$Units" "names" "[J", Cond.methodLink RX10 84 yX9_addSystem, Cond.instanceMethod yX9_addSystem, Cond.selects RX9 yX9_addSystem yX9_addSystem, Cond.code yX9_addSystem cX9_addSystem 3 none]
def wsX10_takeToken_r3 : List Cond := [Cond.fieldLink RX9 31 "ClayAccounts$Units" "systemCount" "I", Cond.methodLink RX10 60 yX10_takeUnitName, Cond.instanceMethod yX10_takeUnitName, Cond.selects RX10 yX10_takeUnitName yX10_takeUnitName, Cond.code yX10_takeUnitName cX10_takeUnitName 2 (some .boolean), Cond.methodLink RX10 88 yX9_addUnit, Cond.instanceMethod yX9_addUnit, Cond.selects RX9 yX9_addUnit yX9_addUnit, Cond.code yX9_addUnit cX9_addUnit 6 none, Cond.fieldLink RX9 15 "ClayAccounts$Units" "unitCounts" "[I", Cond.fieldLink RX9 22 "ClayAccounts$Units" "factors" "[I", Cond.fieldLink RX9 25 "ClayAccounts$Units" "worths" "[I", Cond.fieldLink RX9 28 "ClayAccounts$Units" "mosts" "[I", Cond.methodLink RX9 44 yX9_isFull, Cond.instanceMethod yX9_isFull, Cond.selects RX9 yX9_isFull yX9_isFull, Cond.code yX9_isFull cX9_isFull 1 (some .boolean), Cond.methodLink RX9 48 yX9_slot, Cond.static yX9_slot, Cond.code yX9_slot cX9_slot 2 (some .int), Cond.methodLink RX10 63 yX10_takeFactor, Cond.instanceMethod yX10_takeFactor, Cond.selects RX10 yX10_takeFactor yX10_takeFactor, Cond.code yX10_takeFactor cX10_takeFactor 2 (some .boolean)]
def wsX10_takeToken_r4 : List Cond := [Cond.methodLink RX10 96 yX8_number, Cond.instanceMethod yX8_number, Cond.selects RX8 yX8_number yX8_number, Cond.code yX8_number cX8_number 1 (some .int), Cond.fieldLink RX8 79 "ClayAccounts$Tokens" "tens" "I", Cond.fieldLink RX8 82 "ClayAccounts$Tokens" "ones" "I", Cond.methodLink RX10 100 yX9_isFull, Cond.methodLink RX10 66 yX10_endSystem, Cond.instanceMethod yX10_endSystem, Cond.selects RX10 yX10_endSystem yX10_endSystem, Cond.code yX10_endSystem cX10_endSystem 1 (some .boolean)]
def wsX10_takeToken : List Cond := .code yX10_takeToken cX10_takeToken 2 (some .boolean) :: ((wsX10_takeToken_r1 ++ (wsX10_takeToken_r2 ++ (wsX10_takeToken_r3 ++ wsX10_takeToken_r4))) ++ wsX100 ++ wsX80 ++ wsX90)
def wsX10_read_r1 : List Cond := [Cond.fieldLink RX10 12 "ClayAccounts$UnitsReader" "tokens" "LClayAccounts$Tokens;", Cond.fieldLink RX10 27 "ClayAccounts$UnitsReader" "state" "I", Cond.fieldLink RX10 34 "ClayAccounts$Tokens" "kind" "I", Cond.fieldLink RX10 37 "ClayAccounts$Units" "systemCount" "I", Cond.methodLink RX10 18 yX9_clear, Cond.instanceMethod yX9_clear, Cond.selects RX9 yX9_clear yX9_clear, Cond.initialized RX9, Cond.code yX9_clear cX9_clear 1 none, Cond.fieldLink RX9 31 "ClayAccounts$Units" "systemCount" "I", Cond.fieldLink RX9 9 "ClayAccounts$Units" "systemNames" "[J", Cond.fieldLink RX9 15 "ClayAccounts$Units" "unitCounts" "[I", Cond.fieldLink RX9 19 "ClayAccounts$Units" "names" "[J", Cond.methodLink RX9 35 yJ7_fill_d0a16, Cond.static yJ7_fill_d0a16, Cond.initialized RJ7, Cond.code yJ7_fill_d0a16 cJ7_fill_d0a16 5 none, Cond.methodLink RX9 41 yJ7_fill_53178, Cond.static yJ7_fill_53178, Cond.code yJ7_fill_53178 cJ7_fill_53178 4 none, Cond.methodLink RX10 23 yX8_begin, Cond.instanceMethod yX8_begin, Cond.selects RX8 yX8_begin yX8_begin, Cond.initialized RX8]
def wsX10_read_r2 : List Cond := [Cond.code yX8_begin cX8_begin 4 none, Cond.fieldLink RX8 14 "ClayAccounts$Tokens" "text" "LClayAccounts$Text;", Cond.fieldLink RX8 20 "ClayAccounts$Tokens" "most" "I", Cond.fieldLink RX8 24 "ClayAccounts$Tokens" "withBroken" "Z", Cond.fieldLink RX8 28 "ClayAccounts$Tokens" "at" "I", Cond.fieldLink RX8 31 "ClayAccounts$Tokens" "fault" "I", Cond.fieldLink RX8 34 "ClayAccounts$Tokens" "faultPlace" "I", Cond.methodLink RX10 31 yX8_advance, Cond.instanceMethod yX8_advance, Cond.selects RX8 yX8_advance yX8_advance, Cond.code yX8_advance cX8_advance 3 none, Cond.fieldLink RX8 43 "ClayAccounts$Text" "size" "I", Cond.methodLink RX8 50 Lib.Math.min.name, Cond.static Lib.Math.min.name, Cond.initialized "java/lang/Math", Cond.code Lib.Math.min.name Lib.Math.min.code 2 (some .int), Cond.fieldLink RX8 37 "ClayAccounts$Tokens" "kind" "I", Cond.fieldLink RX8 40 "ClayAccounts$Tokens" "place" "I", Cond.methodLink RX8 56 yX7_byteAt, Cond.instanceMethod yX7_byteAt, Cond.selects RX7 yX7_byteAt yX7_byteAt, Cond.initialized RX7, Cond.code yX7_byteAt cX7_byteAt 2 (some .int), Cond.fieldLink RX7 21 "ClayAccounts$Text" "size" "I"]
def wsX10_read_r3 : List Cond := [Cond.fieldLink RX7 15 "ClayAccounts$Text" "bytes" "[B", Cond.methodLink RX8 60 yX8_isBlank, Cond.static yX8_isBlank, Cond.code yX8_isBlank cX8_isBlank 1 (some .boolean), Cond.methodLink RX8 64 yX8_isSmallLetter, Cond.static yX8_isSmallLetter, Cond.code yX8_isSmallLetter cX8_isSmallLetter 1 (some .boolean), Cond.methodLink RX8 67 yX8_takeName, Cond.instanceMethod yX8_takeName, Cond.selects RX8 yX8_takeName yX8_takeName, Cond.code yX8_takeName cX8_takeName 3 none, Cond.fieldLink RX8 85 "ClayAccounts$Tokens" "name" "J", Cond.methodLink RX8 89 yX8_kindOfName, Cond.instanceMethod yX8_kindOfName, Cond.selects RX8 yX8_kindOfName yX8_kindOfName, Cond.code yX8_kindOfName cX8_kindOfName 1 (some .int), Cond.constantLong RX8 93 (126965465245037), Cond.constantLong RX8 95 (500086104428), Cond.constantLong RX8 97 (444300619364), Cond.methodLink RX8 70 yX8_isDigit, Cond.instanceMethod yX8_isDigit, Cond.selects RX8 yX8_isDigit yX8_isDigit, Cond.code yX8_isDigit cX8_isDigit 2 (some .boolean), Cond.methodLink RX8 73 yX8_takeNumber]
def wsX10_read_r4 : List Cond := [Cond.instanceMethod yX8_takeNumber, Cond.selects RX8 yX8_takeNumber yX8_takeNumber, Cond.code yX8_takeNumber cX8_takeNumber 3 none, Cond.fieldLink RX8 79 "ClayAccounts$Tokens" "tens" "I", Cond.fieldLink RX8 82 "ClayAccounts$Tokens" "ones" "I", Cond.methodLink RX8 76 yX8_takeSign, Cond.instanceMethod yX8_takeSign, Cond.selects RX8 yX8_takeSign yX8_takeSign, Cond.code yX8_takeSign cX8_takeSign 2 none, Cond.methodLink RX10 40 yX8_endsWell, Cond.instanceMethod yX8_endsWell, Cond.selects RX8 yX8_endsWell yX8_endsWell, Cond.code yX8_endsWell cX8_endsWell 2 (some .boolean), Cond.methodLink RX8 46 yX8_refuse, Cond.instanceMethod yX8_refuse, Cond.selects RX8 yX8_refuse yX8_refuse, Cond.code yX8_refuse cX8_refuse 3 (some .boolean), Cond.methodLink RX10 44 yX10_takeToken, Cond.instanceMethod yX10_takeToken, Cond.selects RX10 yX10_takeToken yX10_takeToken, Cond.initialized RX10, Cond.code yX10_takeToken cX10_takeToken 2 (some .boolean), Cond.fieldLink RX10 54 "ClayAccounts$UnitsReader" "factor" "I", Cond.methodLink RX10 48 yX10_beginSystem]
def wsX10_read_r5 : List Cond := [Cond.instanceMethod yX10_beginSystem, Cond.selects RX10 yX10_beginSystem yX10_beginSystem, Cond.code yX10_beginSystem cX10_beginSystem 2 (some .boolean), Cond.fieldLink RX10 70 "ClayAccounts$Tokens" "place" "I", Cond.methodLink RX10 57 yX8_demand, Cond.instanceMethod yX8_demand, Cond.selects RX8 yX8_demand yX8_demand, Cond.code yX8_demand cX8_demand 2 (some .boolean), Cond.methodLink RX10 73 yX8_refuse, Cond.methodLink RX10 51 yX10_takeSystemName, Cond.instanceMethod yX10_takeSystemName, Cond.selects RX10 yX10_takeSystemName yX10_takeSystemName, Cond.code yX10_takeSystemName cX10_takeSystemName 2 (some .boolean), Cond.fieldLink RX10 80 "ClayAccounts$Tokens" "name" "J", Cond.methodLink RX10 77 yX10_isNewName, Cond.instanceMethod yX10_isNewName, Cond.selects RX10 yX10_isNewName yX10_isNewName, Cond.code yX10_isNewName cX10_isNewName 2 (some .boolean), Cond.methodLink RX10 92 yX9_isTaken, Cond.instanceMethod yX9_isTaken, Cond.selects RX9 yX9_isTaken yX9_isTaken, Cond.code yX9_isTaken cX9_isTaken 4 (some .boolean), Cond.methodLink RX9 52 yX9_find, Cond.instanceMethod yX9_find]
def wsX10_read_r6 : List Cond := [Cond.selects RX9 yX9_find yX9_find, Cond.code yX9_find cX9_find 4 (some .int), Cond.methodLink RX10 84 yX9_addSystem, Cond.instanceMethod yX9_addSystem, Cond.selects RX9 yX9_addSystem yX9_addSystem, Cond.code yX9_addSystem cX9_addSystem 3 none, Cond.methodLink RX10 60 yX10_takeUnitName, Cond.instanceMethod yX10_takeUnitName, Cond.selects RX10 yX10_takeUnitName yX10_takeUnitName, Cond.code yX10_takeUnitName cX10_takeUnitName 2 (some .boolean), Cond.methodLink RX10 88 yX9_addUnit, Cond.instanceMethod yX9_addUnit, Cond.selects RX9 yX9_addUnit yX9_addUnit, Cond.code yX9_addUnit cX9_addUnit 6 none, Cond.fieldLink RX9 22 "ClayAccounts$Units" "factors" "[I", Cond.fieldLink RX9 25 "ClayAccounts$Units" "worths" "[I", Cond.fieldLink RX9 28 "ClayAccounts$Units" "mosts" "[I", Cond.methodLink RX9 44 yX9_isFull, Cond.instanceMethod yX9_isFull, Cond.selects RX9 yX9_isFull yX9_isFull, Cond.code yX9_isFull cX9_isFull 1 (some .boolean), Cond.methodLink RX9 48 yX9_slot, Cond.static yX9_slot, Cond.code yX9_slot cX9_slot 2 (some .int)]
def wsX10_read_r7 : List Cond := [Cond.methodLink RX10 63 yX10_takeFactor, Cond.instanceMethod yX10_takeFactor, Cond.selects RX10 yX10_takeFactor yX10_takeFactor, Cond.code yX10_takeFactor cX10_takeFactor 2 (some .boolean), Cond.methodLink RX10 96 yX8_number, Cond.instanceMethod yX8_number, Cond.selects RX8 yX8_number yX8_number, Cond.code yX8_number cX8_number 1 (some .int), Cond.methodLink RX10 100 yX9_isFull, Cond.methodLink RX10 66 yX10_endSystem, Cond.instanceMethod yX10_endSystem, Cond.selects RX10 yX10_endSystem yX10_endSystem, Cond.code yX10_endSystem cX10_endSystem 1 (some .boolean)]
def wsX10_read : List Cond := .code yX10_read cX10_read 4 (some .boolean) :: ((wsX10_read_r1 ++ (wsX10_read_r2 ++ (wsX10_read_r3 ++ (wsX10_read_r4 ++ (wsX10_read_r5 ++ (wsX10_read_r6 ++ wsX10_read_r7)))))) ++ wsX100 ++ wsX80 ++ wsX90 ++ wsX70)
def wsX11_init_r1 : List Cond := [Cond.methodLink RX11 3 objectInit, Cond.instanceMethod objectInit, Cond.code objectInit ⟨#[0xb1]⟩ 1 none, Cond.classLink RX11 9 RX7, Cond.instantiable RX7 2, Cond.initialized RX7, Cond.fieldLink RX11 14 "ClayAccounts" "tape" "LClayAccounts$Text;", Cond.fieldLink RX11 18 "ClayAccounts" "out" "LClayAccounts$Text;", Cond.fieldLink RX11 21 "ClayAccounts" "said" "LClayAccounts$Text;", Cond.classLink RX11 24 RX10, Cond.instantiable RX10 3, Cond.initialized RX10, Cond.fieldLink RX11 27 "ClayAccounts" "unitsReader" "LClayAccounts$UnitsReader;", Cond.classLink RX11 31 RX6, Cond.instantiable RX6 8, Cond.initialized RX6, Cond.fieldLink RX11 34 "ClayAccounts" "tabletReader" "LClayAccounts$TabletReader;", Cond.classLink RX11 38 RX4, Cond.instantiable RX4 7, Cond.initialized RX4, Cond.fieldLink RX11 41 "ClayAccounts" "solver" "LClayAccounts$Solver;", Cond.classLink RX11 45 RX3, Cond.instantiable RX3 5, Cond.initialized RX3]
def wsX11_init_r2 : List Cond := [Cond.fieldLink RX11 48 "ClayAccounts" "matcher" "LClayAccounts$Matcher;", Cond.classLink RX11 52 RX5, Cond.fieldLink RX11 54 "ClayAccounts" "tablets" "[LClayAccounts$Tablet;", Cond.instantiable RX5 7, Cond.initialized RX5, Cond.fieldLink RX11 59 "ClayAccounts" "joinedTablet" "LClayAccounts$Tablet;", Cond.classLink RX11 63 RX0, Cond.fieldLink RX11 65 "ClayAccounts" "fragments" "[LClayAccounts$Fragment;", Cond.arrayClass .int, Cond.fieldLink RX11 69 "ClayAccounts" "joins" "[I", Cond.classLink RX11 73 RX9, Cond.instantiable RX9 7, Cond.initialized RX9, Cond.fieldLink RX11 76 "ClayAccounts" "units" "LClayAccounts$Units;", Cond.fieldLink RX11 80 "ClayAccounts" "spareUnits" "LClayAccounts$Units;", Cond.instantiable RX0 4, Cond.initialized RX0, Cond.fieldLink RX11 90 "ClayAccounts" "tabletCount" "I", Cond.fieldLink RX11 94 "ClayAccounts" "fragmentCount" "I", Cond.fieldLink RX11 97 "ClayAccounts" "faultKind" "I", Cond.methodLink RX11 11 yX7_init, Cond.instanceMethod yX7_init, Cond.code yX7_init cX7_init 2 none, Cond.methodLink RX7 3 objectInit]
def wsX11_init_r3 : List Cond := [Cond.methodLink RX7 9 Lib.Math.max.name, Cond.static Lib.Math.max.name, Cond.initialized "java/lang/Math", Cond.code Lib.Math.max.name Lib.Math.max.code 2 (some .int), Cond.arrayClass .byte, Cond.fieldLink RX7 15 "ClayAccounts$Text" "bytes" "[B", Cond.fieldLink RX7 21 "ClayAccounts$Text" "size" "I", Cond.instanceMethod yX10_init, Cond.code yX10_init cX10_init 1 none, Cond.methodLink RX10 3 objectInit, Cond.classLink RX10 9 RX8, Cond.instantiable RX8 11, Cond.initialized RX8, Cond.fieldLink RX10 12 "ClayAccounts$UnitsReader" "tokens" "LClayAccounts$Tokens;", Cond.instanceMethod yX8_init, Cond.code yX8_init cX8_init 1 none, Cond.methodLink RX8 3 objectInit, Cond.classLink RX8 9 RX7, Cond.fieldLink RX8 14 "ClayAccounts$Tokens" "text" "LClayAccounts$Text;", Cond.methodLink RX8 11 yX7_init, Cond.instanceMethod yX6_init, Cond.code yX6_init cX6_init 1 none, Cond.methodLink RX6 3 objectInit, Cond.classLink RX6 9 RX8]
def wsX11_init_r4 : List Cond := [Cond.fieldLink RX6 12 "ClayAccounts$TabletReader" "tokens" "LClayAccounts$Tokens;", Cond.instanceMethod yX4_init, Cond.code yX4_init cX4_init 1 none, Cond.methodLink RX4 3 objectInit, Cond.classLink RX4 9 "[[J", Cond.arrayClass .long, Cond.fieldLink RX4 11 "ClayAccounts$Solver" "off" "[[J", Cond.fieldLink RX4 16 "ClayAccounts$Solver" "slopes" "[[J", Cond.fieldLink RX4 19 "ClayAccounts$Solver" "downs" "[[J", Cond.fieldLink RX4 22 "ClayAccounts$Solver" "ups" "[[J", Cond.fieldLink RX4 25 "ClayAccounts$Solver" "digits" "[I", Cond.methodLink RX11 47 yX3_init, Cond.instanceMethod yX3_init, Cond.code yX3_init cX3_init 1 none, Cond.methodLink RX3 3 objectInit, Cond.fieldLink RX3 9 "ClayAccounts$Matcher" "partners" "[I", Cond.fieldLink RX3 15 "ClayAccounts$Matcher" "weights" "[I", Cond.fieldLink RX3 18 "ClayAccounts$Matcher" "best" "[I", Cond.methodLink RX3 21 yJ7_fill_53178, Cond.static yJ7_fill_53178, Cond.initialized RJ7, Cond.code yJ7_fill_53178 cJ7_fill_53178 4 none, Cond.methodLink RX11 58 yX5_init, Cond.instanceMethod yX5_init]
def wsX11_init_r5 : List Cond := [Cond.code yX5_init cX5_init 2 none, Cond.methodLink RX5 3 objectInit, Cond.classLink RX5 9 RX2, Cond.fieldLink RX5 11 "ClayAccounts$Tablet" "lines" "[LClayAccounts$Line;", Cond.classLink RX5 17 RX1, Cond.fieldLink RX5 19 "ClayAccounts$Tablet" "holes" "[LClayAccounts$Hole;", Cond.instantiable RX2 6, Cond.initialized RX2, Cond.instantiable RX1 7, Cond.initialized RX1, Cond.instanceMethod yX2_init, Cond.code yX2_init cX2_init 1 none, Cond.methodLink RX2 3 objectInit, Cond.instanceMethod yX1_init, Cond.code yX1_init cX1_init 1 none, Cond.methodLink RX1 3 objectInit, Cond.instanceMethod yX9_init, Cond.code yX9_init cX9_init 1 none, Cond.methodLink RX9 3 objectInit, Cond.fieldLink RX9 9 "ClayAccounts$Units" "systemNames" "[J", Cond.fieldLink RX9 15 "ClayAccounts$Units" "unitCounts" "[I", Cond.fieldLink RX9 19 "ClayAccounts$Units" "names" "[J", Cond.fieldLink RX9 22 "ClayAccounts$Units" "factors" "[I", Cond.fieldLink RX9 25 "ClayAccounts$Units" "worths" "[I"]
def wsX11_init_r6 : List Cond := [Cond.fieldLink RX9 28 "ClayAccounts$Units" "mosts" "[I", Cond.instanceMethod yX0_init, Cond.code yX0_init cX0_init 1 none, Cond.methodLink RX0 3 objectInit, Cond.classLink RX0 9 RX7, Cond.fieldLink RX0 14 "ClayAccounts$Fragment" "text" "LClayAccounts$Text;", Cond.methodLink RX0 11 yX7_init, Cond.methodLink RX11 84 yJ7_fill_53178]
def wsX11_init : List Cond := .code yX11_init cX11_init 2 none :: ((wsX11_init_r1 ++ (wsX11_init_r2 ++ (wsX11_init_r3 ++ (wsX11_init_r4 ++ (wsX11_init_r5 ++ wsX11_init_r6))))) ++ wsX70 ++ wsX110 ++ wsX100 ++ wsX60 ++ wsX40 ++ wsX30 ++ wsX50 ++ wsX90 ++ wsX00 ++ wsX80 ++ wsX20 ++ wsX10)
def wsX11_feed : List Cond := .code yX11_feed cX11_feed 6 (some .int) :: ([.fieldLink RX11 14 "ClayAccounts" "tape" "LClayAccounts$Text;", .fieldLink RX11 100 "ClayAccounts$Text" "size" "I", .methodLink RX11 103 yX7_putFour, .instanceMethod yX7_putFour, .selects RX7 yX7_putFour yX7_putFour, .initialized RX7, .code yX7_putFour cX7_putFour 2 none, .methodLink RX7 25 yX7_put, .instanceMethod yX7_put, .selects RX7 yX7_put yX7_put, .code yX7_put cX7_put 2 none, .fieldLink RX7 21 "ClayAccounts$Text" "size" "I", .fieldLink RX7 15 "ClayAccounts$Text" "bytes" "[B"] ++ wsX110 ++ wsX70)
def wsX11_end : List Cond := .code yX11_end cX11_end 2 (some .boolean) :: ([.fieldLink RX11 14 "ClayAccounts" "tape" "LClayAccounts$Text;", .fieldLink RX11 100 "ClayAccounts$Text" "size" "I"] ++ wsX110 ++ wsX70)
def wsX11_systems_r1 : List Cond := [Cond.fieldLink RX11 27 "ClayAccounts" "unitsReader" "LClayAccounts$UnitsReader;", Cond.fieldLink RX11 14 "ClayAccounts" "tape" "LClayAccounts$Text;", Cond.fieldLink RX11 80 "ClayAccounts" "spareUnits" "LClayAccounts$Units;", Cond.fieldLink RX11 113 "ClayAccounts$UnitsReader" "tokens" "LClayAccounts$Tokens;", Cond.fieldLink RX11 117 "ClayAccounts$Tokens" "fault" "I", Cond.fieldLink RX11 97 "ClayAccounts" "faultKind" "I", Cond.fieldLink RX11 122 "ClayAccounts$Tokens" "faultPlace" "I", Cond.fieldLink RX11 76 "ClayAccounts" "units" "LClayAccounts$Units;", Cond.fieldLink RX11 90 "ClayAccounts" "tabletCount" "I", Cond.fieldLink RX11 48 "ClayAccounts" "matcher" "LClayAccounts$Matcher;", Cond.fieldLink RX11 69 "ClayAccounts" "joins" "[I", Cond.fieldLink RX11 128 "ClayAccounts$Units" "systemCount" "I", Cond.methodLink RX11 106 yX10_read, Cond.instanceMethod yX10_read, Cond.selects RX10 yX10_read yX10_read, Cond.initialized RX10, Cond.code yX10_read cX10_read 4 (some .boolean), Cond.fieldLink RX10 12 "ClayAccounts$UnitsReader" "tokens" "LClayAccounts$Tokens;", Cond.fieldLink RX10 27 "ClayAccounts$UnitsReader" "state" "I", Cond.fieldLink RX10 34 "ClayAccounts$Tokens" "kind" "I", Cond.fieldLink RX10 37 "ClayAccounts$Units" "systemCount" "I", Cond.methodLink RX10 18 yX9_clear, Cond.instanceMethod yX9_clear, Cond.selects RX9 yX9_clear yX9_clear]
def wsX11_systems_r2 : List Cond := [Cond.initialized RX9, Cond.code yX9_clear cX9_clear 1 none, Cond.fieldLink RX9 31 "ClayAccounts$Units" "systemCount" "I", Cond.fieldLink RX9 9 "ClayAccounts$Units" "systemNames" "[J", Cond.fieldLink RX9 15 "ClayAccounts$Units" "unitCounts" "[I", Cond.fieldLink RX9 19 "ClayAccounts$Units" "names" "[J", Cond.methodLink RX9 35 yJ7_fill_d0a16, Cond.static yJ7_fill_d0a16, Cond.initialized RJ7, Cond.code yJ7_fill_d0a16 cJ7_fill_d0a16 5 none, Cond.methodLink RX9 41 yJ7_fill_53178, Cond.static yJ7_fill_53178, Cond.code yJ7_fill_53178 cJ7_fill_53178 4 none, Cond.methodLink RX10 23 yX8_begin, Cond.instanceMethod yX8_begin, Cond.selects RX8 yX8_begin yX8_begin, Cond.initialized RX8, Cond.code yX8_begin cX8_begin 4 none, Cond.fieldLink RX8 14 "ClayAccounts$Tokens" "text" "LClayAccounts$Text;", Cond.fieldLink RX8 20 "ClayAccounts$Tokens" "most" "I", Cond.fieldLink RX8 24 "ClayAccounts$Tokens" "withBroken" "Z", Cond.fieldLink RX8 28 "ClayAccounts$Tokens" "at" "I", Cond.fieldLink RX8 31 "ClayAccounts$Tokens" "fault" "I", Cond.fieldLink RX8 34 "ClayAccounts$Tokens" "faultPlace" "I"]
def wsX11_systems_r3 : List Cond := [Cond.methodLink RX10 31 yX8_advance, Cond.instanceMethod yX8_advance, Cond.selects RX8 yX8_advance yX8_advance, Cond.code yX8_advance cX8_advance 3 none, Cond.fieldLink RX8 43 "ClayAccounts$Text" "size" "I", Cond.methodLink RX8 50 Lib.Math.min.name, Cond.static Lib.Math.min.name, Cond.initialized "java/lang/Math", Cond.code Lib.Math.min.name Lib.Math.min.code 2 (some .int), Cond.fieldLink RX8 37 "ClayAccounts$Tokens" "kind" "I", Cond.fieldLink RX8 40 "ClayAccounts$Tokens" "place" "I", Cond.methodLink RX8 56 yX7_byteAt, Cond.instanceMethod yX7_byteAt, Cond.selects RX7 yX7_byteAt yX7_byteAt, Cond.initialized RX7, Cond.code yX7_byteAt cX7_byteAt 2 (some .int), Cond.fieldLink RX7 21 "ClayAccounts$Text" "size" "I", Cond.fieldLink RX7 15 "ClayAccounts$Text" "bytes" "[B", Cond.methodLink RX8 60 yX8_isBlank, Cond.static yX8_isBlank, Cond.code yX8_isBlank cX8_isBlank 1 (some .boolean), Cond.methodLink RX8 64 yX8_isSmallLetter, Cond.static yX8_isSmallLetter, Cond.code yX8_isSmallLetter cX8_isSmallLetter 1 (some .boolean)]
def wsX11_systems_r4 : List Cond := [Cond.methodLink RX8 67 yX8_takeName, Cond.instanceMethod yX8_takeName, Cond.selects RX8 yX8_takeName yX8_takeName, Cond.code yX8_takeName cX8_takeName 3 none, Cond.fieldLink RX8 85 "ClayAccounts$Tokens" "name" "J", Cond.methodLink RX8 89 yX8_kindOfName, Cond.instanceMethod yX8_kindOfName, Cond.selects RX8 yX8_kindOfName yX8_kindOfName, Cond.code yX8_kindOfName cX8_kindOfName 1 (some .int), Cond.constantLong RX8 93 (126965465245037), Cond.constantLong RX8 95 (500086104428), Cond.constantLong RX8 97 (444300619364), Cond.methodLink RX8 70 yX8_isDigit, Cond.instanceMethod yX8_isDigit, Cond.selects RX8 yX8_isDigit yX8_isDigit, Cond.code yX8_isDigit cX8_isDigit 2 (some .boolean), Cond.methodLink RX8 73 yX8_takeNumber, Cond.instanceMethod yX8_takeNumber, Cond.selects RX8 yX8_takeNumber yX8_takeNumber, Cond.code yX8_takeNumber cX8_takeNumber 3 none, Cond.fieldLink RX8 79 "ClayAccounts$Tokens" "tens" "I", Cond.fieldLink RX8 82 "ClayAccounts$Tokens" "ones" "I", Cond.methodLink RX8 76 yX8_takeSign, Cond.instanceMethod yX8_takeSign]
def wsX11_systems_r5 : List Cond := [Cond.selects RX8 yX8_takeSign yX8_takeSign, Cond.code yX8_takeSign cX8_takeSign 2 none, Cond.methodLink RX10 40 yX8_endsWell, Cond.instanceMethod yX8_endsWell, Cond.selects RX8 yX8_endsWell yX8_endsWell, Cond.code yX8_endsWell cX8_endsWell 2 (some .boolean), Cond.methodLink RX8 46 yX8_refuse, Cond.instanceMethod yX8_refuse, Cond.selects RX8 yX8_refuse yX8_refuse, Cond.code yX8_refuse cX8_refuse 3 (some .boolean), Cond.methodLink RX10 44 yX10_takeToken, Cond.instanceMethod yX10_takeToken, Cond.selects RX10 yX10_takeToken yX10_takeToken, Cond.code yX10_takeToken cX10_takeToken 2 (some .boolean), Cond.fieldLink RX10 54 "ClayAccounts$UnitsReader" "factor" "I", Cond.methodLink RX10 48 yX10_beginSystem, Cond.instanceMethod yX10_beginSystem, Cond.selects RX10 yX10_beginSystem yX10_beginSystem, Cond.code yX10_beginSystem cX10_beginSystem 2 (some .boolean), Cond.fieldLink RX10 70 "ClayAccounts$Tokens" "place" "I", Cond.methodLink RX10 57 yX8_demand, Cond.instanceMethod yX8_demand, Cond.selects RX8 yX8_demand yX8_demand, Cond.code yX8_demand cX8_demand 2 (some .boolean)]
def wsX11_systems_r6 : List Cond := [Cond.methodLink RX10 73 yX8_refuse, Cond.methodLink RX10 51 yX10_takeSystemName, Cond.instanceMethod yX10_takeSystemName, Cond.selects RX10 yX10_takeSystemName yX10_takeSystemName, Cond.code yX10_takeSystemName cX10_takeSystemName 2 (some .boolean), Cond.fieldLink RX10 80 "ClayAccounts$Tokens" "name" "J", Cond.methodLink RX10 77 yX10_isNewName, Cond.instanceMethod yX10_isNewName, Cond.selects RX10 yX10_isNewName yX10_isNewName, Cond.code yX10_isNewName cX10_isNewName 2 (some .boolean), Cond.methodLink RX10 92 yX9_isTaken, Cond.instanceMethod yX9_isTaken, Cond.selects RX9 yX9_isTaken yX9_isTaken, Cond.code yX9_isTaken cX9_isTaken 4 (some .boolean), Cond.methodLink RX9 52 yX9_find, Cond.instanceMethod yX9_find, Cond.selects RX9 yX9_find yX9_find, Cond.code yX9_find cX9_find 4 (some .int), Cond.methodLink RX10 84 yX9_addSystem, Cond.instanceMethod yX9_addSystem, Cond.selects RX9 yX9_addSystem yX9_addSystem, Cond.code yX9_addSystem cX9_addSystem 3 none, Cond.methodLink RX10 60 yX10_takeUnitName, Cond.instanceMethod yX10_takeUnitName]
def wsX11_systems_r7 : List Cond := [Cond.selects RX10 yX10_takeUnitName yX10_takeUnitName, Cond.code yX10_takeUnitName cX10_takeUnitName 2 (some .boolean), Cond.methodLink RX10 88 yX9_addUnit, Cond.instanceMethod yX9_addUnit, Cond.selects RX9 yX9_addUnit yX9_addUnit, Cond.code yX9_addUnit cX9_addUnit 6 none, Cond.fieldLink RX9 22 "ClayAccounts$Units" "factors" "[I", Cond.fieldLink RX9 25 "ClayAccounts$Units" "worths" "[I", Cond.fieldLink RX9 28 "ClayAccounts$Units" "mosts" "[I", Cond.methodLink RX9 44 yX9_isFull, Cond.instanceMethod yX9_isFull, Cond.selects RX9 yX9_isFull yX9_isFull, Cond.code yX9_isFull cX9_isFull 1 (some .boolean), Cond.methodLink RX9 48 yX9_slot, Cond.static yX9_slot, Cond.code yX9_slot cX9_slot 2 (some .int), Cond.methodLink RX10 63 yX10_takeFactor, Cond.instanceMethod yX10_takeFactor, Cond.selects RX10 yX10_takeFactor yX10_takeFactor, Cond.code yX10_takeFactor cX10_takeFactor 2 (some .boolean), Cond.methodLink RX10 96 yX8_number, Cond.instanceMethod yX8_number, Cond.selects RX8 yX8_number yX8_number, Cond.code yX8_number cX8_number 1 (some .int)]
def wsX11_systems_r8 : List Cond := [Cond.methodLink RX10 100 yX9_isFull, Cond.methodLink RX10 66 yX10_endSystem, Cond.instanceMethod yX10_endSystem, Cond.selects RX10 yX10_endSystem yX10_endSystem, Cond.code yX10_endSystem cX10_endSystem 1 (some .boolean), Cond.methodLink RX11 110 yX7_clear, Cond.instanceMethod yX7_clear, Cond.selects RX7 yX7_clear yX7_clear, Cond.code yX7_clear cX7_clear 1 none, Cond.methodLink RX11 125 yX3_forget, Cond.instanceMethod yX3_forget, Cond.selects RX3 yX3_forget yX3_forget, Cond.initialized RX3, Cond.code yX3_forget cX3_forget 1 none, Cond.fieldLink RX3 9 "ClayAccounts$Matcher" "partners" "[I", Cond.fieldLink RX3 27 "ClayAccounts$Matcher" "pairCount" "I", Cond.fieldLink RX3 31 "ClayAccounts$Matcher" "sureCount" "I", Cond.methodLink RX3 21 yJ7_fill_53178, Cond.methodLink RX11 84 yJ7_fill_53178]
def wsX11_systems : List Cond := .code yX11_systems cX11_systems 3 (some .int) :: ((wsX11_systems_r1 ++ (wsX11_systems_r2 ++ (wsX11_systems_r3 ++ (wsX11_systems_r4 ++ (wsX11_systems_r5 ++ (wsX11_systems_r6 ++ (wsX11_systems_r7 ++ wsX11_systems_r8))))))) ++ wsX110 ++ wsX100 ++ wsX80 ++ wsX90 ++ wsX70 ++ wsX30)
def wsX11_fault : List Cond := .code yX11_fault cX11_fault 1 (some .int) :: ([.fieldLink RX11 97 "ClayAccounts" "faultKind" "I"] ++ wsX110)
def wsX11_isSystem : List Cond := .code yX11_isSystem cX11_isSystem 2 (some .boolean) :: ([.fieldLink RX11 76 "ClayAccounts" "units" "LClayAccounts$Units;", .fieldLink RX11 128 "ClayAccounts$Units" "systemCount" "I"] ++ wsX110 ++ wsX90)
def wsX11_system : List Cond := .code yX11_system cX11_system 3 (some .int) :: ([.classLink RX11 135 "java/util/NoSuchElementException", .initialized "java/util/NoSuchElementException", .fieldLink RX11 76 "ClayAccounts" "units" "LClayAccounts$Units;", .fieldLink RX11 142 "ClayAccounts$Units" "unitCounts" "[I", .fieldLink RX11 145 "ClayAccounts$Units" "factors" "[I", .methodLink RX11 131 yX11_isSystem, .instanceMethod yX11_isSystem, .selects RX11 yX11_isSystem yX11_isSystem, .initialized RX11, .code yX11_isSystem cX11_isSystem 2 (some .boolean), .fieldLink RX11 128 "ClayAccounts$Units" "systemCount" "I", .methodLink RX11 148 yX9_slot, .static yX9_slot, .initialized RX9, .code yX9_slot cX9_slot 2 (some .int)] ++ wsX110 ++ wsX90 ++ (vx_atS RX11 139 "java/util/NoSuchElementException" ["java/lang/RuntimeException", "java/lang/Exception"]).filter goodWord)
def wsX11_write_r1 : List Cond := [Cond.fieldLink RX11 76 "ClayAccounts" "units" "LClayAccounts$Units;", Cond.fieldLink RX11 18 "ClayAccounts" "out" "LClayAccounts$Text;", Cond.fieldLink RX11 100 "ClayAccounts$Text" "size" "I", Cond.methodLink RX11 131 yX11_isSystem, Cond.instanceMethod yX11_isSystem, Cond.selects RX11 yX11_isSystem yX11_isSystem, Cond.initialized RX11, Cond.code yX11_isSystem cX11_isSystem 2 (some .boolean), Cond.fieldLink RX11 128 "ClayAccounts$Units" "systemCount" "I", Cond.methodLink RX11 152 yX9_canWrite, Cond.instanceMethod yX9_canWrite, Cond.selects RX9 yX9_canWrite yX9_canWrite, Cond.initialized RX9, Cond.code yX9_canWrite cX9_canWrite 5 (some .boolean), Cond.fieldLink RX9 15 "ClayAccounts$Units" "unitCounts" "[I", Cond.fieldLink RX9 25 "ClayAccounts$Units" "worths" "[I", Cond.methodLink RX9 48 yX9_slot, Cond.static yX9_slot, Cond.code yX9_slot cX9_slot 2 (some .int), Cond.methodLink RX11 110 yX7_clear, Cond.instanceMethod yX7_clear, Cond.selects RX7 yX7_clear yX7_clear, Cond.initialized RX7, Cond.code yX7_clear cX7_clear 1 none]
def wsX11_write_r2 : List Cond := [Cond.fieldLink RX7 21 "ClayAccounts$Text" "size" "I", Cond.methodLink RX11 156 yX9_writeTo, Cond.instanceMethod yX9_writeTo, Cond.selects RX9 yX9_writeTo yX9_writeTo, Cond.code yX9_writeTo cX9_writeTo 9 none, Cond.fieldLink RX9 19 "ClayAccounts$Units" "names" "[J", Cond.methodLink RX9 56 yX9_writeAmount, Cond.static yX9_writeAmount, Cond.code yX9_writeAmount cX9_writeAmount 6 none, Cond.fieldLink RX9 60 "ClayAccounts$Text" "size" "I", Cond.methodLink RX9 65 yX7_put, Cond.instanceMethod yX7_put, Cond.selects RX7 yX7_put yX7_put, Cond.code yX7_put cX7_put 2 none, Cond.fieldLink RX7 15 "ClayAccounts$Text" "bytes" "[B"]
def wsX11_write : List Cond := .code yX11_write cX11_write 3 (some .int) :: ((wsX11_write_r1 ++ wsX11_write_r2) ++ wsX110 ++ wsX70 ++ wsX90)
def wsX11_octet : List Cond := .code yX11_octet cX11_octet 2 (some .int) :: ([.classLink RX11 135 "java/util/NoSuchElementException", .initialized "java/util/NoSuchElementException", .fieldLink RX11 18 "ClayAccounts" "out" "LClayAccounts$Text;", .fieldLink RX11 100 "ClayAccounts$Text" "size" "I", .methodLink RX11 162 yX7_byteAt, .instanceMethod yX7_byteAt, .selects RX7 yX7_byteAt yX7_byteAt, .initialized RX7, .code yX7_byteAt cX7_byteAt 2 (some .int), .fieldLink RX7 21 "ClayAccounts$Text" "size" "I", .fieldLink RX7 15 "ClayAccounts$Text" "bytes" "[B"] ++ wsX110 ++ wsX70 ++ (vx_atS RX11 139 "java/util/NoSuchElementException" ["java/lang/RuntimeException", "java/lang/Exception"]).filter goodWord)
def wsX11_tablet_r1 : List Cond := [Cond.fieldLink RX11 90 "ClayAccounts" "tabletCount" "I", Cond.fieldLink RX11 76 "ClayAccounts" "units" "LClayAccounts$Units;", Cond.fieldLink RX11 128 "ClayAccounts$Units" "systemCount" "I", Cond.fieldLink RX11 34 "ClayAccounts" "tabletReader" "LClayAccounts$TabletReader;", Cond.fieldLink RX11 14 "ClayAccounts" "tape" "LClayAccounts$Text;", Cond.fieldLink RX11 54 "ClayAccounts" "tablets" "[LClayAccounts$Tablet;", Cond.fieldLink RX11 169 "ClayAccounts$TabletReader" "tokens" "LClayAccounts$Tokens;", Cond.fieldLink RX11 117 "ClayAccounts$Tokens" "fault" "I", Cond.fieldLink RX11 97 "ClayAccounts" "faultKind" "I", Cond.fieldLink RX11 122 "ClayAccounts$Tokens" "faultPlace" "I", Cond.methodLink RX11 166 yX6_read, Cond.instanceMethod yX6_read, Cond.selects RX6 yX6_read yX6_read, Cond.initialized RX6, Cond.code yX6_read cX6_read 5 (some .boolean), Cond.fieldLink RX6 12 "ClayAccounts$TabletReader" "tokens" "LClayAccounts$Tokens;", Cond.fieldLink RX6 27 "ClayAccounts$TabletReader" "state" "I", Cond.fieldLink RX6 34 "ClayAccounts$Tokens" "kind" "I", Cond.fieldLink RX6 37 "ClayAccounts$Tablet" "lineCount" "I", Cond.methodLink RX6 18 yX5_clear, Cond.instanceMethod yX5_clear, Cond.selects RX5 yX5_clear yX5_clear, Cond.initialized RX5, Cond.code yX5_clear cX5_clear 1 none]
def wsX11_tablet_r2 : List Cond := [Cond.fieldLink RX5 25 "ClayAccounts$Tablet" "lineCount" "I", Cond.fieldLink RX5 29 "ClayAccounts$Tablet" "holeCount" "I", Cond.fieldLink RX5 32 "ClayAccounts$Tablet" "isSolved" "Z", Cond.fieldLink RX5 36 "ClayAccounts$Tablet" "readingCount" "I", Cond.fieldLink RX5 39 "ClayAccounts$Tablet" "fewestWrong" "I", Cond.methodLink RX6 23 yX8_begin, Cond.instanceMethod yX8_begin, Cond.selects RX8 yX8_begin yX8_begin, Cond.initialized RX8, Cond.code yX8_begin cX8_begin 4 none, Cond.fieldLink RX8 14 "ClayAccounts$Tokens" "text" "LClayAccounts$Text;", Cond.fieldLink RX8 20 "ClayAccounts$Tokens" "most" "I", Cond.fieldLink RX8 24 "ClayAccounts$Tokens" "withBroken" "Z", Cond.fieldLink RX8 28 "ClayAccounts$Tokens" "at" "I", Cond.fieldLink RX8 31 "ClayAccounts$Tokens" "fault" "I", Cond.fieldLink RX8 34 "ClayAccounts$Tokens" "faultPlace" "I", Cond.methodLink RX6 31 yX8_advance, Cond.instanceMethod yX8_advance, Cond.selects RX8 yX8_advance yX8_advance, Cond.code yX8_advance cX8_advance 3 none, Cond.fieldLink RX8 43 "ClayAccounts$Text" "size" "I", Cond.methodLink RX8 50 Lib.Math.min.name, Cond.static Lib.Math.min.name, Cond.initialized "java/lang/Math"]
def wsX11_tablet_r3 : List Cond := [Cond.code Lib.Math.min.name Lib.Math.min.code 2 (some .int), Cond.fieldLink RX8 37 "ClayAccounts$Tokens" "kind" "I", Cond.fieldLink RX8 40 "ClayAccounts$Tokens" "place" "I", Cond.methodLink RX8 56 yX7_byteAt, Cond.instanceMethod yX7_byteAt, Cond.selects RX7 yX7_byteAt yX7_byteAt, Cond.initialized RX7, Cond.code yX7_byteAt cX7_byteAt 2 (some .int), Cond.fieldLink RX7 21 "ClayAccounts$Text" "size" "I", Cond.fieldLink RX7 15 "ClayAccounts$Text" "bytes" "[B", Cond.methodLink RX8 60 yX8_isBlank, Cond.static yX8_isBlank, Cond.code yX8_isBlank cX8_isBlank 1 (some .boolean), Cond.methodLink RX8 64 yX8_isSmallLetter, Cond.static yX8_isSmallLetter, Cond.code yX8_isSmallLetter cX8_isSmallLetter 1 (some .boolean), Cond.methodLink RX8 67 yX8_takeName, Cond.instanceMethod yX8_takeName, Cond.selects RX8 yX8_takeName yX8_takeName, Cond.code yX8_takeName cX8_takeName 3 none, Cond.fieldLink RX8 85 "ClayAccounts$Tokens" "name" "J", Cond.methodLink RX8 89 yX8_kindOfName, Cond.instanceMethod yX8_kindOfName, Cond.selects RX8 yX8_kindOfName yX8_kindOfName]
def wsX11_tablet_r4 : List Cond := [Cond.code yX8_kindOfName cX8_kindOfName 1 (some .int), Cond.constantLong RX8 93 (126965465245037), Cond.constantLong RX8 95 (500086104428), Cond.constantLong RX8 97 (444300619364), Cond.methodLink RX8 70 yX8_isDigit, Cond.instanceMethod yX8_isDigit, Cond.selects RX8 yX8_isDigit yX8_isDigit, Cond.code yX8_isDigit cX8_isDigit 2 (some .boolean), Cond.methodLink RX8 73 yX8_takeNumber, Cond.instanceMethod yX8_takeNumber, Cond.selects RX8 yX8_takeNumber yX8_takeNumber, Cond.code yX8_takeNumber cX8_takeNumber 3 none, Cond.fieldLink RX8 79 "ClayAccounts$Tokens" "tens" "I", Cond.fieldLink RX8 82 "ClayAccounts$Tokens" "ones" "I", Cond.methodLink RX8 76 yX8_takeSign, Cond.instanceMethod yX8_takeSign, Cond.selects RX8 yX8_takeSign yX8_takeSign, Cond.code yX8_takeSign cX8_takeSign 2 none, Cond.methodLink RX6 40 yX8_endsWell, Cond.instanceMethod yX8_endsWell, Cond.selects RX8 yX8_endsWell yX8_endsWell, Cond.code yX8_endsWell cX8_endsWell 2 (some .boolean), Cond.methodLink RX8 46 yX8_refuse, Cond.instanceMethod yX8_refuse]
def wsX11_tablet_r5 : List Cond := [Cond.selects RX8 yX8_refuse yX8_refuse, Cond.code yX8_refuse cX8_refuse 3 (some .boolean), Cond.methodLink RX6 44 yX6_takeToken, Cond.instanceMethod yX6_takeToken, Cond.selects RX6 yX6_takeToken yX6_takeToken, Cond.code yX6_takeToken cX6_takeToken 3 (some .boolean), Cond.methodLink RX6 48 yX6_beginLine, Cond.instanceMethod yX6_beginLine, Cond.selects RX6 yX6_beginLine yX6_beginLine, Cond.code yX6_beginLine cX6_beginLine 2 (some .boolean), Cond.fieldLink RX6 69 "ClayAccounts$TabletReader" "isLineTooMany" "Z", Cond.fieldLink RX6 73 "ClayAccounts$TabletReader" "unitAhead" "I", Cond.fieldLink RX6 76 "ClayAccounts$TabletReader" "lineKind" "I", Cond.fieldLink RX6 83 "ClayAccounts$Tokens" "place" "I", Cond.methodLink RX6 66 yX5_isFull, Cond.instanceMethod yX5_isFull, Cond.selects RX5 yX5_isFull yX5_isFull, Cond.code yX5_isFull cX5_isFull 1 (some .boolean), Cond.methodLink RX6 79 yX5_addLine, Cond.instanceMethod yX5_addLine, Cond.selects RX5 yX5_addLine yX5_addLine, Cond.code yX5_addLine cX5_addLine 2 none, Cond.fieldLink RX5 11 "ClayAccounts$Tablet" "lines" "[LClayAccounts$Line;", Cond.methodLink RX5 42 yX5_isFull]
def wsX11_tablet_r6 : List Cond := [Cond.methodLink RX5 46 yX2_begin, Cond.instanceMethod yX2_begin, Cond.selects RX2 yX2_begin yX2_begin, Cond.initialized RX2, Cond.code yX2_begin cX2_begin 2 none, Cond.fieldLink RX2 9 "ClayAccounts$Line" "kind" "I", Cond.fieldLink RX2 15 "ClayAccounts$Line" "system" "I", Cond.fieldLink RX2 18 "ClayAccounts$Line" "holeCount" "I", Cond.fieldLink RX2 21 "ClayAccounts$Line" "value" "I", Cond.fieldLink RX2 24 "ClayAccounts$Line" "least" "I", Cond.fieldLink RX2 27 "ClayAccounts$Line" "greatest" "I", Cond.methodLink RX6 86 yX8_refuse, Cond.methodLink RX6 52 yX6_takeCount, Cond.instanceMethod yX6_takeCount, Cond.selects RX6 yX6_takeCount yX6_takeCount, Cond.code yX6_takeCount cX6_takeCount 1 (some .boolean), Cond.fieldLink RX6 90 "ClayAccounts$TabletReader" "countPlace" "I", Cond.fieldLink RX6 93 "ClayAccounts$Tokens" "tens" "I", Cond.fieldLink RX6 96 "ClayAccounts$TabletReader" "tens" "I", Cond.fieldLink RX6 97 "ClayAccounts$Tokens" "ones" "I", Cond.fieldLink RX6 100 "ClayAccounts$TabletReader" "ones" "I", Cond.methodLink RX6 101 yX8_demand, Cond.instanceMethod yX8_demand, Cond.selects RX8 yX8_demand yX8_demand]
def wsX11_tablet_r7 : List Cond := [Cond.code yX8_demand cX8_demand 2 (some .boolean), Cond.methodLink RX6 56 yX6_takeAmount, Cond.instanceMethod yX6_takeAmount, Cond.selects RX6 yX6_takeAmount yX6_takeAmount, Cond.code yX6_takeAmount cX6_takeAmount 4 (some .boolean), Cond.fieldLink RX6 104 "ClayAccounts$Tokens" "name" "J", Cond.fieldLink RX6 114 "ClayAccounts$Units" "mosts" "[I", Cond.fieldLink RX6 121 "ClayAccounts$Tablet" "holeCount" "I", Cond.methodLink RX6 108 yX9_find, Cond.instanceMethod yX9_find, Cond.selects RX9 yX9_find yX9_find, Cond.initialized RX9, Cond.code yX9_find cX9_find 4 (some .int), Cond.fieldLink RX9 19 "ClayAccounts$Units" "names" "[J", Cond.methodLink RX6 118 yX6_canCountBe, Cond.instanceMethod yX6_canCountBe, Cond.selects RX6 yX6_canCountBe yX6_canCountBe, Cond.code yX6_canCountBe cX6_canCountBe 4 (some .boolean), Cond.methodLink RX6 124 yX6_brokenDigits, Cond.instanceMethod yX6_brokenDigits, Cond.selects RX6 yX6_brokenDigits yX6_brokenDigits, Cond.code yX6_brokenDigits cX6_brokenDigits 1 (some .int), Cond.methodLink RX6 128 yX6_isLesser, Cond.static yX6_isLesser]
def wsX11_tablet_r8 : List Cond := [Cond.code yX6_isLesser cX6_isLesser 2 (some .boolean), Cond.methodLink RX6 135 yX9_systemOf, Cond.static yX9_systemOf, Cond.code yX9_systemOf cX9_systemOf 1 (some .int), Cond.methodLink RX6 131 yX6_addAmount, Cond.instanceMethod yX6_addAmount, Cond.selects RX6 yX6_addAmount yX6_addAmount, Cond.code yX6_addAmount cX6_addAmount 9 none, Cond.fieldLink RX6 139 "ClayAccounts$Units" "worths" "[I", Cond.methodLink RX6 142 yX5_addKnown, Cond.instanceMethod yX5_addKnown, Cond.selects RX5 yX5_addKnown yX5_addKnown, Cond.code yX5_addKnown cX5_addKnown 4 none, Cond.fieldLink RX5 50 "ClayAccounts$Line" "system" "I", Cond.fieldLink RX5 53 "ClayAccounts$Line" "value" "I", Cond.methodLink RX6 146 yX5_addHole, Cond.instanceMethod yX5_addHole, Cond.selects RX5 yX5_addHole yX5_addHole, Cond.code yX5_addHole cX5_addHole 5 (some (.object "ClayAccounts$Hole")), Cond.fieldLink RX5 19 "ClayAccounts$Tablet" "holes" "[LClayAccounts$Hole;", Cond.fieldLink RX5 56 "ClayAccounts$Hole" "line" "I", Cond.fieldLink RX5 59 "ClayAccounts$Hole" "scale" "I", Cond.fieldLink RX5 62 "ClayAccounts$Hole" "weight" "I", Cond.fieldLink RX5 65 "ClayAccounts$Hole" "sureDigit" "I"]
def wsX11_tablet_r9 : List Cond := [Cond.fieldLink RX5 68 "ClayAccounts$Line" "holeCount" "I", Cond.methodLink RX6 150 yX1_limit, Cond.instanceMethod yX1_limit, Cond.selects RX1 yX1_limit yX1_limit, Cond.initialized RX1, Cond.code yX1_limit cX1_limit 4 none, Cond.fieldLink RX1 9 "ClayAccounts$Hole" "leastDigit" "I", Cond.fieldLink RX1 15 "ClayAccounts$Hole" "room" "I", Cond.fieldLink RX1 18 "ClayAccounts$Hole" "isBehindHole" "Z", Cond.methodLink RX6 59 yX6_takeNameOrEnd, Cond.instanceMethod yX6_takeNameOrEnd, Cond.selects RX6 yX6_takeNameOrEnd yX6_takeNameOrEnd, Cond.code yX6_takeNameOrEnd cX6_takeNameOrEnd 2 (some .boolean), Cond.methodLink RX6 63 yX6_endLine, Cond.instanceMethod yX6_endLine, Cond.selects RX6 yX6_endLine yX6_endLine, Cond.code yX6_endLine cX6_endLine 1 (some .boolean), Cond.methodLink RX11 110 yX7_clear, Cond.instanceMethod yX7_clear, Cond.selects RX7 yX7_clear yX7_clear, Cond.code yX7_clear cX7_clear 1 none]
def wsX11_tablet : List Cond := .code yX11_tablet cX11_tablet 3 (some .int) :: ((wsX11_tablet_r1 ++ (wsX11_tablet_r2 ++ (wsX11_tablet_r3 ++ (wsX11_tablet_r4 ++ (wsX11_tablet_r5 ++ (wsX11_tablet_r6 ++ (wsX11_tablet_r7 ++ (wsX11_tablet_r8 ++ wsX11_tablet_r9)))))))) ++ wsX110 ++ wsX90 ++ wsX60 ++ wsX80 ++ wsX50 ++ wsX70 ++ wsX20 ++ wsX10)
def wsX11_isTablet : List Cond := .code yX11_isTablet cX11_isTablet 2 (some .boolean) :: ([.fieldLink RX11 90 "ClayAccounts" "tabletCount" "I"] ++ wsX110)
def wsX11_isLine : List Cond := .code yX11_isLine cX11_isLine 3 (some .boolean) :: ([.fieldLink RX11 54 "ClayAccounts" "tablets" "[LClayAccounts$Tablet;", .fieldLink RX11 196 "ClayAccounts$Tablet" "lineCount" "I", .methodLink RX11 193 yX11_isTablet, .instanceMethod yX11_isTablet, .selects RX11 yX11_isTablet yX11_isTablet, .initialized RX11, .code yX11_isTablet cX11_isTablet 2 (some .boolean), .fieldLink RX11 90 "ClayAccounts" "tabletCount" "I"] ++ wsX110 ++ wsX50)
def wsX11_line : List Cond := .code yX11_line cX11_line 5 (some .int) :: ([.classLink RX11 135 "java/util/NoSuchElementException", .initialized "java/util/NoSuchElementException", .fieldLink RX11 54 "ClayAccounts" "tablets" "[LClayAccounts$Tablet;", .fieldLink RX11 175 "ClayAccounts$Tablet" "lines" "[LClayAccounts$Line;", .fieldLink RX11 179 "ClayAccounts$Line" "kind" "I", .fieldLink RX11 184 "ClayAccounts$Line" "system" "I", .fieldLink RX11 187 "ClayAccounts$Line" "holeCount" "I", .fieldLink RX11 190 "ClayAccounts$Line" "value" "I", .methodLink RX11 170 yX11_isLine, .instanceMethod yX11_isLine, .selects RX11 yX11_isLine yX11_isLine, .initialized RX11, .code yX11_isLine cX11_isLine 3 (some .boolean), .fieldLink RX11 196 "ClayAccounts$Tablet" "lineCount" "I", .methodLink RX11 193 yX11_isTablet, .instanceMethod yX11_isTablet, .selects RX11 yX11_isTablet yX11_isTablet, .code yX11_isTablet cX11_isTablet 2 (some .boolean), .fieldLink RX11 90 "ClayAccounts" "tabletCount" "I"] ++ wsX110 ++ wsX50 ++ wsX20 ++ (vx_atS RX11 139 "java/util/NoSuchElementException" ["java/lang/RuntimeException", "java/lang/Exception"]).filter goodWord)
def wsX11_lines : List Cond := .code yX11_lines cX11_lines 2 (some .int) :: ([.fieldLink RX11 54 "ClayAccounts" "tablets" "[LClayAccounts$Tablet;", .fieldLink RX11 196 "ClayAccounts$Tablet" "lineCount" "I", .methodLink RX11 193 yX11_isTablet, .instanceMethod yX11_isTablet, .selects RX11 yX11_isTablet yX11_isTablet, .initialized RX11, .code yX11_isTablet cX11_isTablet 2 (some .boolean), .fieldLink RX11 90 "ClayAccounts" "tabletCount" "I"] ++ wsX110 ++ wsX50)
def wsX11_solved_r1 : List Cond := [Cond.fieldLink RX11 54 "ClayAccounts" "tablets" "[LClayAccounts$Tablet;", Cond.fieldLink RX11 264 "ClayAccounts$Tablet" "isSolved" "Z", Cond.fieldLink RX11 41 "ClayAccounts" "solver" "LClayAccounts$Solver;", Cond.methodLink RX11 268 yX4_solve, Cond.instanceMethod yX4_solve, Cond.selects RX4 yX4_solve yX4_solve, Cond.initialized RX4, Cond.code yX4_solve cX4_solve 4 none, Cond.fieldLink RX4 29 "ClayAccounts$Solver" "oneIsEnough" "Z", Cond.fieldLink RX4 33 "ClayAccounts$Solver" "sumCount" "I", Cond.fieldLink RX4 37 "ClayAccounts$Tablet" "lineCount" "I", Cond.fieldLink RX4 42 "ClayAccounts$Tablet" "lines" "[LClayAccounts$Line;", Cond.fieldLink RX4 46 "ClayAccounts$Line" "kind" "I", Cond.methodLink RX4 51 yX4_weigh, Cond.instanceMethod yX4_weigh, Cond.selects RX4 yX4_weigh yX4_weigh, Cond.code yX4_weigh cX4_weigh 7 none, Cond.fieldLink RX4 11 "ClayAccounts$Solver" "off" "[[J", Cond.fieldLink RX4 16 "ClayAccounts$Solver" "slopes" "[[J", Cond.fieldLink RX4 74 "ClayAccounts$Line" "system" "I", Cond.methodLink RX4 70 yX4_addPart, Cond.instanceMethod yX4_addPart, Cond.selects RX4 yX4_addPart yX4_addPart, Cond.code yX4_addPart cX4_addPart 6 none]
def wsX11_solved_r2 : List Cond := [Cond.fieldLink RX4 77 "ClayAccounts$Line" "value" "I", Cond.fieldLink RX4 80 "ClayAccounts$Tablet" "holeCount" "I", Cond.fieldLink RX4 83 "ClayAccounts$Tablet" "holes" "[LClayAccounts$Hole;", Cond.fieldLink RX4 87 "ClayAccounts$Hole" "line" "I", Cond.fieldLink RX4 92 "ClayAccounts$Hole" "weight" "I", Cond.methodLink RX4 55 yX4_measure, Cond.instanceMethod yX4_measure, Cond.selects RX4 yX4_measure yX4_measure, Cond.code yX4_measure cX4_measure 5 none, Cond.fieldLink RX4 19 "ClayAccounts$Solver" "downs" "[[J", Cond.fieldLink RX4 22 "ClayAccounts$Solver" "ups" "[[J", Cond.constantLong RX4 95 (9), Cond.methodLink RX4 97 Lib.MathLoose.min_long.x, Cond.static Lib.MathLoose.min_long.x, Cond.initialized "java/lang/Math", Cond.code Lib.MathLoose.min_long.x Lib.MathLoose.min_long.code 4 (some .long), Cond.methodLink RX4 103 Lib.MathLoose.max_long.x, Cond.static Lib.MathLoose.max_long.x, Cond.code Lib.MathLoose.max_long.x Lib.MathLoose.max_long.code 4 (some .long), Cond.methodLink RX4 59 yX4_missedWith, Cond.instanceMethod yX4_missedWith, Cond.selects RX4 yX4_missedWith yX4_missedWith, Cond.code yX4_missedWith cX4_missedWith 6 (some .int), Cond.methodLink RX4 63 yX4_isWorthwhile]
def wsX11_solved_r3 : List Cond := [Cond.instanceMethod yX4_isWorthwhile, Cond.selects RX4 yX4_isWorthwhile yX4_isWorthwhile, Cond.code yX4_isWorthwhile cX4_isWorthwhile 3 (some .boolean), Cond.fieldLink RX4 106 "ClayAccounts$Tablet" "readingCount" "I", Cond.fieldLink RX4 109 "ClayAccounts$Tablet" "fewestWrong" "I", Cond.methodLink RX4 67 yX4_fill, Cond.instanceMethod yX4_fill, Cond.selects RX4 yX4_fill yX4_fill, Cond.code yX4_fill cX4_fill 8 none, Cond.methodLink RX4 112 Lib.Math.min.name, Cond.static Lib.Math.min.name, Cond.code Lib.Math.min.name Lib.Math.min.code 2 (some .int), Cond.fieldLink RX4 119 "ClayAccounts$Hole" "isBehindHole" "Z", Cond.fieldLink RX4 122 "ClayAccounts$Hole" "room" "I", Cond.fieldLink RX4 25 "ClayAccounts$Solver" "digits" "[I", Cond.fieldLink RX4 125 "ClayAccounts$Hole" "leastDigit" "I", Cond.fieldLink RX4 128 "ClayAccounts$Hole" "scale" "I", Cond.methodLink RX4 115 yX4_noteReading, Cond.instanceMethod yX4_noteReading, Cond.selects RX4 yX4_noteReading yX4_noteReading, Cond.code yX4_noteReading cX4_noteReading 6 none, Cond.methodLink RX4 131 yX1_noteDigit, Cond.instanceMethod yX1_noteDigit, Cond.selects RX1 yX1_noteDigit yX1_noteDigit]
def wsX11_solved_r4 : List Cond := [Cond.initialized RX1, Cond.code yX1_noteDigit cX1_noteDigit 2 none, Cond.fieldLink RX1 22 "ClayAccounts$Hole" "sureDigit" "I", Cond.methodLink RX4 134 yX2_noteValue, Cond.instanceMethod yX2_noteValue, Cond.selects RX2 yX2_noteValue yX2_noteValue, Cond.initialized RX2, Cond.code yX2_noteValue cX2_noteValue 2 none, Cond.fieldLink RX2 24 "ClayAccounts$Line" "least" "I", Cond.methodLink RX2 30 Lib.Math.min.name, Cond.fieldLink RX2 27 "ClayAccounts$Line" "greatest" "I", Cond.methodLink RX2 36 Lib.Math.max.name, Cond.static Lib.Math.max.name, Cond.code Lib.Math.max.name Lib.Math.max.code 2 (some .int)]
def wsX11_solved : List Cond := .code yX11_solved cX11_solved 3 (some (.object "ClayAccounts$Tablet")) :: ((wsX11_solved_r1 ++ (wsX11_solved_r2 ++ (wsX11_solved_r3 ++ wsX11_solved_r4))) ++ wsX110 ++ wsX50 ++ wsX40 ++ wsX20 ++ wsX10)
def wsX11_readings_r1 : List Cond := [Cond.fieldLink RX11 203 "ClayAccounts$Tablet" "readingCount" "I", Cond.methodLink RX11 193 yX11_isTablet, Cond.instanceMethod yX11_isTablet, Cond.selects RX11 yX11_isTablet yX11_isTablet, Cond.initialized RX11, Cond.code yX11_isTablet cX11_isTablet 2 (some .boolean), Cond.fieldLink RX11 90 "ClayAccounts" "tabletCount" "I", Cond.methodLink RX11 199 yX11_solved, Cond.instanceMethod yX11_solved, Cond.selects RX11 yX11_solved yX11_solved, Cond.code yX11_solved cX11_solved 3 (some (.object "ClayAccounts$Tablet")), Cond.fieldLink RX11 54 "ClayAccounts" "tablets" "[LClayAccounts$Tablet;", Cond.fieldLink RX11 264 "ClayAccounts$Tablet" "isSolved" "Z", Cond.fieldLink RX11 41 "ClayAccounts" "solver" "LClayAccounts$Solver;", Cond.methodLink RX11 268 yX4_solve, Cond.instanceMethod yX4_solve, Cond.selects RX4 yX4_solve yX4_solve, Cond.initialized RX4, Cond.code yX4_solve cX4_solve 4 none, Cond.fieldLink RX4 29 "ClayAccounts$Solver" "oneIsEnough" "Z", Cond.fieldLink RX4 33 "ClayAccounts$Solver" "sumCount" "I", Cond.fieldLink RX4 37 "ClayAccounts$Tablet" "lineCount" "I", Cond.fieldLink RX4 42 "ClayAccounts$Tablet" "lines" "[LClayAccounts$Line;", Cond.fieldLink RX4 46 "ClayAccounts$Line" "kind" "I"]
def wsX11_readings_r2 : List Cond := [Cond.methodLink RX4 51 yX4_weigh, Cond.instanceMethod yX4_weigh, Cond.selects RX4 yX4_weigh yX4_weigh, Cond.code yX4_weigh cX4_weigh 7 none, Cond.fieldLink RX4 11 "ClayAccounts$Solver" "off" "[[J", Cond.fieldLink RX4 16 "ClayAccounts$Solver" "slopes" "[[J", Cond.fieldLink RX4 74 "ClayAccounts$Line" "system" "I", Cond.methodLink RX4 70 yX4_addPart, Cond.instanceMethod yX4_addPart, Cond.selects RX4 yX4_addPart yX4_addPart, Cond.code yX4_addPart cX4_addPart 6 none, Cond.fieldLink RX4 77 "ClayAccounts$Line" "value" "I", Cond.fieldLink RX4 80 "ClayAccounts$Tablet" "holeCount" "I", Cond.fieldLink RX4 83 "ClayAccounts$Tablet" "holes" "[LClayAccounts$Hole;", Cond.fieldLink RX4 87 "ClayAccounts$Hole" "line" "I", Cond.fieldLink RX4 92 "ClayAccounts$Hole" "weight" "I", Cond.methodLink RX4 55 yX4_measure, Cond.instanceMethod yX4_measure, Cond.selects RX4 yX4_measure yX4_measure, Cond.code yX4_measure cX4_measure 5 none, Cond.fieldLink RX4 19 "ClayAccounts$Solver" "downs" "[[J", Cond.fieldLink RX4 22 "ClayAccounts$Solver" "ups" "[[J", Cond.constantLong RX4 95 (9), Cond.methodLink RX4 97 Lib.MathLoose.min_long.x]
def wsX11_readings_r3 : List Cond := [Cond.static Lib.MathLoose.min_long.x, Cond.initialized "java/lang/Math", Cond.code Lib.MathLoose.min_long.x Lib.MathLoose.min_long.code 4 (some .long), Cond.methodLink RX4 103 Lib.MathLoose.max_long.x, Cond.static Lib.MathLoose.max_long.x, Cond.code Lib.MathLoose.max_long.x Lib.MathLoose.max_long.code 4 (some .long), Cond.methodLink RX4 59 yX4_missedWith, Cond.instanceMethod yX4_missedWith, Cond.selects RX4 yX4_missedWith yX4_missedWith, Cond.code yX4_missedWith cX4_missedWith 6 (some .int), Cond.methodLink RX4 63 yX4_isWorthwhile, Cond.instanceMethod yX4_isWorthwhile, Cond.selects RX4 yX4_isWorthwhile yX4_isWorthwhile, Cond.code yX4_isWorthwhile cX4_isWorthwhile 3 (some .boolean), Cond.fieldLink RX4 106 "ClayAccounts$Tablet" "readingCount" "I", Cond.fieldLink RX4 109 "ClayAccounts$Tablet" "fewestWrong" "I", Cond.methodLink RX4 67 yX4_fill, Cond.instanceMethod yX4_fill, Cond.selects RX4 yX4_fill yX4_fill, Cond.code yX4_fill cX4_fill 8 none, Cond.methodLink RX4 112 Lib.Math.min.name, Cond.static Lib.Math.min.name, Cond.code Lib.Math.min.name Lib.Math.min.code 2 (some .int), Cond.fieldLink RX4 119 "ClayAccounts$Hole" "isBehindHole" "Z"]
def wsX11_readings_r4 : List Cond := [Cond.fieldLink RX4 122 "ClayAccounts$Hole" "room" "I", Cond.fieldLink RX4 25 "ClayAccounts$Solver" "digits" "[I", Cond.fieldLink RX4 125 "ClayAccounts$Hole" "leastDigit" "I", Cond.fieldLink RX4 128 "ClayAccounts$Hole" "scale" "I", Cond.methodLink RX4 115 yX4_noteReading, Cond.instanceMethod yX4_noteReading, Cond.selects RX4 yX4_noteReading yX4_noteReading, Cond.code yX4_noteReading cX4_noteReading 6 none, Cond.methodLink RX4 131 yX1_noteDigit, Cond.instanceMethod yX1_noteDigit, Cond.selects RX1 yX1_noteDigit yX1_noteDigit, Cond.initialized RX1, Cond.code yX1_noteDigit cX1_noteDigit 2 none, Cond.fieldLink RX1 22 "ClayAccounts$Hole" "sureDigit" "I", Cond.methodLink RX4 134 yX2_noteValue, Cond.instanceMethod yX2_noteValue, Cond.selects RX2 yX2_noteValue yX2_noteValue, Cond.initialized RX2, Cond.code yX2_noteValue cX2_noteValue 2 none, Cond.fieldLink RX2 24 "ClayAccounts$Line" "least" "I", Cond.methodLink RX2 30 Lib.Math.min.name, Cond.fieldLink RX2 27 "ClayAccounts$Line" "greatest" "I", Cond.methodLink RX2 36 Lib.Math.max.name, Cond.static Lib.Math.max.name]
def wsX11_readings_r5 : List Cond := [Cond.code Lib.Math.max.name Lib.Math.max.code 2 (some .int)]
def wsX11_readings : List Cond := .code yX11_readings cX11_readings 2 (some .int) :: ((wsX11_readings_r1 ++ (wsX11_readings_r2 ++ (wsX11_readings_r3 ++ (wsX11_readings_r4 ++ wsX11_readings_r5)))) ++ wsX50 ++ wsX110 ++ wsX40 ++ wsX20 ++ wsX10)
def wsX11_bound_r1 : List Cond := [Cond.classLink RX11 135 "java/util/NoSuchElementException", Cond.initialized "java/util/NoSuchElementException", Cond.fieldLink RX11 203 "ClayAccounts$Tablet" "readingCount" "I", Cond.fieldLink RX11 175 "ClayAccounts$Tablet" "lines" "[LClayAccounts$Line;", Cond.methodLink RX11 170 yX11_isLine, Cond.instanceMethod yX11_isLine, Cond.selects RX11 yX11_isLine yX11_isLine, Cond.initialized RX11, Cond.code yX11_isLine cX11_isLine 3 (some .boolean), Cond.fieldLink RX11 54 "ClayAccounts" "tablets" "[LClayAccounts$Tablet;", Cond.fieldLink RX11 196 "ClayAccounts$Tablet" "lineCount" "I", Cond.methodLink RX11 193 yX11_isTablet, Cond.instanceMethod yX11_isTablet, Cond.selects RX11 yX11_isTablet yX11_isTablet, Cond.code yX11_isTablet cX11_isTablet 2 (some .boolean), Cond.fieldLink RX11 90 "ClayAccounts" "tabletCount" "I", Cond.methodLink RX11 199 yX11_solved, Cond.instanceMethod yX11_solved, Cond.selects RX11 yX11_solved yX11_solved, Cond.code yX11_solved cX11_solved 3 (some (.object "ClayAccounts$Tablet")), Cond.fieldLink RX11 264 "ClayAccounts$Tablet" "isSolved" "Z", Cond.fieldLink RX11 41 "ClayAccounts" "solver" "LClayAccounts$Solver;", Cond.methodLink RX11 268 yX4_solve, Cond.instanceMethod yX4_solve]
def wsX11_bound_r2 : List Cond := [Cond.selects RX4 yX4_solve yX4_solve, Cond.initialized RX4, Cond.code yX4_solve cX4_solve 4 none, Cond.fieldLink RX4 29 "ClayAccounts$Solver" "oneIsEnough" "Z", Cond.fieldLink RX4 33 "ClayAccounts$Solver" "sumCount" "I", Cond.fieldLink RX4 37 "ClayAccounts$Tablet" "lineCount" "I", Cond.fieldLink RX4 42 "ClayAccounts$Tablet" "lines" "[LClayAccounts$Line;", Cond.fieldLink RX4 46 "ClayAccounts$Line" "kind" "I", Cond.methodLink RX4 51 yX4_weigh, Cond.instanceMethod yX4_weigh, Cond.selects RX4 yX4_weigh yX4_weigh, Cond.code yX4_weigh cX4_weigh 7 none, Cond.fieldLink RX4 11 "ClayAccounts$Solver" "off" "[[J", Cond.fieldLink RX4 16 "ClayAccounts$Solver" "slopes" "[[J", Cond.fieldLink RX4 74 "ClayAccounts$Line" "system" "I", Cond.methodLink RX4 70 yX4_addPart, Cond.instanceMethod yX4_addPart, Cond.selects RX4 yX4_addPart yX4_addPart, Cond.code yX4_addPart cX4_addPart 6 none, Cond.fieldLink RX4 77 "ClayAccounts$Line" "value" "I", Cond.fieldLink RX4 80 "ClayAccounts$Tablet" "holeCount" "I", Cond.fieldLink RX4 83 "ClayAccounts$Tablet" "holes" "[LClayAccounts$Hole;", Cond.fieldLink RX4 87 "ClayAccounts$Hole" "line" "I", Cond.fieldLink RX4 92 "ClayAccounts$Hole" "weight" "I"]
def wsX11_bound_r3 : List Cond := [Cond.methodLink RX4 55 yX4_measure, Cond.instanceMethod yX4_measure, Cond.selects RX4 yX4_measure yX4_measure, Cond.code yX4_measure cX4_measure 5 none, Cond.fieldLink RX4 19 "ClayAccounts$Solver" "downs" "[[J", Cond.fieldLink RX4 22 "ClayAccounts$Solver" "ups" "[[J", Cond.constantLong RX4 95 (9), Cond.methodLink RX4 97 Lib.MathLoose.min_long.x, Cond.static Lib.MathLoose.min_long.x, Cond.initialized "java/lang/Math", Cond.code Lib.MathLoose.min_long.x Lib.MathLoose.min_long.code 4 (some .long), Cond.methodLink RX4 103 Lib.MathLoose.max_long.x, Cond.static Lib.MathLoose.max_long.x, Cond.code Lib.MathLoose.max_long.x Lib.MathLoose.max_long.code 4 (some .long), Cond.methodLink RX4 59 yX4_missedWith, Cond.instanceMethod yX4_missedWith, Cond.selects RX4 yX4_missedWith yX4_missedWith, Cond.code yX4_missedWith cX4_missedWith 6 (some .int), Cond.methodLink RX4 63 yX4_isWorthwhile, Cond.instanceMethod yX4_isWorthwhile, Cond.selects RX4 yX4_isWorthwhile yX4_isWorthwhile, Cond.code yX4_isWorthwhile cX4_isWorthwhile 3 (some .boolean), Cond.fieldLink RX4 106 "ClayAccounts$Tablet" "readingCount" "I", Cond.fieldLink RX4 109 "ClayAccounts$Tablet" "fewestWrong" "I"]
def wsX11_bound_r4 : List Cond := [Cond.methodLink RX4 67 yX4_fill, Cond.instanceMethod yX4_fill, Cond.selects RX4 yX4_fill yX4_fill, Cond.code yX4_fill cX4_fill 8 none, Cond.methodLink RX4 112 Lib.Math.min.name, Cond.static Lib.Math.min.name, Cond.code Lib.Math.min.name Lib.Math.min.code 2 (some .int), Cond.fieldLink RX4 119 "ClayAccounts$Hole" "isBehindHole" "Z", Cond.fieldLink RX4 122 "ClayAccounts$Hole" "room" "I", Cond.fieldLink RX4 25 "ClayAccounts$Solver" "digits" "[I", Cond.fieldLink RX4 125 "ClayAccounts$Hole" "leastDigit" "I", Cond.fieldLink RX4 128 "ClayAccounts$Hole" "scale" "I", Cond.methodLink RX4 115 yX4_noteReading, Cond.instanceMethod yX4_noteReading, Cond.selects RX4 yX4_noteReading yX4_noteReading, Cond.code yX4_noteReading cX4_noteReading 6 none, Cond.methodLink RX4 131 yX1_noteDigit, Cond.instanceMethod yX1_noteDigit, Cond.selects RX1 yX1_noteDigit yX1_noteDigit, Cond.initialized RX1, Cond.code yX1_noteDigit cX1_noteDigit 2 none, Cond.fieldLink RX1 22 "ClayAccounts$Hole" "sureDigit" "I", Cond.methodLink RX4 134 yX2_noteValue, Cond.instanceMethod yX2_noteValue]
def wsX11_bound_r5 : List Cond := [Cond.selects RX2 yX2_noteValue yX2_noteValue, Cond.initialized RX2, Cond.code yX2_noteValue cX2_noteValue 2 none, Cond.fieldLink RX2 24 "ClayAccounts$Line" "least" "I", Cond.methodLink RX2 30 Lib.Math.min.name, Cond.fieldLink RX2 27 "ClayAccounts$Line" "greatest" "I", Cond.methodLink RX2 36 Lib.Math.max.name, Cond.static Lib.Math.max.name, Cond.code Lib.Math.max.name Lib.Math.max.code 2 (some .int), Cond.methodLink RX11 208 yX2_valueBound, Cond.instanceMethod yX2_valueBound, Cond.selects RX2 yX2_valueBound yX2_valueBound, Cond.code yX2_valueBound cX2_valueBound 2 (some .int), Cond.fieldLink RX2 18 "ClayAccounts$Line" "holeCount" "I", Cond.fieldLink RX2 21 "ClayAccounts$Line" "value" "I"]
def wsX11_bound : List Cond := .code yX11_bound cX11_bound 5 (some .int) :: ((wsX11_bound_r1 ++ (wsX11_bound_r2 ++ (wsX11_bound_r3 ++ (wsX11_bound_r4 ++ wsX11_bound_r5)))) ++ wsX50 ++ wsX110 ++ wsX40 ++ wsX20 ++ wsX10 ++ (vx_atS RX11 139 "java/util/NoSuchElementException" ["java/lang/RuntimeException", "java/lang/Exception"]).filter goodWord)
def wsX11_digit_r1 : List Cond := [Cond.classLink RX11 135 "java/util/NoSuchElementException", Cond.initialized "java/util/NoSuchElementException", Cond.fieldLink RX11 54 "ClayAccounts" "tablets" "[LClayAccounts$Tablet;", Cond.fieldLink RX11 212 "ClayAccounts$Tablet" "holeCount" "I", Cond.fieldLink RX11 203 "ClayAccounts$Tablet" "readingCount" "I", Cond.fieldLink RX11 215 "ClayAccounts$Tablet" "holes" "[LClayAccounts$Hole;", Cond.fieldLink RX11 219 "ClayAccounts$Hole" "sureDigit" "I", Cond.methodLink RX11 193 yX11_isTablet, Cond.instanceMethod yX11_isTablet, Cond.selects RX11 yX11_isTablet yX11_isTablet, Cond.initialized RX11, Cond.code yX11_isTablet cX11_isTablet 2 (some .boolean), Cond.fieldLink RX11 90 "ClayAccounts" "tabletCount" "I", Cond.methodLink RX11 199 yX11_solved, Cond.instanceMethod yX11_solved, Cond.selects RX11 yX11_solved yX11_solved, Cond.code yX11_solved cX11_solved 3 (some (.object "ClayAccounts$Tablet")), Cond.fieldLink RX11 264 "ClayAccounts$Tablet" "isSolved" "Z", Cond.fieldLink RX11 41 "ClayAccounts" "solver" "LClayAccounts$Solver;", Cond.methodLink RX11 268 yX4_solve, Cond.instanceMethod yX4_solve, Cond.selects RX4 yX4_solve yX4_solve, Cond.initialized RX4, Cond.code yX4_solve cX4_solve 4 none]
def wsX11_digit_r2 : List Cond := [Cond.fieldLink RX4 29 "ClayAccounts$Solver" "oneIsEnough" "Z", Cond.fieldLink RX4 33 "ClayAccounts$Solver" "sumCount" "I", Cond.fieldLink RX4 37 "ClayAccounts$Tablet" "lineCount" "I", Cond.fieldLink RX4 42 "ClayAccounts$Tablet" "lines" "[LClayAccounts$Line;", Cond.fieldLink RX4 46 "ClayAccounts$Line" "kind" "I", Cond.methodLink RX4 51 yX4_weigh, Cond.instanceMethod yX4_weigh, Cond.selects RX4 yX4_weigh yX4_weigh, Cond.code yX4_weigh cX4_weigh 7 none, Cond.fieldLink RX4 11 "ClayAccounts$Solver" "off" "[[J", Cond.fieldLink RX4 16 "ClayAccounts$Solver" "slopes" "[[J", Cond.fieldLink RX4 74 "ClayAccounts$Line" "system" "I", Cond.methodLink RX4 70 yX4_addPart, Cond.instanceMethod yX4_addPart, Cond.selects RX4 yX4_addPart yX4_addPart, Cond.code yX4_addPart cX4_addPart 6 none, Cond.fieldLink RX4 77 "ClayAccounts$Line" "value" "I", Cond.fieldLink RX4 80 "ClayAccounts$Tablet" "holeCount" "I", Cond.fieldLink RX4 83 "ClayAccounts$Tablet" "holes" "[LClayAccounts$Hole;", Cond.fieldLink RX4 87 "ClayAccounts$Hole" "line" "I", Cond.fieldLink RX4 92 "ClayAccounts$Hole" "weight" "I", Cond.methodLink RX4 55 yX4_measure, Cond.instanceMethod yX4_measure, Cond.selects RX4 yX4_measure yX4_measure]
def wsX11_digit_r3 : List Cond := [Cond.code yX4_measure cX4_measure 5 none, Cond.fieldLink RX4 19 "ClayAccounts$Solver" "downs" "[[J", Cond.fieldLink RX4 22 "ClayAccounts$Solver" "ups" "[[J", Cond.constantLong RX4 95 (9), Cond.methodLink RX4 97 Lib.MathLoose.min_long.x, Cond.static Lib.MathLoose.min_long.x, Cond.initialized "java/lang/Math", Cond.code Lib.MathLoose.min_long.x Lib.MathLoose.min_long.code 4 (some .long), Cond.methodLink RX4 103 Lib.MathLoose.max_long.x, Cond.static Lib.MathLoose.max_long.x, Cond.code Lib.MathLoose.max_long.x Lib.MathLoose.max_long.code 4 (some .long), Cond.methodLink RX4 59 yX4_missedWith, Cond.instanceMethod yX4_missedWith, Cond.selects RX4 yX4_missedWith yX4_missedWith, Cond.code yX4_missedWith cX4_missedWith 6 (some .int), Cond.methodLink RX4 63 yX4_isWorthwhile, Cond.instanceMethod yX4_isWorthwhile, Cond.selects RX4 yX4_isWorthwhile yX4_isWorthwhile, Cond.code yX4_isWorthwhile cX4_isWorthwhile 3 (some .boolean), Cond.fieldLink RX4 106 "ClayAccounts$Tablet" "readingCount" "I", Cond.fieldLink RX4 109 "ClayAccounts$Tablet" "fewestWrong" "I", Cond.methodLink RX4 67 yX4_fill, Cond.instanceMethod yX4_fill, Cond.selects RX4 yX4_fill yX4_fill]
def wsX11_digit_r4 : List Cond := [Cond.code yX4_fill cX4_fill 8 none, Cond.methodLink RX4 112 Lib.Math.min.name, Cond.static Lib.Math.min.name, Cond.code Lib.Math.min.name Lib.Math.min.code 2 (some .int), Cond.fieldLink RX4 119 "ClayAccounts$Hole" "isBehindHole" "Z", Cond.fieldLink RX4 122 "ClayAccounts$Hole" "room" "I", Cond.fieldLink RX4 25 "ClayAccounts$Solver" "digits" "[I", Cond.fieldLink RX4 125 "ClayAccounts$Hole" "leastDigit" "I", Cond.fieldLink RX4 128 "ClayAccounts$Hole" "scale" "I", Cond.methodLink RX4 115 yX4_noteReading, Cond.instanceMethod yX4_noteReading, Cond.selects RX4 yX4_noteReading yX4_noteReading, Cond.code yX4_noteReading cX4_noteReading 6 none, Cond.methodLink RX4 131 yX1_noteDigit, Cond.instanceMethod yX1_noteDigit, Cond.selects RX1 yX1_noteDigit yX1_noteDigit, Cond.initialized RX1, Cond.code yX1_noteDigit cX1_noteDigit 2 none, Cond.fieldLink RX1 22 "ClayAccounts$Hole" "sureDigit" "I", Cond.methodLink RX4 134 yX2_noteValue, Cond.instanceMethod yX2_noteValue, Cond.selects RX2 yX2_noteValue yX2_noteValue, Cond.initialized RX2, Cond.code yX2_noteValue cX2_noteValue 2 none]
def wsX11_digit_r5 : List Cond := [Cond.fieldLink RX2 24 "ClayAccounts$Line" "least" "I", Cond.methodLink RX2 30 Lib.Math.min.name, Cond.fieldLink RX2 27 "ClayAccounts$Line" "greatest" "I", Cond.methodLink RX2 36 Lib.Math.max.name, Cond.static Lib.Math.max.name, Cond.code Lib.Math.max.name Lib.Math.max.code 2 (some .int)]
def wsX11_digit : List Cond := .code yX11_digit cX11_digit 4 (some .int) :: ((wsX11_digit_r1 ++ (wsX11_digit_r2 ++ (wsX11_digit_r3 ++ (wsX11_digit_r4 ++ wsX11_digit_r5)))) ++ wsX110 ++ wsX50 ++ wsX10 ++ wsX40 ++ wsX20 ++ (vx_atS RX11 139 "java/util/NoSuchElementException" ["java/lang/RuntimeException", "java/lang/Exception"]).filter goodWord)
def wsX11_wrong_r1 : List Cond := [Cond.fieldLink RX11 224 "ClayAccounts$Tablet" "fewestWrong" "I", Cond.methodLink RX11 193 yX11_isTablet, Cond.instanceMethod yX11_isTablet, Cond.selects RX11 yX11_isTablet yX11_isTablet, Cond.initialized RX11, Cond.code yX11_isTablet cX11_isTablet 2 (some .boolean), Cond.fieldLink RX11 90 "ClayAccounts" "tabletCount" "I", Cond.methodLink RX11 199 yX11_solved, Cond.instanceMethod yX11_solved, Cond.selects RX11 yX11_solved yX11_solved, Cond.code yX11_solved cX11_solved 3 (some (.object "ClayAccounts$Tablet")), Cond.fieldLink RX11 54 "ClayAccounts" "tablets" "[LClayAccounts$Tablet;", Cond.fieldLink RX11 264 "ClayAccounts$Tablet" "isSolved" "Z", Cond.fieldLink RX11 41 "ClayAccounts" "solver" "LClayAccounts$Solver;", Cond.methodLink RX11 268 yX4_solve, Cond.instanceMethod yX4_solve, Cond.selects RX4 yX4_solve yX4_solve, Cond.initialized RX4, Cond.code yX4_solve cX4_solve 4 none, Cond.fieldLink RX4 29 "ClayAccounts$Solver" "oneIsEnough" "Z", Cond.fieldLink RX4 33 "ClayAccounts$Solver" "sumCount" "I", Cond.fieldLink RX4 37 "ClayAccounts$Tablet" "lineCount" "I", Cond.fieldLink RX4 42 "ClayAccounts$Tablet" "lines" "[LClayAccounts$Line;", Cond.fieldLink RX4 46 "ClayAccounts$Line" "kind" "I"]
def wsX11_wrong_r2 : List Cond := [Cond.methodLink RX4 51 yX4_weigh, Cond.instanceMethod yX4_weigh, Cond.selects RX4 yX4_weigh yX4_weigh, Cond.code yX4_weigh cX4_weigh 7 none, Cond.fieldLink RX4 11 "ClayAccounts$Solver" "off" "[[J", Cond.fieldLink RX4 16 "ClayAccounts$Solver" "slopes" "[[J", Cond.fieldLink RX4 74 "ClayAccounts$Line" "system" "I", Cond.methodLink RX4 70 yX4_addPart, Cond.instanceMethod yX4_addPart, Cond.selects RX4 yX4_addPart yX4_addPart, Cond.code yX4_addPart cX4_addPart 6 none, Cond.fieldLink RX4 77 "ClayAccounts$Line" "value" "I", Cond.fieldLink RX4 80 "ClayAccounts$Tablet" "holeCount" "I", Cond.fieldLink RX4 83 "ClayAccounts$Tablet" "holes" "[LClayAccounts$Hole;", Cond.fieldLink RX4 87 "ClayAccounts$Hole" "line" "I", Cond.fieldLink RX4 92 "ClayAccounts$Hole" "weight" "I", Cond.methodLink RX4 55 yX4_measure, Cond.instanceMethod yX4_measure, Cond.selects RX4 yX4_measure yX4_measure, Cond.code yX4_measure cX4_measure 5 none, Cond.fieldLink RX4 19 "ClayAccounts$Solver" "downs" "[[J", Cond.fieldLink RX4 22 "ClayAccounts$Solver" "ups" "[[J", Cond.constantLong RX4 95 (9), Cond.methodLink RX4 97 Lib.MathLoose.min_long.x]
def wsX11_wrong_r3 : List Cond := [Cond.static Lib.MathLoose.min_long.x, Cond.initialized "java/lang/Math", Cond.code Lib.MathLoose.min_long.x Lib.MathLoose.min_long.code 4 (some .long), Cond.methodLink RX4 103 Lib.MathLoose.max_long.x, Cond.static Lib.MathLoose.max_long.x, Cond.code Lib.MathLoose.max_long.x Lib.MathLoose.max_long.code 4 (some .long), Cond.methodLink RX4 59 yX4_missedWith, Cond.instanceMethod yX4_missedWith, Cond.selects RX4 yX4_missedWith yX4_missedWith, Cond.code yX4_missedWith cX4_missedWith 6 (some .int), Cond.methodLink RX4 63 yX4_isWorthwhile, Cond.instanceMethod yX4_isWorthwhile, Cond.selects RX4 yX4_isWorthwhile yX4_isWorthwhile, Cond.code yX4_isWorthwhile cX4_isWorthwhile 3 (some .boolean), Cond.fieldLink RX4 106 "ClayAccounts$Tablet" "readingCount" "I", Cond.fieldLink RX4 109 "ClayAccounts$Tablet" "fewestWrong" "I", Cond.methodLink RX4 67 yX4_fill, Cond.instanceMethod yX4_fill, Cond.selects RX4 yX4_fill yX4_fill, Cond.code yX4_fill cX4_fill 8 none, Cond.methodLink RX4 112 Lib.Math.min.name, Cond.static Lib.Math.min.name, Cond.code Lib.Math.min.name Lib.Math.min.code 2 (some .int), Cond.fieldLink RX4 119 "ClayAccounts$Hole" "isBehindHole" "Z"]
def wsX11_wrong_r4 : List Cond := [Cond.fieldLink RX4 122 "ClayAccounts$Hole" "room" "I", Cond.fieldLink RX4 25 "ClayAccounts$Solver" "digits" "[I", Cond.fieldLink RX4 125 "ClayAccounts$Hole" "leastDigit" "I", Cond.fieldLink RX4 128 "ClayAccounts$Hole" "scale" "I", Cond.methodLink RX4 115 yX4_noteReading, Cond.instanceMethod yX4_noteReading, Cond.selects RX4 yX4_noteReading yX4_noteReading, Cond.code yX4_noteReading cX4_noteReading 6 none, Cond.methodLink RX4 131 yX1_noteDigit, Cond.instanceMethod yX1_noteDigit, Cond.selects RX1 yX1_noteDigit yX1_noteDigit, Cond.initialized RX1, Cond.code yX1_noteDigit cX1_noteDigit 2 none, Cond.fieldLink RX1 22 "ClayAccounts$Hole" "sureDigit" "I", Cond.methodLink RX4 134 yX2_noteValue, Cond.instanceMethod yX2_noteValue, Cond.selects RX2 yX2_noteValue yX2_noteValue, Cond.initialized RX2, Cond.code yX2_noteValue cX2_noteValue 2 none, Cond.fieldLink RX2 24 "ClayAccounts$Line" "least" "I", Cond.methodLink RX2 30 Lib.Math.min.name, Cond.fieldLink RX2 27 "ClayAccounts$Line" "greatest" "I", Cond.methodLink RX2 36 Lib.Math.max.name, Cond.static Lib.Math.max.name]
def wsX11_wrong_r5 : List Cond := [Cond.code Lib.Math.max.name Lib.Math.max.code 2 (some .int)]
def wsX11_wrong : List Cond := .code yX11_wrong cX11_wrong 2 (some .int) :: ((wsX11_wrong_r1 ++ (wsX11_wrong_r2 ++ (wsX11_wrong_r3 ++ (wsX11_wrong_r4 ++ wsX11_wrong_r5)))) ++ wsX50 ++ wsX110 ++ wsX40 ++ wsX20 ++ wsX10)
def wsX11_isEdge : List Cond := .code yX11_isEdge cX11_isEdge 1 (some .boolean) :: ([.constant RX11 263 (99999999)])
def wsX11_fragment_r1 : List Cond := [Cond.fieldLink RX11 94 "ClayAccounts" "fragmentCount" "I", Cond.fieldLink RX11 14 "ClayAccounts" "tape" "LClayAccounts$Text;", Cond.fieldLink RX11 100 "ClayAccounts$Text" "size" "I", Cond.fieldLink RX11 65 "ClayAccounts" "fragments" "[LClayAccounts$Fragment;", Cond.methodLink RX11 227 yX11_isEdge, Cond.static yX11_isEdge, Cond.initialized RX11, Cond.code yX11_isEdge cX11_isEdge 1 (some .boolean), Cond.constant RX11 263 (99999999), Cond.methodLink RX11 230 yX0_take, Cond.instanceMethod yX0_take, Cond.selects RX0 yX0_take yX0_take, Cond.initialized RX0, Cond.code yX0_take cX0_take 6 none, Cond.fieldLink RX0 14 "ClayAccounts$Fragment" "text" "LClayAccounts$Text;", Cond.fieldLink RX0 23 "ClayAccounts$Fragment" "rowCount" "I", Cond.fieldLink RX0 27 "ClayAccounts$Text" "size" "I", Cond.fieldLink RX0 37 "ClayAccounts$Fragment" "left" "I", Cond.fieldLink RX0 40 "ClayAccounts$Fragment" "right" "I", Cond.methodLink RX0 20 yX7_clear, Cond.instanceMethod yX7_clear, Cond.selects RX7 yX7_clear yX7_clear, Cond.initialized RX7, Cond.code yX7_clear cX7_clear 1 none]
def wsX11_fragment_r2 : List Cond := [Cond.fieldLink RX7 21 "ClayAccounts$Text" "size" "I", Cond.methodLink RX0 30 yX7_byteAt, Cond.instanceMethod yX7_byteAt, Cond.selects RX7 yX7_byteAt yX7_byteAt, Cond.code yX7_byteAt cX7_byteAt 2 (some .int), Cond.fieldLink RX7 15 "ClayAccounts$Text" "bytes" "[B", Cond.methodLink RX0 34 yX7_put, Cond.instanceMethod yX7_put, Cond.selects RX7 yX7_put yX7_put, Cond.code yX7_put cX7_put 2 none, Cond.methodLink RX11 110 yX7_clear]
def wsX11_fragment : List Cond := .code yX11_fragment cX11_fragment 4 (some .int) :: ((wsX11_fragment_r1 ++ wsX11_fragment_r2) ++ wsX110 ++ wsX70 ++ wsX00)
def wsX11_isFragment : List Cond := .code yX11_isFragment cX11_isFragment 2 (some .boolean) :: ([.fieldLink RX11 94 "ClayAccounts" "fragmentCount" "I"] ++ wsX110)
def wsX11_rows : List Cond := .code yX11_rows cX11_rows 2 (some .int) :: ([.fieldLink RX11 65 "ClayAccounts" "fragments" "[LClayAccounts$Fragment;", .fieldLink RX11 236 "ClayAccounts$Fragment" "rowCount" "I", .methodLink RX11 233 yX11_isFragment, .instanceMethod yX11_isFragment, .selects RX11 yX11_isFragment yX11_isFragment, .initialized RX11, .code yX11_isFragment cX11_isFragment 2 (some .boolean), .fieldLink RX11 94 "ClayAccounts" "fragmentCount" "I"] ++ wsX110 ++ wsX00)
def wsX11_joined_r1 : List Cond := [Cond.fieldLink RX11 69 "ClayAccounts" "joins" "[I", Cond.fieldLink RX11 65 "ClayAccounts" "fragments" "[LClayAccounts$Fragment;", Cond.fieldLink RX11 21 "ClayAccounts" "said" "LClayAccounts$Text;", Cond.fieldLink RX11 34 "ClayAccounts" "tabletReader" "LClayAccounts$TabletReader;", Cond.fieldLink RX11 76 "ClayAccounts" "units" "LClayAccounts$Units;", Cond.fieldLink RX11 59 "ClayAccounts" "joinedTablet" "LClayAccounts$Tablet;", Cond.fieldLink RX11 41 "ClayAccounts" "solver" "LClayAccounts$Solver;", Cond.fieldLink RX11 203 "ClayAccounts$Tablet" "readingCount" "I", Cond.methodLink RX11 272 yX0_goesLeftOf, Cond.instanceMethod yX0_goesLeftOf, Cond.selects RX0 yX0_goesLeftOf yX0_goesLeftOf, Cond.initialized RX0, Cond.code yX0_goesLeftOf cX0_goesLeftOf 2 (some .boolean), Cond.fieldLink RX0 40 "ClayAccounts$Fragment" "right" "I", Cond.fieldLink RX0 37 "ClayAccounts$Fragment" "left" "I", Cond.constant RX0 43 (99999999), Cond.fieldLink RX0 23 "ClayAccounts$Fragment" "rowCount" "I", Cond.methodLink RX11 276 yX0_sayWith, Cond.instanceMethod yX0_sayWith, Cond.selects RX0 yX0_sayWith yX0_sayWith, Cond.code yX0_sayWith cX0_sayWith 6 none, Cond.methodLink RX0 20 yX7_clear, Cond.instanceMethod yX7_clear, Cond.selects RX7 yX7_clear yX7_clear]
def wsX11_joined_r2 : List Cond := [Cond.initialized RX7, Cond.code yX7_clear cX7_clear 1 none, Cond.fieldLink RX7 21 "ClayAccounts$Text" "size" "I", Cond.methodLink RX0 44 yX0_sayRow, Cond.instanceMethod yX0_sayRow, Cond.selects RX0 yX0_sayRow yX0_sayRow, Cond.code yX0_sayRow cX0_sayRow 4 (some .int), Cond.fieldLink RX0 14 "ClayAccounts$Fragment" "text" "LClayAccounts$Text;", Cond.fieldLink RX0 27 "ClayAccounts$Text" "size" "I", Cond.methodLink RX0 30 yX7_byteAt, Cond.instanceMethod yX7_byteAt, Cond.selects RX7 yX7_byteAt yX7_byteAt, Cond.code yX7_byteAt cX7_byteAt 2 (some .int), Cond.fieldLink RX7 15 "ClayAccounts$Text" "bytes" "[B", Cond.methodLink RX0 34 yX7_put, Cond.instanceMethod yX7_put, Cond.selects RX7 yX7_put yX7_put, Cond.code yX7_put cX7_put 2 none, Cond.methodLink RX11 166 yX6_read, Cond.instanceMethod yX6_read, Cond.selects RX6 yX6_read yX6_read, Cond.initialized RX6, Cond.code yX6_read cX6_read 5 (some .boolean), Cond.fieldLink RX6 12 "ClayAccounts$TabletReader" "tokens" "LClayAccounts$Tokens;"]
def wsX11_joined_r3 : List Cond := [Cond.fieldLink RX6 27 "ClayAccounts$TabletReader" "state" "I", Cond.fieldLink RX6 34 "ClayAccounts$Tokens" "kind" "I", Cond.fieldLink RX6 37 "ClayAccounts$Tablet" "lineCount" "I", Cond.methodLink RX6 18 yX5_clear, Cond.instanceMethod yX5_clear, Cond.selects RX5 yX5_clear yX5_clear, Cond.initialized RX5, Cond.code yX5_clear cX5_clear 1 none, Cond.fieldLink RX5 25 "ClayAccounts$Tablet" "lineCount" "I", Cond.fieldLink RX5 29 "ClayAccounts$Tablet" "holeCount" "I", Cond.fieldLink RX5 32 "ClayAccounts$Tablet" "isSolved" "Z", Cond.fieldLink RX5 36 "ClayAccounts$Tablet" "readingCount" "I", Cond.fieldLink RX5 39 "ClayAccounts$Tablet" "fewestWrong" "I", Cond.methodLink RX6 23 yX8_begin, Cond.instanceMethod yX8_begin, Cond.selects RX8 yX8_begin yX8_begin, Cond.initialized RX8, Cond.code yX8_begin cX8_begin 4 none, Cond.fieldLink RX8 14 "ClayAccounts$Tokens" "text" "LClayAccounts$Text;", Cond.fieldLink RX8 20 "ClayAccounts$Tokens" "most" "I", Cond.fieldLink RX8 24 "ClayAccounts$Tokens" "withBroken" "Z", Cond.fieldLink RX8 28 "ClayAccounts$Tokens" "at" "I", Cond.fieldLink RX8 31 "ClayAccounts$Tokens" "fault" "I", Cond.fieldLink RX8 34 "ClayAccounts$Tokens" "faultPlace" "I"]
def wsX11_joined_r4 : List Cond := [Cond.methodLink RX6 31 yX8_advance, Cond.instanceMethod yX8_advance, Cond.selects RX8 yX8_advance yX8_advance, Cond.code yX8_advance cX8_advance 3 none, Cond.fieldLink RX8 43 "ClayAccounts$Text" "size" "I", Cond.methodLink RX8 50 Lib.Math.min.name, Cond.static Lib.Math.min.name, Cond.initialized "java/lang/Math", Cond.code Lib.Math.min.name Lib.Math.min.code 2 (some .int), Cond.fieldLink RX8 37 "ClayAccounts$Tokens" "kind" "I", Cond.fieldLink RX8 40 "ClayAccounts$Tokens" "place" "I", Cond.methodLink RX8 56 yX7_byteAt, Cond.methodLink RX8 60 yX8_isBlank, Cond.static yX8_isBlank, Cond.code yX8_isBlank cX8_isBlank 1 (some .boolean), Cond.methodLink RX8 64 yX8_isSmallLetter, Cond.static yX8_isSmallLetter, Cond.code yX8_isSmallLetter cX8_isSmallLetter 1 (some .boolean), Cond.methodLink RX8 67 yX8_takeName, Cond.instanceMethod yX8_takeName, Cond.selects RX8 yX8_takeName yX8_takeName, Cond.code yX8_takeName cX8_takeName 3 none, Cond.fieldLink RX8 85 "ClayAccounts$Tokens" "name" "J", Cond.methodLink RX8 89 yX8_kindOfName]
def wsX11_joined_r5 : List Cond := [Cond.instanceMethod yX8_kindOfName, Cond.selects RX8 yX8_kindOfName yX8_kindOfName, Cond.code yX8_kindOfName cX8_kindOfName 1 (some .int), Cond.constantLong RX8 93 (126965465245037), Cond.constantLong RX8 95 (500086104428), Cond.constantLong RX8 97 (444300619364), Cond.methodLink RX8 70 yX8_isDigit, Cond.instanceMethod yX8_isDigit, Cond.selects RX8 yX8_isDigit yX8_isDigit, Cond.code yX8_isDigit cX8_isDigit 2 (some .boolean), Cond.methodLink RX8 73 yX8_takeNumber, Cond.instanceMethod yX8_takeNumber, Cond.selects RX8 yX8_takeNumber yX8_takeNumber, Cond.code yX8_takeNumber cX8_takeNumber 3 none, Cond.fieldLink RX8 79 "ClayAccounts$Tokens" "tens" "I", Cond.fieldLink RX8 82 "ClayAccounts$Tokens" "ones" "I", Cond.methodLink RX8 76 yX8_takeSign, Cond.instanceMethod yX8_takeSign, Cond.selects RX8 yX8_takeSign yX8_takeSign, Cond.code yX8_takeSign cX8_takeSign 2 none, Cond.methodLink RX6 40 yX8_endsWell, Cond.instanceMethod yX8_endsWell, Cond.selects RX8 yX8_endsWell yX8_endsWell, Cond.code yX8_endsWell cX8_endsWell 2 (some .boolean)]
def wsX11_joined_r6 : List Cond := [Cond.methodLink RX8 46 yX8_refuse, Cond.instanceMethod yX8_refuse, Cond.selects RX8 yX8_refuse yX8_refuse, Cond.code yX8_refuse cX8_refuse 3 (some .boolean), Cond.methodLink RX6 44 yX6_takeToken, Cond.instanceMethod yX6_takeToken, Cond.selects RX6 yX6_takeToken yX6_takeToken, Cond.code yX6_takeToken cX6_takeToken 3 (some .boolean), Cond.methodLink RX6 48 yX6_beginLine, Cond.instanceMethod yX6_beginLine, Cond.selects RX6 yX6_beginLine yX6_beginLine, Cond.code yX6_beginLine cX6_beginLine 2 (some .boolean), Cond.fieldLink RX6 69 "ClayAccounts$TabletReader" "isLineTooMany" "Z", Cond.fieldLink RX6 73 "ClayAccounts$TabletReader" "unitAhead" "I", Cond.fieldLink RX6 76 "ClayAccounts$TabletReader" "lineKind" "I", Cond.fieldLink RX6 83 "ClayAccounts$Tokens" "place" "I", Cond.methodLink RX6 66 yX5_isFull, Cond.instanceMethod yX5_isFull, Cond.selects RX5 yX5_isFull yX5_isFull, Cond.code yX5_isFull cX5_isFull 1 (some .boolean), Cond.methodLink RX6 79 yX5_addLine, Cond.instanceMethod yX5_addLine, Cond.selects RX5 yX5_addLine yX5_addLine, Cond.code yX5_addLine cX5_addLine 2 none]
def wsX11_joined_r7 : List Cond := [Cond.fieldLink RX5 11 "ClayAccounts$Tablet" "lines" "[LClayAccounts$Line;", Cond.methodLink RX5 42 yX5_isFull, Cond.methodLink RX5 46 yX2_begin, Cond.instanceMethod yX2_begin, Cond.selects RX2 yX2_begin yX2_begin, Cond.initialized RX2, Cond.code yX2_begin cX2_begin 2 none, Cond.fieldLink RX2 9 "ClayAccounts$Line" "kind" "I", Cond.fieldLink RX2 15 "ClayAccounts$Line" "system" "I", Cond.fieldLink RX2 18 "ClayAccounts$Line" "holeCount" "I", Cond.fieldLink RX2 21 "ClayAccounts$Line" "value" "I", Cond.fieldLink RX2 24 "ClayAccounts$Line" "least" "I", Cond.fieldLink RX2 27 "ClayAccounts$Line" "greatest" "I", Cond.methodLink RX6 86 yX8_refuse, Cond.methodLink RX6 52 yX6_takeCount, Cond.instanceMethod yX6_takeCount, Cond.selects RX6 yX6_takeCount yX6_takeCount, Cond.code yX6_takeCount cX6_takeCount 1 (some .boolean), Cond.fieldLink RX6 90 "ClayAccounts$TabletReader" "countPlace" "I", Cond.fieldLink RX6 93 "ClayAccounts$Tokens" "tens" "I", Cond.fieldLink RX6 96 "ClayAccounts$TabletReader" "tens" "I", Cond.fieldLink RX6 97 "ClayAccounts$Tokens" "ones" "I", Cond.fieldLink RX6 100 "ClayAccounts$TabletReader" "ones" "I", Cond.methodLink RX6 101 yX8_demand]
def wsX11_joined_r8 : List Cond := [Cond.instanceMethod yX8_demand, Cond.selects RX8 yX8_demand yX8_demand, Cond.code yX8_demand cX8_demand 2 (some .boolean), Cond.methodLink RX6 56 yX6_takeAmount, Cond.instanceMethod yX6_takeAmount, Cond.selects RX6 yX6_takeAmount yX6_takeAmount, Cond.code yX6_takeAmount cX6_takeAmount 4 (some .boolean), Cond.fieldLink RX6 104 "ClayAccounts$Tokens" "name" "J", Cond.fieldLink RX6 114 "ClayAccounts$Units" "mosts" "[I", Cond.fieldLink RX6 121 "ClayAccounts$Tablet" "holeCount" "I", Cond.methodLink RX6 108 yX9_find, Cond.instanceMethod yX9_find, Cond.selects RX9 yX9_find yX9_find, Cond.initialized RX9, Cond.code yX9_find cX9_find 4 (some .int), Cond.fieldLink RX9 19 "ClayAccounts$Units" "names" "[J", Cond.methodLink RX6 118 yX6_canCountBe, Cond.instanceMethod yX6_canCountBe, Cond.selects RX6 yX6_canCountBe yX6_canCountBe, Cond.code yX6_canCountBe cX6_canCountBe 4 (some .boolean), Cond.methodLink RX6 124 yX6_brokenDigits, Cond.instanceMethod yX6_brokenDigits, Cond.selects RX6 yX6_brokenDigits yX6_brokenDigits, Cond.code yX6_brokenDigits cX6_brokenDigits 1 (some .int)]
def wsX11_joined_r9 : List Cond := [Cond.methodLink RX6 128 yX6_isLesser, Cond.static yX6_isLesser, Cond.code yX6_isLesser cX6_isLesser 2 (some .boolean), Cond.methodLink RX6 135 yX9_systemOf, Cond.static yX9_systemOf, Cond.code yX9_systemOf cX9_systemOf 1 (some .int), Cond.methodLink RX6 131 yX6_addAmount, Cond.instanceMethod yX6_addAmount, Cond.selects RX6 yX6_addAmount yX6_addAmount, Cond.code yX6_addAmount cX6_addAmount 9 none, Cond.fieldLink RX6 139 "ClayAccounts$Units" "worths" "[I", Cond.methodLink RX6 142 yX5_addKnown, Cond.instanceMethod yX5_addKnown, Cond.selects RX5 yX5_addKnown yX5_addKnown, Cond.code yX5_addKnown cX5_addKnown 4 none, Cond.fieldLink RX5 50 "ClayAccounts$Line" "system" "I", Cond.fieldLink RX5 53 "ClayAccounts$Line" "value" "I", Cond.methodLink RX6 146 yX5_addHole, Cond.instanceMethod yX5_addHole, Cond.selects RX5 yX5_addHole yX5_addHole, Cond.code yX5_addHole cX5_addHole 5 (some (.object "ClayAccounts$Hole")), Cond.fieldLink RX5 19 "ClayAccounts$Tablet" "holes" "[LClayAccounts$Hole;", Cond.fieldLink RX5 56 "ClayAccounts$Hole" "line" "I", Cond.fieldLink RX5 59 "ClayAccounts$Hole" "scale" "I"]
def wsX11_joined_r10 : List Cond := [Cond.fieldLink RX5 62 "ClayAccounts$Hole" "weight" "I", Cond.fieldLink RX5 65 "ClayAccounts$Hole" "sureDigit" "I", Cond.fieldLink RX5 68 "ClayAccounts$Line" "holeCount" "I", Cond.methodLink RX6 150 yX1_limit, Cond.instanceMethod yX1_limit, Cond.selects RX1 yX1_limit yX1_limit, Cond.initialized RX1, Cond.code yX1_limit cX1_limit 4 none, Cond.fieldLink RX1 9 "ClayAccounts$Hole" "leastDigit" "I", Cond.fieldLink RX1 15 "ClayAccounts$Hole" "room" "I", Cond.fieldLink RX1 18 "ClayAccounts$Hole" "isBehindHole" "Z", Cond.methodLink RX6 59 yX6_takeNameOrEnd, Cond.instanceMethod yX6_takeNameOrEnd, Cond.selects RX6 yX6_takeNameOrEnd yX6_takeNameOrEnd, Cond.code yX6_takeNameOrEnd cX6_takeNameOrEnd 2 (some .boolean), Cond.methodLink RX6 63 yX6_endLine, Cond.instanceMethod yX6_endLine, Cond.selects RX6 yX6_endLine yX6_endLine, Cond.code yX6_endLine cX6_endLine 1 (some .boolean), Cond.methodLink RX11 268 yX4_solve, Cond.instanceMethod yX4_solve, Cond.selects RX4 yX4_solve yX4_solve, Cond.initialized RX4, Cond.code yX4_solve cX4_solve 4 none]
def wsX11_joined_r11 : List Cond := [Cond.fieldLink RX4 29 "ClayAccounts$Solver" "oneIsEnough" "Z", Cond.fieldLink RX4 33 "ClayAccounts$Solver" "sumCount" "I", Cond.fieldLink RX4 37 "ClayAccounts$Tablet" "lineCount" "I", Cond.fieldLink RX4 42 "ClayAccounts$Tablet" "lines" "[LClayAccounts$Line;", Cond.fieldLink RX4 46 "ClayAccounts$Line" "kind" "I", Cond.methodLink RX4 51 yX4_weigh, Cond.instanceMethod yX4_weigh, Cond.selects RX4 yX4_weigh yX4_weigh, Cond.code yX4_weigh cX4_weigh 7 none, Cond.fieldLink RX4 11 "ClayAccounts$Solver" "off" "[[J", Cond.fieldLink RX4 16 "ClayAccounts$Solver" "slopes" "[[J", Cond.fieldLink RX4 74 "ClayAccounts$Line" "system" "I", Cond.methodLink RX4 70 yX4_addPart, Cond.instanceMethod yX4_addPart, Cond.selects RX4 yX4_addPart yX4_addPart, Cond.code yX4_addPart cX4_addPart 6 none, Cond.fieldLink RX4 77 "ClayAccounts$Line" "value" "I", Cond.fieldLink RX4 80 "ClayAccounts$Tablet" "holeCount" "I", Cond.fieldLink RX4 83 "ClayAccounts$Tablet" "holes" "[LClayAccounts$Hole;", Cond.fieldLink RX4 87 "ClayAccounts$Hole" "line" "I", Cond.fieldLink RX4 92 "ClayAccounts$Hole" "weight" "I", Cond.methodLink RX4 55 yX4_measure, Cond.instanceMethod yX4_measure, Cond.selects RX4 yX4_measure yX4_measure]
def wsX11_joined_r12 : List Cond := [Cond.code yX4_measure cX4_measure 5 none, Cond.fieldLink RX4 19 "ClayAccounts$Solver" "downs" "[[J", Cond.fieldLink RX4 22 "ClayAccounts$Solver" "ups" "[[J", Cond.constantLong RX4 95 (9), Cond.methodLink RX4 97 Lib.MathLoose.min_long.x, Cond.static Lib.MathLoose.min_long.x, Cond.code Lib.MathLoose.min_long.x Lib.MathLoose.min_long.code 4 (some .long), Cond.methodLink RX4 103 Lib.MathLoose.max_long.x, Cond.static Lib.MathLoose.max_long.x, Cond.code Lib.MathLoose.max_long.x Lib.MathLoose.max_long.code 4 (some .long), Cond.methodLink RX4 59 yX4_missedWith, Cond.instanceMethod yX4_missedWith, Cond.selects RX4 yX4_missedWith yX4_missedWith, Cond.code yX4_missedWith cX4_missedWith 6 (some .int), Cond.methodLink RX4 63 yX4_isWorthwhile, Cond.instanceMethod yX4_isWorthwhile, Cond.selects RX4 yX4_isWorthwhile yX4_isWorthwhile, Cond.code yX4_isWorthwhile cX4_isWorthwhile 3 (some .boolean), Cond.fieldLink RX4 106 "ClayAccounts$Tablet" "readingCount" "I", Cond.fieldLink RX4 109 "ClayAccounts$Tablet" "fewestWrong" "I", Cond.methodLink RX4 67 yX4_fill, Cond.instanceMethod yX4_fill, Cond.selects RX4 yX4_fill yX4_fill, Cond.code yX4_fill cX4_fill 8 none]
def wsX11_joined_r13 : List Cond := [Cond.methodLink RX4 112 Lib.Math.min.name, Cond.fieldLink RX4 119 "ClayAccounts$Hole" "isBehindHole" "Z", Cond.fieldLink RX4 122 "ClayAccounts$Hole" "room" "I", Cond.fieldLink RX4 25 "ClayAccounts$Solver" "digits" "[I", Cond.fieldLink RX4 125 "ClayAccounts$Hole" "leastDigit" "I", Cond.fieldLink RX4 128 "ClayAccounts$Hole" "scale" "I", Cond.methodLink RX4 115 yX4_noteReading, Cond.instanceMethod yX4_noteReading, Cond.selects RX4 yX4_noteReading yX4_noteReading, Cond.code yX4_noteReading cX4_noteReading 6 none, Cond.methodLink RX4 131 yX1_noteDigit, Cond.instanceMethod yX1_noteDigit, Cond.selects RX1 yX1_noteDigit yX1_noteDigit, Cond.code yX1_noteDigit cX1_noteDigit 2 none, Cond.fieldLink RX1 22 "ClayAccounts$Hole" "sureDigit" "I", Cond.methodLink RX4 134 yX2_noteValue, Cond.instanceMethod yX2_noteValue, Cond.selects RX2 yX2_noteValue yX2_noteValue, Cond.code yX2_noteValue cX2_noteValue 2 none, Cond.methodLink RX2 30 Lib.Math.min.name, Cond.methodLink RX2 36 Lib.Math.max.name, Cond.static Lib.Math.max.name, Cond.code Lib.Math.max.name Lib.Math.max.code 2 (some .int)]
def wsX11_joined : List Cond := .code yX11_joined cX11_joined 5 (some .int) :: ((wsX11_joined_r1 ++ (wsX11_joined_r2 ++ (wsX11_joined_r3 ++ (wsX11_joined_r4 ++ (wsX11_joined_r5 ++ (wsX11_joined_r6 ++ (wsX11_joined_r7 ++ (wsX11_joined_r8 ++ (wsX11_joined_r9 ++ (wsX11_joined_r10 ++ (wsX11_joined_r11 ++ (wsX11_joined_r12 ++ wsX11_joined_r13)))))))))))) ++ wsX110 ++ wsX50 ++ wsX00 ++ wsX70 ++ wsX60 ++ wsX80 ++ wsX20 ++ wsX90 ++ wsX10 ++ wsX40)
def wsX11_join_r1 : List Cond := [Cond.methodLink RX11 233 yX11_isFragment, Cond.instanceMethod yX11_isFragment, Cond.selects RX11 yX11_isFragment yX11_isFragment, Cond.initialized RX11, Cond.code yX11_isFragment cX11_isFragment 2 (some .boolean), Cond.fieldLink RX11 94 "ClayAccounts" "fragmentCount" "I", Cond.methodLink RX11 239 yX11_joined, Cond.instanceMethod yX11_joined, Cond.selects RX11 yX11_joined yX11_joined, Cond.code yX11_joined cX11_joined 5 (some .int), Cond.fieldLink RX11 69 "ClayAccounts" "joins" "[I", Cond.fieldLink RX11 65 "ClayAccounts" "fragments" "[LClayAccounts$Fragment;", Cond.fieldLink RX11 21 "ClayAccounts" "said" "LClayAccounts$Text;", Cond.fieldLink RX11 34 "ClayAccounts" "tabletReader" "LClayAccounts$TabletReader;", Cond.fieldLink RX11 76 "ClayAccounts" "units" "LClayAccounts$Units;", Cond.fieldLink RX11 59 "ClayAccounts" "joinedTablet" "LClayAccounts$Tablet;", Cond.fieldLink RX11 41 "ClayAccounts" "solver" "LClayAccounts$Solver;", Cond.fieldLink RX11 203 "ClayAccounts$Tablet" "readingCount" "I", Cond.methodLink RX11 272 yX0_goesLeftOf, Cond.instanceMethod yX0_goesLeftOf, Cond.selects RX0 yX0_goesLeftOf yX0_goesLeftOf, Cond.initialized RX0, Cond.code yX0_goesLeftOf cX0_goesLeftOf 2 (some .boolean), Cond.fieldLink RX0 40 "ClayAccounts$Fragment" "right" "I"]
def wsX11_join_r2 : List Cond := [Cond.fieldLink RX0 37 "ClayAccounts$Fragment" "left" "I", Cond.constant RX0 43 (99999999), Cond.fieldLink RX0 23 "ClayAccounts$Fragment" "rowCount" "I", Cond.methodLink RX11 276 yX0_sayWith, Cond.instanceMethod yX0_sayWith, Cond.selects RX0 yX0_sayWith yX0_sayWith, Cond.code yX0_sayWith cX0_sayWith 6 none, Cond.methodLink RX0 20 yX7_clear, Cond.instanceMethod yX7_clear, Cond.selects RX7 yX7_clear yX7_clear, Cond.initialized RX7, Cond.code yX7_clear cX7_clear 1 none, Cond.fieldLink RX7 21 "ClayAccounts$Text" "size" "I", Cond.methodLink RX0 44 yX0_sayRow, Cond.instanceMethod yX0_sayRow, Cond.selects RX0 yX0_sayRow yX0_sayRow, Cond.code yX0_sayRow cX0_sayRow 4 (some .int), Cond.fieldLink RX0 14 "ClayAccounts$Fragment" "text" "LClayAccounts$Text;", Cond.fieldLink RX0 27 "ClayAccounts$Text" "size" "I", Cond.methodLink RX0 30 yX7_byteAt, Cond.instanceMethod yX7_byteAt, Cond.selects RX7 yX7_byteAt yX7_byteAt, Cond.code yX7_byteAt cX7_byteAt 2 (some .int), Cond.fieldLink RX7 15 "ClayAccounts$Text" "bytes" "[B"]
def wsX11_join_r3 : List Cond := [Cond.methodLink RX0 34 yX7_put, Cond.instanceMethod yX7_put, Cond.selects RX7 yX7_put yX7_put, Cond.code yX7_put cX7_put 2 none, Cond.methodLink RX11 166 yX6_read, Cond.instanceMethod yX6_read, Cond.selects RX6 yX6_read yX6_read, Cond.initialized RX6, Cond.code yX6_read cX6_read 5 (some .boolean), Cond.fieldLink RX6 12 "ClayAccounts$TabletReader" "tokens" "LClayAccounts$Tokens;", Cond.fieldLink RX6 27 "ClayAccounts$TabletReader" "state" "I", Cond.fieldLink RX6 34 "ClayAccounts$Tokens" "kind" "I", Cond.fieldLink RX6 37 "ClayAccounts$Tablet" "lineCount" "I", Cond.methodLink RX6 18 yX5_clear, Cond.instanceMethod yX5_clear, Cond.selects RX5 yX5_clear yX5_clear, Cond.initialized RX5, Cond.code yX5_clear cX5_clear 1 none, Cond.fieldLink RX5 25 "ClayAccounts$Tablet" "lineCount" "I", Cond.fieldLink RX5 29 "ClayAccounts$Tablet" "holeCount" "I", Cond.fieldLink RX5 32 "ClayAccounts$Tablet" "isSolved" "Z", Cond.fieldLink RX5 36 "ClayAccounts$Tablet" "readingCount" "I", Cond.fieldLink RX5 39 "ClayAccounts$Tablet" "fewestWrong" "I", Cond.methodLink RX6 23 yX8_begin]
def wsX11_join_r4 : List Cond := [Cond.instanceMethod yX8_begin, Cond.selects RX8 yX8_begin yX8_begin, Cond.initialized RX8, Cond.code yX8_begin cX8_begin 4 none, Cond.fieldLink RX8 14 "ClayAccounts$Tokens" "text" "LClayAccounts$Text;", Cond.fieldLink RX8 20 "ClayAccounts$Tokens" "most" "I", Cond.fieldLink RX8 24 "ClayAccounts$Tokens" "withBroken" "Z", Cond.fieldLink RX8 28 "ClayAccounts$Tokens" "at" "I", Cond.fieldLink RX8 31 "ClayAccounts$Tokens" "fault" "I", Cond.fieldLink RX8 34 "ClayAccounts$Tokens" "faultPlace" "I", Cond.methodLink RX6 31 yX8_advance, Cond.instanceMethod yX8_advance, Cond.selects RX8 yX8_advance yX8_advance, Cond.code yX8_advance cX8_advance 3 none, Cond.fieldLink RX8 43 "ClayAccounts$Text" "size" "I", Cond.methodLink RX8 50 Lib.Math.min.name, Cond.static Lib.Math.min.name, Cond.initialized "java/lang/Math", Cond.code Lib.Math.min.name Lib.Math.min.code 2 (some .int), Cond.fieldLink RX8 37 "ClayAccounts$Tokens" "kind" "I", Cond.fieldLink RX8 40 "ClayAccounts$Tokens" "place" "I", Cond.methodLink RX8 56 yX7_byteAt, Cond.methodLink RX8 60 yX8_isBlank, Cond.static yX8_isBlank]
def wsX11_join_r5 : List Cond := [Cond.code yX8_isBlank cX8_isBlank 1 (some .boolean), Cond.methodLink RX8 64 yX8_isSmallLetter, Cond.static yX8_isSmallLetter, Cond.code yX8_isSmallLetter cX8_isSmallLetter 1 (some .boolean), Cond.methodLink RX8 67 yX8_takeName, Cond.instanceMethod yX8_takeName, Cond.selects RX8 yX8_takeName yX8_takeName, Cond.code yX8_takeName cX8_takeName 3 none, Cond.fieldLink RX8 85 "ClayAccounts$Tokens" "name" "J", Cond.methodLink RX8 89 yX8_kindOfName, Cond.instanceMethod yX8_kindOfName, Cond.selects RX8 yX8_kindOfName yX8_kindOfName, Cond.code yX8_kindOfName cX8_kindOfName 1 (some .int), Cond.constantLong RX8 93 (126965465245037), Cond.constantLong RX8 95 (500086104428), Cond.constantLong RX8 97 (444300619364), Cond.methodLink RX8 70 yX8_isDigit, Cond.instanceMethod yX8_isDigit, Cond.selects RX8 yX8_isDigit yX8_isDigit, Cond.code yX8_isDigit cX8_isDigit 2 (some .boolean), Cond.methodLink RX8 73 yX8_takeNumber, Cond.instanceMethod yX8_takeNumber, Cond.selects RX8 yX8_takeNumber yX8_takeNumber, Cond.code yX8_takeNumber cX8_takeNumber 3 none]
def wsX11_join_r6 : List Cond := [Cond.fieldLink RX8 79 "ClayAccounts$Tokens" "tens" "I", Cond.fieldLink RX8 82 "ClayAccounts$Tokens" "ones" "I", Cond.methodLink RX8 76 yX8_takeSign, Cond.instanceMethod yX8_takeSign, Cond.selects RX8 yX8_takeSign yX8_takeSign, Cond.code yX8_takeSign cX8_takeSign 2 none, Cond.methodLink RX6 40 yX8_endsWell, Cond.instanceMethod yX8_endsWell, Cond.selects RX8 yX8_endsWell yX8_endsWell, Cond.code yX8_endsWell cX8_endsWell 2 (some .boolean), Cond.methodLink RX8 46 yX8_refuse, Cond.instanceMethod yX8_refuse, Cond.selects RX8 yX8_refuse yX8_refuse, Cond.code yX8_refuse cX8_refuse 3 (some .boolean), Cond.methodLink RX6 44 yX6_takeToken, Cond.instanceMethod yX6_takeToken, Cond.selects RX6 yX6_takeToken yX6_takeToken, Cond.code yX6_takeToken cX6_takeToken 3 (some .boolean), Cond.methodLink RX6 48 yX6_beginLine, Cond.instanceMethod yX6_beginLine, Cond.selects RX6 yX6_beginLine yX6_beginLine, Cond.code yX6_beginLine cX6_beginLine 2 (some .boolean), Cond.fieldLink RX6 69 "ClayAccounts$TabletReader" "isLineTooMany" "Z", Cond.fieldLink RX6 73 "ClayAccounts$TabletReader" "unitAhead" "I"]
def wsX11_join_r7 : List Cond := [Cond.fieldLink RX6 76 "ClayAccounts$TabletReader" "lineKind" "I", Cond.fieldLink RX6 83 "ClayAccounts$Tokens" "place" "I", Cond.methodLink RX6 66 yX5_isFull, Cond.instanceMethod yX5_isFull, Cond.selects RX5 yX5_isFull yX5_isFull, Cond.code yX5_isFull cX5_isFull 1 (some .boolean), Cond.methodLink RX6 79 yX5_addLine, Cond.instanceMethod yX5_addLine, Cond.selects RX5 yX5_addLine yX5_addLine, Cond.code yX5_addLine cX5_addLine 2 none, Cond.fieldLink RX5 11 "ClayAccounts$Tablet" "lines" "[LClayAccounts$Line;", Cond.methodLink RX5 42 yX5_isFull, Cond.methodLink RX5 46 yX2_begin, Cond.instanceMethod yX2_begin, Cond.selects RX2 yX2_begin yX2_begin, Cond.initialized RX2, Cond.code yX2_begin cX2_begin 2 none, Cond.fieldLink RX2 9 "ClayAccounts$Line" "kind" "I", Cond.fieldLink RX2 15 "ClayAccounts$Line" "system" "I", Cond.fieldLink RX2 18 "ClayAccounts$Line" "holeCount" "I", Cond.fieldLink RX2 21 "ClayAccounts$Line" "value" "I", Cond.fieldLink RX2 24 "ClayAccounts$Line" "least" "I", Cond.fieldLink RX2 27 "ClayAccounts$Line" "greatest" "I", Cond.methodLink RX6 86 yX8_refuse]
def wsX11_join_r8 : List Cond := [Cond.methodLink RX6 52 yX6_takeCount, Cond.instanceMethod yX6_takeCount, Cond.selects RX6 yX6_takeCount yX6_takeCount, Cond.code yX6_takeCount cX6_takeCount 1 (some .boolean), Cond.fieldLink RX6 90 "ClayAccounts$TabletReader" "countPlace" "I", Cond.fieldLink RX6 93 "ClayAccounts$Tokens" "tens" "I", Cond.fieldLink RX6 96 "ClayAccounts$TabletReader" "tens" "I", Cond.fieldLink RX6 97 "ClayAccounts$Tokens" "ones" "I", Cond.fieldLink RX6 100 "ClayAccounts$TabletReader" "ones" "I", Cond.methodLink RX6 101 yX8_demand, Cond.instanceMethod yX8_demand, Cond.selects RX8 yX8_demand yX8_demand, Cond.code yX8_demand cX8_demand 2 (some .boolean), Cond.methodLink RX6 56 yX6_takeAmount, Cond.instanceMethod yX6_takeAmount, Cond.selects RX6 yX6_takeAmount yX6_takeAmount, Cond.code yX6_takeAmount cX6_takeAmount 4 (some .boolean), Cond.fieldLink RX6 104 "ClayAccounts$Tokens" "name" "J", Cond.fieldLink RX6 114 "ClayAccounts$Units" "mosts" "[I", Cond.fieldLink RX6 121 "ClayAccounts$Tablet" "holeCount" "I", Cond.methodLink RX6 108 yX9_find, Cond.instanceMethod yX9_find, Cond.selects RX9 yX9_find yX9_find, Cond.initialized RX9]
def wsX11_join_r9 : List Cond := [Cond.code yX9_find cX9_find 4 (some .int), Cond.fieldLink RX9 19 "ClayAccounts$Units" "names" "[J", Cond.methodLink RX6 118 yX6_canCountBe, Cond.instanceMethod yX6_canCountBe, Cond.selects RX6 yX6_canCountBe yX6_canCountBe, Cond.code yX6_canCountBe cX6_canCountBe 4 (some .boolean), Cond.methodLink RX6 124 yX6_brokenDigits, Cond.instanceMethod yX6_brokenDigits, Cond.selects RX6 yX6_brokenDigits yX6_brokenDigits, Cond.code yX6_brokenDigits cX6_brokenDigits 1 (some .int), Cond.methodLink RX6 128 yX6_isLesser, Cond.static yX6_isLesser, Cond.code yX6_isLesser cX6_isLesser 2 (some .boolean), Cond.methodLink RX6 135 yX9_systemOf, Cond.static yX9_systemOf, Cond.code yX9_systemOf cX9_systemOf 1 (some .int), Cond.methodLink RX6 131 yX6_addAmount, Cond.instanceMethod yX6_addAmount, Cond.selects RX6 yX6_addAmount yX6_addAmount, Cond.code yX6_addAmount cX6_addAmount 9 none, Cond.fieldLink RX6 139 "ClayAccounts$Units" "worths" "[I", Cond.methodLink RX6 142 yX5_addKnown, Cond.instanceMethod yX5_addKnown, Cond.selects RX5 yX5_addKnown yX5_addKnown]
def wsX11_join_r10 : List Cond := [Cond.code yX5_addKnown cX5_addKnown 4 none, Cond.fieldLink RX5 50 "ClayAccounts$Line" "system" "I", Cond.fieldLink RX5 53 "ClayAccounts$Line" "value" "I", Cond.methodLink RX6 146 yX5_addHole, Cond.instanceMethod yX5_addHole, Cond.selects RX5 yX5_addHole yX5_addHole, Cond.code yX5_addHole cX5_addHole 5 (some (.object "ClayAccounts$Hole")), Cond.fieldLink RX5 19 "ClayAccounts$Tablet" "holes" "[LClayAccounts$Hole;", Cond.fieldLink RX5 56 "ClayAccounts$Hole" "line" "I", Cond.fieldLink RX5 59 "ClayAccounts$Hole" "scale" "I", Cond.fieldLink RX5 62 "ClayAccounts$Hole" "weight" "I", Cond.fieldLink RX5 65 "ClayAccounts$Hole" "sureDigit" "I", Cond.fieldLink RX5 68 "ClayAccounts$Line" "holeCount" "I", Cond.methodLink RX6 150 yX1_limit, Cond.instanceMethod yX1_limit, Cond.selects RX1 yX1_limit yX1_limit, Cond.initialized RX1, Cond.code yX1_limit cX1_limit 4 none, Cond.fieldLink RX1 9 "ClayAccounts$Hole" "leastDigit" "I", Cond.fieldLink RX1 15 "ClayAccounts$Hole" "room" "I", Cond.fieldLink RX1 18 "ClayAccounts$Hole" "isBehindHole" "Z", Cond.methodLink RX6 59 yX6_takeNameOrEnd, Cond.instanceMethod yX6_takeNameOrEnd, Cond.selects RX6 yX6_takeNameOrEnd yX6_takeNameOrEnd]
def wsX11_join_r11 : List Cond := [Cond.code yX6_takeNameOrEnd cX6_takeNameOrEnd 2 (some .boolean), Cond.methodLink RX6 63 yX6_endLine, Cond.instanceMethod yX6_endLine, Cond.selects RX6 yX6_endLine yX6_endLine, Cond.code yX6_endLine cX6_endLine 1 (some .boolean), Cond.methodLink RX11 268 yX4_solve, Cond.instanceMethod yX4_solve, Cond.selects RX4 yX4_solve yX4_solve, Cond.initialized RX4, Cond.code yX4_solve cX4_solve 4 none, Cond.fieldLink RX4 29 "ClayAccounts$Solver" "oneIsEnough" "Z", Cond.fieldLink RX4 33 "ClayAccounts$Solver" "sumCount" "I", Cond.fieldLink RX4 37 "ClayAccounts$Tablet" "lineCount" "I", Cond.fieldLink RX4 42 "ClayAccounts$Tablet" "lines" "[LClayAccounts$Line;", Cond.fieldLink RX4 46 "ClayAccounts$Line" "kind" "I", Cond.methodLink RX4 51 yX4_weigh, Cond.instanceMethod yX4_weigh, Cond.selects RX4 yX4_weigh yX4_weigh, Cond.code yX4_weigh cX4_weigh 7 none, Cond.fieldLink RX4 11 "ClayAccounts$Solver" "off" "[[J", Cond.fieldLink RX4 16 "ClayAccounts$Solver" "slopes" "[[J", Cond.fieldLink RX4 74 "ClayAccounts$Line" "system" "I", Cond.methodLink RX4 70 yX4_addPart, Cond.instanceMethod yX4_addPart]
def wsX11_join_r12 : List Cond := [Cond.selects RX4 yX4_addPart yX4_addPart, Cond.code yX4_addPart cX4_addPart 6 none, Cond.fieldLink RX4 77 "ClayAccounts$Line" "value" "I", Cond.fieldLink RX4 80 "ClayAccounts$Tablet" "holeCount" "I", Cond.fieldLink RX4 83 "ClayAccounts$Tablet" "holes" "[LClayAccounts$Hole;", Cond.fieldLink RX4 87 "ClayAccounts$Hole" "line" "I", Cond.fieldLink RX4 92 "ClayAccounts$Hole" "weight" "I", Cond.methodLink RX4 55 yX4_measure, Cond.instanceMethod yX4_measure, Cond.selects RX4 yX4_measure yX4_measure, Cond.code yX4_measure cX4_measure 5 none, Cond.fieldLink RX4 19 "ClayAccounts$Solver" "downs" "[[J", Cond.fieldLink RX4 22 "ClayAccounts$Solver" "ups" "[[J", Cond.constantLong RX4 95 (9), Cond.methodLink RX4 97 Lib.MathLoose.min_long.x, Cond.static Lib.MathLoose.min_long.x, Cond.code Lib.MathLoose.min_long.x Lib.MathLoose.min_long.code 4 (some .long), Cond.methodLink RX4 103 Lib.MathLoose.max_long.x, Cond.static Lib.MathLoose.max_long.x, Cond.code Lib.MathLoose.max_long.x Lib.MathLoose.max_long.code 4 (some .long), Cond.methodLink RX4 59 yX4_missedWith, Cond.instanceMethod yX4_missedWith, Cond.selects RX4 yX4_missedWith yX4_missedWith, Cond.code yX4_missedWith cX4_missedWith 6 (some .int)]
def wsX11_join_r13 : List Cond := [Cond.methodLink RX4 63 yX4_isWorthwhile, Cond.instanceMethod yX4_isWorthwhile, Cond.selects RX4 yX4_isWorthwhile yX4_isWorthwhile, Cond.code yX4_isWorthwhile cX4_isWorthwhile 3 (some .boolean), Cond.fieldLink RX4 106 "ClayAccounts$Tablet" "readingCount" "I", Cond.fieldLink RX4 109 "ClayAccounts$Tablet" "fewestWrong" "I", Cond.methodLink RX4 67 yX4_fill, Cond.instanceMethod yX4_fill, Cond.selects RX4 yX4_fill yX4_fill, Cond.code yX4_fill cX4_fill 8 none, Cond.methodLink RX4 112 Lib.Math.min.name, Cond.fieldLink RX4 119 "ClayAccounts$Hole" "isBehindHole" "Z", Cond.fieldLink RX4 122 "ClayAccounts$Hole" "room" "I", Cond.fieldLink RX4 25 "ClayAccounts$Solver" "digits" "[I", Cond.fieldLink RX4 125 "ClayAccounts$Hole" "leastDigit" "I", Cond.fieldLink RX4 128 "ClayAccounts$Hole" "scale" "I", Cond.methodLink RX4 115 yX4_noteReading, Cond.instanceMethod yX4_noteReading, Cond.selects RX4 yX4_noteReading yX4_noteReading, Cond.code yX4_noteReading cX4_noteReading 6 none, Cond.methodLink RX4 131 yX1_noteDigit, Cond.instanceMethod yX1_noteDigit, Cond.selects RX1 yX1_noteDigit yX1_noteDigit, Cond.code yX1_noteDigit cX1_noteDigit 2 none]
def wsX11_join_r14 : List Cond := [Cond.fieldLink RX1 22 "ClayAccounts$Hole" "sureDigit" "I", Cond.methodLink RX4 134 yX2_noteValue, Cond.instanceMethod yX2_noteValue, Cond.selects RX2 yX2_noteValue yX2_noteValue, Cond.code yX2_noteValue cX2_noteValue 2 none, Cond.methodLink RX2 30 Lib.Math.min.name, Cond.methodLink RX2 36 Lib.Math.max.name, Cond.static Lib.Math.max.name, Cond.code Lib.Math.max.name Lib.Math.max.code 2 (some .int)]
def wsX11_join : List Cond := .code yX11_join cX11_join 3 (some .int) :: ((wsX11_join_r1 ++ (wsX11_join_r2 ++ (wsX11_join_r3 ++ (wsX11_join_r4 ++ (wsX11_join_r5 ++ (wsX11_join_r6 ++ (wsX11_join_r7 ++ (wsX11_join_r8 ++ (wsX11_join_r9 ++ (wsX11_join_r10 ++ (wsX11_join_r11 ++ (wsX11_join_r12 ++ (wsX11_join_r13 ++ wsX11_join_r14))))))))))))) ++ wsX110 ++ wsX50 ++ wsX00 ++ wsX70 ++ wsX60 ++ wsX80 ++ wsX20 ++ wsX90 ++ wsX10 ++ wsX40)
def wsX11_match_r1 : List Cond := [Cond.fieldLink RX11 94 "ClayAccounts" "fragmentCount" "I", Cond.fieldLink RX11 48 "ClayAccounts" "matcher" "LClayAccounts$Matcher;", Cond.methodLink RX11 242 Lib.Math.max.name, Cond.static Lib.Math.max.name, Cond.initialized "java/lang/Math", Cond.code Lib.Math.max.name Lib.Math.max.code 2 (some .int), Cond.fieldLink RX11 254 "ClayAccounts$Matcher" "pairCount" "I", Cond.methodLink RX11 239 yX11_joined, Cond.instanceMethod yX11_joined, Cond.selects RX11 yX11_joined yX11_joined, Cond.initialized RX11, Cond.code yX11_joined cX11_joined 5 (some .int), Cond.fieldLink RX11 69 "ClayAccounts" "joins" "[I", Cond.fieldLink RX11 65 "ClayAccounts" "fragments" "[LClayAccounts$Fragment;", Cond.fieldLink RX11 21 "ClayAccounts" "said" "LClayAccounts$Text;", Cond.fieldLink RX11 34 "ClayAccounts" "tabletReader" "LClayAccounts$TabletReader;", Cond.fieldLink RX11 76 "ClayAccounts" "units" "LClayAccounts$Units;", Cond.fieldLink RX11 59 "ClayAccounts" "joinedTablet" "LClayAccounts$Tablet;", Cond.fieldLink RX11 41 "ClayAccounts" "solver" "LClayAccounts$Solver;", Cond.fieldLink RX11 203 "ClayAccounts$Tablet" "readingCount" "I", Cond.methodLink RX11 272 yX0_goesLeftOf, Cond.instanceMethod yX0_goesLeftOf, Cond.selects RX0 yX0_goesLeftOf yX0_goesLeftOf, Cond.initialized RX0]
def wsX11_match_r2 : List Cond := [Cond.code yX0_goesLeftOf cX0_goesLeftOf 2 (some .boolean), Cond.fieldLink RX0 40 "ClayAccounts$Fragment" "right" "I", Cond.fieldLink RX0 37 "ClayAccounts$Fragment" "left" "I", Cond.constant RX0 43 (99999999), Cond.fieldLink RX0 23 "ClayAccounts$Fragment" "rowCount" "I", Cond.methodLink RX11 276 yX0_sayWith, Cond.instanceMethod yX0_sayWith, Cond.selects RX0 yX0_sayWith yX0_sayWith, Cond.code yX0_sayWith cX0_sayWith 6 none, Cond.methodLink RX0 20 yX7_clear, Cond.instanceMethod yX7_clear, Cond.selects RX7 yX7_clear yX7_clear, Cond.initialized RX7, Cond.code yX7_clear cX7_clear 1 none, Cond.fieldLink RX7 21 "ClayAccounts$Text" "size" "I", Cond.methodLink RX0 44 yX0_sayRow, Cond.instanceMethod yX0_sayRow, Cond.selects RX0 yX0_sayRow yX0_sayRow, Cond.code yX0_sayRow cX0_sayRow 4 (some .int), Cond.fieldLink RX0 14 "ClayAccounts$Fragment" "text" "LClayAccounts$Text;", Cond.fieldLink RX0 27 "ClayAccounts$Text" "size" "I", Cond.methodLink RX0 30 yX7_byteAt, Cond.instanceMethod yX7_byteAt, Cond.selects RX7 yX7_byteAt yX7_byteAt]
def wsX11_match_r3 : List Cond := [Cond.code yX7_byteAt cX7_byteAt 2 (some .int), Cond.fieldLink RX7 15 "ClayAccounts$Text" "bytes" "[B", Cond.methodLink RX0 34 yX7_put, Cond.instanceMethod yX7_put, Cond.selects RX7 yX7_put yX7_put, Cond.code yX7_put cX7_put 2 none, Cond.methodLink RX11 166 yX6_read, Cond.instanceMethod yX6_read, Cond.selects RX6 yX6_read yX6_read, Cond.initialized RX6, Cond.code yX6_read cX6_read 5 (some .boolean), Cond.fieldLink RX6 12 "ClayAccounts$TabletReader" "tokens" "LClayAccounts$Tokens;", Cond.fieldLink RX6 27 "ClayAccounts$TabletReader" "state" "I", Cond.fieldLink RX6 34 "ClayAccounts$Tokens" "kind" "I", Cond.fieldLink RX6 37 "ClayAccounts$Tablet" "lineCount" "I", Cond.methodLink RX6 18 yX5_clear, Cond.instanceMethod yX5_clear, Cond.selects RX5 yX5_clear yX5_clear, Cond.initialized RX5, Cond.code yX5_clear cX5_clear 1 none, Cond.fieldLink RX5 25 "ClayAccounts$Tablet" "lineCount" "I", Cond.fieldLink RX5 29 "ClayAccounts$Tablet" "holeCount" "I", Cond.fieldLink RX5 32 "ClayAccounts$Tablet" "isSolved" "Z", Cond.fieldLink RX5 36 "ClayAccounts$Tablet" "readingCount" "I"]
def wsX11_match_r4 : List Cond := [Cond.fieldLink RX5 39 "ClayAccounts$Tablet" "fewestWrong" "I", Cond.methodLink RX6 23 yX8_begin, Cond.instanceMethod yX8_begin, Cond.selects RX8 yX8_begin yX8_begin, Cond.initialized RX8, Cond.code yX8_begin cX8_begin 4 none, Cond.fieldLink RX8 14 "ClayAccounts$Tokens" "text" "LClayAccounts$Text;", Cond.fieldLink RX8 20 "ClayAccounts$Tokens" "most" "I", Cond.fieldLink RX8 24 "ClayAccounts$Tokens" "withBroken" "Z", Cond.fieldLink RX8 28 "ClayAccounts$Tokens" "at" "I", Cond.fieldLink RX8 31 "ClayAccounts$Tokens" "fault" "I", Cond.fieldLink RX8 34 "ClayAccounts$Tokens" "faultPlace" "I", Cond.methodLink RX6 31 yX8_advance, Cond.instanceMethod yX8_advance, Cond.selects RX8 yX8_advance yX8_advance, Cond.code yX8_advance cX8_advance 3 none, Cond.fieldLink RX8 43 "ClayAccounts$Text" "size" "I", Cond.methodLink RX8 50 Lib.Math.min.name, Cond.static Lib.Math.min.name, Cond.code Lib.Math.min.name Lib.Math.min.code 2 (some .int), Cond.fieldLink RX8 37 "ClayAccounts$Tokens" "kind" "I", Cond.fieldLink RX8 40 "ClayAccounts$Tokens" "place" "I", Cond.methodLink RX8 56 yX7_byteAt, Cond.methodLink RX8 60 yX8_isBlank]
def wsX11_match_r5 : List Cond := [Cond.static yX8_isBlank, Cond.code yX8_isBlank cX8_isBlank 1 (some .boolean), Cond.methodLink RX8 64 yX8_isSmallLetter, Cond.static yX8_isSmallLetter, Cond.code yX8_isSmallLetter cX8_isSmallLetter 1 (some .boolean), Cond.methodLink RX8 67 yX8_takeName, Cond.instanceMethod yX8_takeName, Cond.selects RX8 yX8_takeName yX8_takeName, Cond.code yX8_takeName cX8_takeName 3 none, Cond.fieldLink RX8 85 "ClayAccounts$Tokens" "name" "J", Cond.methodLink RX8 89 yX8_kindOfName, Cond.instanceMethod yX8_kindOfName, Cond.selects RX8 yX8_kindOfName yX8_kindOfName, Cond.code yX8_kindOfName cX8_kindOfName 1 (some .int), Cond.constantLong RX8 93 (126965465245037), Cond.constantLong RX8 95 (500086104428), Cond.constantLong RX8 97 (444300619364), Cond.methodLink RX8 70 yX8_isDigit, Cond.instanceMethod yX8_isDigit, Cond.selects RX8 yX8_isDigit yX8_isDigit, Cond.code yX8_isDigit cX8_isDigit 2 (some .boolean), Cond.methodLink RX8 73 yX8_takeNumber, Cond.instanceMethod yX8_takeNumber, Cond.selects RX8 yX8_takeNumber yX8_takeNumber]
def wsX11_match_r6 : List Cond := [Cond.code yX8_takeNumber cX8_takeNumber 3 none, Cond.fieldLink RX8 79 "ClayAccounts$Tokens" "tens" "I", Cond.fieldLink RX8 82 "ClayAccounts$Tokens" "ones" "I", Cond.methodLink RX8 76 yX8_takeSign, Cond.instanceMethod yX8_takeSign, Cond.selects RX8 yX8_takeSign yX8_takeSign, Cond.code yX8_takeSign cX8_takeSign 2 none, Cond.methodLink RX6 40 yX8_endsWell, Cond.instanceMethod yX8_endsWell, Cond.selects RX8 yX8_endsWell yX8_endsWell, Cond.code yX8_endsWell cX8_endsWell 2 (some .boolean), Cond.methodLink RX8 46 yX8_refuse, Cond.instanceMethod yX8_refuse, Cond.selects RX8 yX8_refuse yX8_refuse, Cond.code yX8_refuse cX8_refuse 3 (some .boolean), Cond.methodLink RX6 44 yX6_takeToken, Cond.instanceMethod yX6_takeToken, Cond.selects RX6 yX6_takeToken yX6_takeToken, Cond.code yX6_takeToken cX6_takeToken 3 (some .boolean), Cond.methodLink RX6 48 yX6_beginLine, Cond.instanceMethod yX6_beginLine, Cond.selects RX6 yX6_beginLine yX6_beginLine, Cond.code yX6_beginLine cX6_beginLine 2 (some .boolean), Cond.fieldLink RX6 69 "ClayAccounts$TabletReader" "isLineTooMany" "Z"]
def wsX11_match_r7 : List Cond := [Cond.fieldLink RX6 73 "ClayAccounts$TabletReader" "unitAhead" "I", Cond.fieldLink RX6 76 "ClayAccounts$TabletReader" "lineKind" "I", Cond.fieldLink RX6 83 "ClayAccounts$Tokens" "place" "I", Cond.methodLink RX6 66 yX5_isFull, Cond.instanceMethod yX5_isFull, Cond.selects RX5 yX5_isFull yX5_isFull, Cond.code yX5_isFull cX5_isFull 1 (some .boolean), Cond.methodLink RX6 79 yX5_addLine, Cond.instanceMethod yX5_addLine, Cond.selects RX5 yX5_addLine yX5_addLine, Cond.code yX5_addLine cX5_addLine 2 none, Cond.fieldLink RX5 11 "ClayAccounts$Tablet" "lines" "[LClayAccounts$Line;", Cond.methodLink RX5 42 yX5_isFull, Cond.methodLink RX5 46 yX2_begin, Cond.instanceMethod yX2_begin, Cond.selects RX2 yX2_begin yX2_begin, Cond.initialized RX2, Cond.code yX2_begin cX2_begin 2 none, Cond.fieldLink RX2 9 "ClayAccounts$Line" "kind" "I", Cond.fieldLink RX2 15 "ClayAccounts$Line" "system" "I", Cond.fieldLink RX2 18 "ClayAccounts$Line" "holeCount" "I", Cond.fieldLink RX2 21 "ClayAccounts$Line" "value" "I", Cond.fieldLink RX2 24 "ClayAccounts$Line" "least" "I", Cond.fieldLink RX2 27 "ClayAccounts$Line" "greatest" "I"]
def wsX11_match_r8 : List Cond := [Cond.methodLink RX6 86 yX8_refuse, Cond.methodLink RX6 52 yX6_takeCount, Cond.instanceMethod yX6_takeCount, Cond.selects RX6 yX6_takeCount yX6_takeCount, Cond.code yX6_takeCount cX6_takeCount 1 (some .boolean), Cond.fieldLink RX6 90 "ClayAccounts$TabletReader" "countPlace" "I", Cond.fieldLink RX6 93 "ClayAccounts$Tokens" "tens" "I", Cond.fieldLink RX6 96 "ClayAccounts$TabletReader" "tens" "I", Cond.fieldLink RX6 97 "ClayAccounts$Tokens" "ones" "I", Cond.fieldLink RX6 100 "ClayAccounts$TabletReader" "ones" "I", Cond.methodLink RX6 101 yX8_demand, Cond.instanceMethod yX8_demand, Cond.selects RX8 yX8_demand yX8_demand, Cond.code yX8_demand cX8_demand 2 (some .boolean), Cond.methodLink RX6 56 yX6_takeAmount, Cond.instanceMethod yX6_takeAmount, Cond.selects RX6 yX6_takeAmount yX6_takeAmount, Cond.code yX6_takeAmount cX6_takeAmount 4 (some .boolean), Cond.fieldLink RX6 104 "ClayAccounts$Tokens" "name" "J", Cond.fieldLink RX6 114 "ClayAccounts$Units" "mosts" "[I", Cond.fieldLink RX6 121 "ClayAccounts$Tablet" "holeCount" "I", Cond.methodLink RX6 108 yX9_find, Cond.instanceMethod yX9_find, Cond.selects RX9 yX9_find yX9_find]
def wsX11_match_r9 : List Cond := [Cond.initialized RX9, Cond.code yX9_find cX9_find 4 (some .int), Cond.fieldLink RX9 19 "ClayAccounts$Units" "names" "[J", Cond.methodLink RX6 118 yX6_canCountBe, Cond.instanceMethod yX6_canCountBe, Cond.selects RX6 yX6_canCountBe yX6_canCountBe, Cond.code yX6_canCountBe cX6_canCountBe 4 (some .boolean), Cond.methodLink RX6 124 yX6_brokenDigits, Cond.instanceMethod yX6_brokenDigits, Cond.selects RX6 yX6_brokenDigits yX6_brokenDigits, Cond.code yX6_brokenDigits cX6_brokenDigits 1 (some .int), Cond.methodLink RX6 128 yX6_isLesser, Cond.static yX6_isLesser, Cond.code yX6_isLesser cX6_isLesser 2 (some .boolean), Cond.methodLink RX6 135 yX9_systemOf, Cond.static yX9_systemOf, Cond.code yX9_systemOf cX9_systemOf 1 (some .int), Cond.methodLink RX6 131 yX6_addAmount, Cond.instanceMethod yX6_addAmount, Cond.selects RX6 yX6_addAmount yX6_addAmount, Cond.code yX6_addAmount cX6_addAmount 9 none, Cond.fieldLink RX6 139 "ClayAccounts$Units" "worths" "[I", Cond.methodLink RX6 142 yX5_addKnown, Cond.instanceMethod yX5_addKnown]
def wsX11_match_r10 : List Cond := [Cond.selects RX5 yX5_addKnown yX5_addKnown, Cond.code yX5_addKnown cX5_addKnown 4 none, Cond.fieldLink RX5 50 "ClayAccounts$Line" "system" "I", Cond.fieldLink RX5 53 "ClayAccounts$Line" "value" "I", Cond.methodLink RX6 146 yX5_addHole, Cond.instanceMethod yX5_addHole, Cond.selects RX5 yX5_addHole yX5_addHole, Cond.code yX5_addHole cX5_addHole 5 (some (.object "ClayAccounts$Hole")), Cond.fieldLink RX5 19 "ClayAccounts$Tablet" "holes" "[LClayAccounts$Hole;", Cond.fieldLink RX5 56 "ClayAccounts$Hole" "line" "I", Cond.fieldLink RX5 59 "ClayAccounts$Hole" "scale" "I", Cond.fieldLink RX5 62 "ClayAccounts$Hole" "weight" "I", Cond.fieldLink RX5 65 "ClayAccounts$Hole" "sureDigit" "I", Cond.fieldLink RX5 68 "ClayAccounts$Line" "holeCount" "I", Cond.methodLink RX6 150 yX1_limit, Cond.instanceMethod yX1_limit, Cond.selects RX1 yX1_limit yX1_limit, Cond.initialized RX1, Cond.code yX1_limit cX1_limit 4 none, Cond.fieldLink RX1 9 "ClayAccounts$Hole" "leastDigit" "I", Cond.fieldLink RX1 15 "ClayAccounts$Hole" "room" "I", Cond.fieldLink RX1 18 "ClayAccounts$Hole" "isBehindHole" "Z", Cond.methodLink RX6 59 yX6_takeNameOrEnd, Cond.instanceMethod yX6_takeNameOrEnd]
def wsX11_match_r11 : List Cond := [Cond.selects RX6 yX6_takeNameOrEnd yX6_takeNameOrEnd, Cond.code yX6_takeNameOrEnd cX6_takeNameOrEnd 2 (some .boolean), Cond.methodLink RX6 63 yX6_endLine, Cond.instanceMethod yX6_endLine, Cond.selects RX6 yX6_endLine yX6_endLine, Cond.code yX6_endLine cX6_endLine 1 (some .boolean), Cond.methodLink RX11 268 yX4_solve, Cond.instanceMethod yX4_solve, Cond.selects RX4 yX4_solve yX4_solve, Cond.initialized RX4, Cond.code yX4_solve cX4_solve 4 none, Cond.fieldLink RX4 29 "ClayAccounts$Solver" "oneIsEnough" "Z", Cond.fieldLink RX4 33 "ClayAccounts$Solver" "sumCount" "I", Cond.fieldLink RX4 37 "ClayAccounts$Tablet" "lineCount" "I", Cond.fieldLink RX4 42 "ClayAccounts$Tablet" "lines" "[LClayAccounts$Line;", Cond.fieldLink RX4 46 "ClayAccounts$Line" "kind" "I", Cond.methodLink RX4 51 yX4_weigh, Cond.instanceMethod yX4_weigh, Cond.selects RX4 yX4_weigh yX4_weigh, Cond.code yX4_weigh cX4_weigh 7 none, Cond.fieldLink RX4 11 "ClayAccounts$Solver" "off" "[[J", Cond.fieldLink RX4 16 "ClayAccounts$Solver" "slopes" "[[J", Cond.fieldLink RX4 74 "ClayAccounts$Line" "system" "I", Cond.methodLink RX4 70 yX4_addPart]
def wsX11_match_r12 : List Cond := [Cond.instanceMethod yX4_addPart, Cond.selects RX4 yX4_addPart yX4_addPart, Cond.code yX4_addPart cX4_addPart 6 none, Cond.fieldLink RX4 77 "ClayAccounts$Line" "value" "I", Cond.fieldLink RX4 80 "ClayAccounts$Tablet" "holeCount" "I", Cond.fieldLink RX4 83 "ClayAccounts$Tablet" "holes" "[LClayAccounts$Hole;", Cond.fieldLink RX4 87 "ClayAccounts$Hole" "line" "I", Cond.fieldLink RX4 92 "ClayAccounts$Hole" "weight" "I", Cond.methodLink RX4 55 yX4_measure, Cond.instanceMethod yX4_measure, Cond.selects RX4 yX4_measure yX4_measure, Cond.code yX4_measure cX4_measure 5 none, Cond.fieldLink RX4 19 "ClayAccounts$Solver" "downs" "[[J", Cond.fieldLink RX4 22 "ClayAccounts$Solver" "ups" "[[J", Cond.constantLong RX4 95 (9), Cond.methodLink RX4 97 Lib.MathLoose.min_long.x, Cond.static Lib.MathLoose.min_long.x, Cond.code Lib.MathLoose.min_long.x Lib.MathLoose.min_long.code 4 (some .long), Cond.methodLink RX4 103 Lib.MathLoose.max_long.x, Cond.static Lib.MathLoose.max_long.x, Cond.code Lib.MathLoose.max_long.x Lib.MathLoose.max_long.code 4 (some .long), Cond.methodLink RX4 59 yX4_missedWith, Cond.instanceMethod yX4_missedWith, Cond.selects RX4 yX4_missedWith yX4_missedWith]
def wsX11_match_r13 : List Cond := [Cond.code yX4_missedWith cX4_missedWith 6 (some .int), Cond.methodLink RX4 63 yX4_isWorthwhile, Cond.instanceMethod yX4_isWorthwhile, Cond.selects RX4 yX4_isWorthwhile yX4_isWorthwhile, Cond.code yX4_isWorthwhile cX4_isWorthwhile 3 (some .boolean), Cond.fieldLink RX4 106 "ClayAccounts$Tablet" "readingCount" "I", Cond.fieldLink RX4 109 "ClayAccounts$Tablet" "fewestWrong" "I", Cond.methodLink RX4 67 yX4_fill, Cond.instanceMethod yX4_fill, Cond.selects RX4 yX4_fill yX4_fill, Cond.code yX4_fill cX4_fill 8 none, Cond.methodLink RX4 112 Lib.Math.min.name, Cond.fieldLink RX4 119 "ClayAccounts$Hole" "isBehindHole" "Z", Cond.fieldLink RX4 122 "ClayAccounts$Hole" "room" "I", Cond.fieldLink RX4 25 "ClayAccounts$Solver" "digits" "[I", Cond.fieldLink RX4 125 "ClayAccounts$Hole" "leastDigit" "I", Cond.fieldLink RX4 128 "ClayAccounts$Hole" "scale" "I", Cond.methodLink RX4 115 yX4_noteReading, Cond.instanceMethod yX4_noteReading, Cond.selects RX4 yX4_noteReading yX4_noteReading, Cond.code yX4_noteReading cX4_noteReading 6 none, Cond.methodLink RX4 131 yX1_noteDigit, Cond.instanceMethod yX1_noteDigit, Cond.selects RX1 yX1_noteDigit yX1_noteDigit]
def wsX11_match_r14 : List Cond := [Cond.code yX1_noteDigit cX1_noteDigit 2 none, Cond.fieldLink RX1 22 "ClayAccounts$Hole" "sureDigit" "I", Cond.methodLink RX4 134 yX2_noteValue, Cond.instanceMethod yX2_noteValue, Cond.selects RX2 yX2_noteValue yX2_noteValue, Cond.code yX2_noteValue cX2_noteValue 2 none, Cond.methodLink RX2 30 Lib.Math.min.name, Cond.methodLink RX2 36 Lib.Math.max.name, Cond.methodLink RX11 247 yX3_tell, Cond.instanceMethod yX3_tell, Cond.selects RX3 yX3_tell yX3_tell, Cond.initialized RX3, Cond.code yX3_tell cX3_tell 5 none, Cond.fieldLink RX3 15 "ClayAccounts$Matcher" "weights" "[I", Cond.methodLink RX11 251 yX3_pairUp, Cond.instanceMethod yX3_pairUp, Cond.selects RX3 yX3_pairUp yX3_pairUp, Cond.code yX3_pairUp cX3_pairUp 6 none, Cond.methodLink RX3 37 Lib.Math.min.name, Cond.fieldLink RX3 18 "ClayAccounts$Matcher" "best" "[I", Cond.methodLink RX3 34 yX3_forget, Cond.instanceMethod yX3_forget, Cond.selects RX3 yX3_forget yX3_forget, Cond.code yX3_forget cX3_forget 1 none]
def wsX11_match_r15 : List Cond := [Cond.fieldLink RX3 9 "ClayAccounts$Matcher" "partners" "[I", Cond.fieldLink RX3 27 "ClayAccounts$Matcher" "pairCount" "I", Cond.fieldLink RX3 31 "ClayAccounts$Matcher" "sureCount" "I", Cond.methodLink RX3 21 yJ7_fill_53178, Cond.static yJ7_fill_53178, Cond.initialized RJ7, Cond.code yJ7_fill_53178 cJ7_fill_53178 4 none, Cond.methodLink RX3 43 yX3_bestOf, Cond.instanceMethod yX3_bestOf, Cond.selects RX3 yX3_bestOf yX3_bestOf, Cond.code yX3_bestOf cX3_bestOf 8 (some .int), Cond.methodLink RX3 50 Lib.Math.max.name, Cond.methodLink RX3 47 yX3_pairOff, Cond.instanceMethod yX3_pairOff, Cond.selects RX3 yX3_pairOff yX3_pairOff, Cond.code yX3_pairOff cX3_pairOff 8 (some .int)]
def wsX11_match : List Cond := .code yX11_match cX11_match 3 (some .int) :: ((wsX11_match_r1 ++ (wsX11_match_r2 ++ (wsX11_match_r3 ++ (wsX11_match_r4 ++ (wsX11_match_r5 ++ (wsX11_match_r6 ++ (wsX11_match_r7 ++ (wsX11_match_r8 ++ (wsX11_match_r9 ++ (wsX11_match_r10 ++ (wsX11_match_r11 ++ (wsX11_match_r12 ++ (wsX11_match_r13 ++ (wsX11_match_r14 ++ wsX11_match_r15)))))))))))))) ++ wsX110 ++ wsX30 ++ wsX50 ++ wsX00 ++ wsX70 ++ wsX60 ++ wsX80 ++ wsX20 ++ wsX90 ++ wsX10 ++ wsX40)
def wsX11_matched : List Cond := .code yX11_matched cX11_matched 2 (some .int) :: ([.fieldLink RX11 48 "ClayAccounts" "matcher" "LClayAccounts$Matcher;", .fieldLink RX11 257 "ClayAccounts$Matcher" "partners" "[I", .methodLink RX11 233 yX11_isFragment, .instanceMethod yX11_isFragment, .selects RX11 yX11_isFragment yX11_isFragment, .initialized RX11, .code yX11_isFragment cX11_isFragment 2 (some .boolean), .fieldLink RX11 94 "ClayAccounts" "fragmentCount" "I"] ++ wsX110 ++ wsX30)
def wsX11_count : List Cond := .code yX11_count cX11_count 2 (some .int) :: ([.fieldLink RX11 76 "ClayAccounts" "units" "LClayAccounts$Units;", .fieldLink RX11 128 "ClayAccounts$Units" "systemCount" "I", .fieldLink RX11 90 "ClayAccounts" "tabletCount" "I", .fieldLink RX11 94 "ClayAccounts" "fragmentCount" "I", .fieldLink RX11 48 "ClayAccounts" "matcher" "LClayAccounts$Matcher;", .fieldLink RX11 260 "ClayAccounts$Matcher" "sureCount" "I", .fieldLink RX11 14 "ClayAccounts" "tape" "LClayAccounts$Text;", .fieldLink RX11 100 "ClayAccounts$Text" "size" "I", .fieldLink RX11 18 "ClayAccounts" "out" "LClayAccounts$Text;"] ++ wsX110 ++ wsX90 ++ wsX30 ++ wsX70)
def wsX12_init_r1 : List Cond := [Cond.methodLink RX12 1 objectInit, Cond.instanceMethod objectInit, Cond.code objectInit ⟨#[0xb1]⟩ 1 none, Cond.arrayClass .int, Cond.fieldLink RX12 7 "ClayAccountsModel" "tape" "[I", Cond.fieldLink RX12 13 "ClayAccountsModel" "text" "[I", Cond.arrayClass .long, Cond.fieldLink RX12 16 "ClayAccountsModel" "systemName" "[J", Cond.fieldLink RX12 20 "ClayAccountsModel" "unitName" "[J", Cond.fieldLink RX12 23 "ClayAccountsModel" "units" "[I", Cond.fieldLink RX12 26 "ClayAccountsModel" "factor" "[I", Cond.fieldLink RX12 29 "ClayAccountsModel" "out" "[I", Cond.fieldLink RX12 32 "ClayAccountsModel" "lineMany" "[I", Cond.fieldLink RX12 35 "ClayAccountsModel" "lineKind" "[I", Cond.fieldLink RX12 38 "ClayAccountsModel" "lineSystem" "[I", Cond.fieldLink RX12 41 "ClayAccountsModel" "amounts" "[I", Cond.fieldLink RX12 44 "ClayAccountsModel" "asked" "[I", Cond.fieldLink RX12 47 "ClayAccountsModel" "digit1" "[I", Cond.fieldLink RX12 50 "ClayAccountsModel" "digit2" "[I", Cond.fieldLink RX12 53 "ClayAccountsModel" "unitOf" "[I", Cond.fieldLink RX12 56 "ClayAccountsModel" "filled" "[I", Cond.fieldLink RX12 59 "ClayAccountsModel" "value" "[J", Cond.fieldLink RX12 62 "ClayAccountsModel" "letters" "[I", Cond.fieldLink RX12 65 "ClayAccountsModel" "fragmentLong" "[I"]
def wsX12_init_r2 : List Cond := [Cond.fieldLink RX12 68 "ClayAccountsModel" "leftEdge" "[I", Cond.fieldLink RX12 71 "ClayAccountsModel" "rightEdge" "[I", Cond.fieldLink RX12 74 "ClayAccountsModel" "rowMany" "[I", Cond.fieldLink RX12 77 "ClayAccountsModel" "pair" "[I", Cond.fieldLink RX12 80 "ClayAccountsModel" "best" "[I", Cond.fieldLink RX12 83 "ClayAccountsModel" "mate" "[I"]
def wsX12_init : List Cond := .code yX12_init cX12_init 1 none :: ((wsX12_init_r1 ++ wsX12_init_r2) ++ wsX120)
def wsX12_thrown : List Cond := .code yX12_thrown cX12_thrown 1 (some .int) :: ([.fieldLink RX12 86 "ClayAccountsModel" "thrown" "I"] ++ wsX120)
def wsX12_refuse : List Cond := .code yX12_refuse cX12_refuse 1 (some .int) :: ([.fieldLink RX12 86 "ClayAccountsModel" "thrown" "I"] ++ wsX120)
def wsX12_come : List Cond := .code yX12_come cX12_come 3 none :: ([.fieldLink RX12 7 "ClayAccountsModel" "tape" "[I", .fieldLink RX12 90 "ClayAccountsModel" "taped" "I"] ++ wsX120)
def wsX12_feed : List Cond := .code yX12_feed cX12_feed 6 (some .int) :: ([.fieldLink RX12 86 "ClayAccountsModel" "thrown" "I", .fieldLink RX12 90 "ClayAccountsModel" "taped" "I", .methodLink RX12 93 yX12_come, .instanceMethod yX12_come, .selects RX12 yX12_come yX12_come, .initialized RX12, .code yX12_come cX12_come 3 none, .fieldLink RX12 7 "ClayAccountsModel" "tape" "[I"] ++ wsX120)
def wsX12_end : List Cond := .code yX12_end cX12_end 2 (some .boolean) :: ([.fieldLink RX12 86 "ClayAccountsModel" "thrown" "I", .fieldLink RX12 90 "ClayAccountsModel" "taped" "I"] ++ wsX120)
def wsX12_at : List Cond := .code yX12_at cX12_at 2 (some .int) :: ([.fieldLink RX12 97 "ClayAccountsModel" "size" "I", .fieldLink RX12 13 "ClayAccountsModel" "text" "[I"] ++ wsX120)
def wsX12_isDigit : List Cond := .code yX12_isDigit cX12_isDigit 1 (some .boolean) :: ([])
def wsX12_isLetter : List Cond := .code yX12_isLetter cX12_isLetter 1 (some .boolean) :: ([])
def wsX12_isCount : List Cond := .code yX12_isCount cX12_isCount 2 (some .boolean) :: ([.fieldLink RX12 104 "ClayAccountsModel" "broken" "Z", .methodLink RX12 100 yX12_isDigit, .static yX12_isDigit, .initialized RX12, .code yX12_isDigit cX12_isDigit 1 (some .boolean)] ++ wsX120)
def wsX12_digitOf : List Cond := .code yX12_digitOf cX12_digitOf 1 (some .int) :: ([])
def wsX12_go_r1 : List Cond := [Cond.fieldLink RX12 108 "ClayAccountsModel" "to" "I", Cond.fieldLink RX12 97 "ClayAccountsModel" "size" "I", Cond.fieldLink RX12 13 "ClayAccountsModel" "text" "[I", Cond.fieldLink RX12 111 "ClayAccountsModel" "from" "I", Cond.fieldLink RX12 114 "ClayAccountsModel" "most" "I", Cond.fieldLink RX12 117 "ClayAccountsModel" "kind" "I", Cond.fieldLink RX12 126 "ClayAccountsModel" "sign" "I", Cond.fieldLink RX12 129 "ClayAccountsModel" "name" "J", Cond.constantLong RX12 137 (27), Cond.constantLong RX12 139 (96), Cond.fieldLink RX12 144 "ClayAccountsModel" "first" "I", Cond.fieldLink RX12 147 "ClayAccountsModel" "second" "I", Cond.methodLink RX12 120 yX12_isLetter, Cond.static yX12_isLetter, Cond.initialized RX12, Cond.code yX12_isLetter cX12_isLetter 1 (some .boolean), Cond.methodLink RX12 123 yX12_isCount, Cond.instanceMethod yX12_isCount, Cond.selects RX12 yX12_isCount yX12_isCount, Cond.code yX12_isCount cX12_isCount 2 (some .boolean), Cond.fieldLink RX12 104 "ClayAccountsModel" "broken" "Z", Cond.methodLink RX12 100 yX12_isDigit, Cond.static yX12_isDigit, Cond.code yX12_isDigit cX12_isDigit 1 (some .boolean)]
def wsX12_go_r2 : List Cond := [Cond.methodLink RX12 133 yX12_at, Cond.instanceMethod yX12_at, Cond.selects RX12 yX12_at yX12_at, Cond.code yX12_at cX12_at 2 (some .int), Cond.methodLink RX12 141 yX12_digitOf, Cond.static yX12_digitOf, Cond.code yX12_digitOf cX12_digitOf 1 (some .int)]
def wsX12_go : List Cond := .code yX12_go cX12_go 5 none :: ((wsX12_go_r1 ++ wsX12_go_r2) ++ wsX120)
def wsX12_bad : List Cond := .code yX12_bad cX12_bad 2 (some .boolean) :: ([.fieldLink RX12 117 "ClayAccountsModel" "kind" "I", .fieldLink RX12 150 "ClayAccountsModel" "fault" "I", .fieldLink RX12 111 "ClayAccountsModel" "from" "I", .fieldLink RX12 153 "ClayAccountsModel" "place" "I"] ++ wsX120)
def wsX12_badAt : List Cond := .code yX12_badAt cX12_badAt 3 (some .boolean) :: ([.fieldLink RX12 150 "ClayAccountsModel" "fault" "I", .fieldLink RX12 153 "ClayAccountsModel" "place" "I"] ++ wsX120)
def wsX12_isKey : List Cond := .code yX12_isKey cX12_isKey 3 (some .boolean) :: ([.fieldLink RX12 117 "ClayAccountsModel" "kind" "I", .fieldLink RX12 129 "ClayAccountsModel" "name" "J"] ++ wsX120)
def wsX12_isFree : List Cond := .code yX12_isFree cX12_isFree 1 (some .boolean) :: ([.fieldLink RX12 117 "ClayAccountsModel" "kind" "I", .fieldLink RX12 129 "ClayAccountsModel" "name" "J", .fieldLink RX12 156 "ClayAccountsModel" "SYSTEM_NAME" "J", .fieldLink RX12 159 "ClayAccountsModel" "TOTAL_NAME" "J", .fieldLink RX12 162 "ClayAccountsModel" "GRAND_NAME" "J"] ++ wsX120)
def wsX12_isSign : List Cond := .code yX12_isSign cX12_isSign 2 (some .boolean) :: ([.fieldLink RX12 117 "ClayAccountsModel" "kind" "I", .fieldLink RX12 126 "ClayAccountsModel" "sign" "I"] ++ wsX120)
def wsX12_begins_r1 : List Cond := [Cond.fieldLink RX12 114 "ClayAccountsModel" "most" "I", Cond.fieldLink RX12 104 "ClayAccountsModel" "broken" "Z", Cond.fieldLink RX12 108 "ClayAccountsModel" "to" "I", Cond.methodLink RX12 169 yX12_go, Cond.instanceMethod yX12_go, Cond.selects RX12 yX12_go yX12_go, Cond.initialized RX12, Cond.code yX12_go cX12_go 5 none, Cond.fieldLink RX12 97 "ClayAccountsModel" "size" "I", Cond.fieldLink RX12 13 "ClayAccountsModel" "text" "[I", Cond.fieldLink RX12 111 "ClayAccountsModel" "from" "I", Cond.fieldLink RX12 117 "ClayAccountsModel" "kind" "I", Cond.fieldLink RX12 126 "ClayAccountsModel" "sign" "I", Cond.fieldLink RX12 129 "ClayAccountsModel" "name" "J", Cond.constantLong RX12 137 (27), Cond.constantLong RX12 139 (96), Cond.fieldLink RX12 144 "ClayAccountsModel" "first" "I", Cond.fieldLink RX12 147 "ClayAccountsModel" "second" "I", Cond.methodLink RX12 120 yX12_isLetter, Cond.static yX12_isLetter, Cond.code yX12_isLetter cX12_isLetter 1 (some .boolean), Cond.methodLink RX12 123 yX12_isCount, Cond.instanceMethod yX12_isCount, Cond.selects RX12 yX12_isCount yX12_isCount]
def wsX12_begins_r2 : List Cond := [Cond.code yX12_isCount cX12_isCount 2 (some .boolean), Cond.methodLink RX12 100 yX12_isDigit, Cond.static yX12_isDigit, Cond.code yX12_isDigit cX12_isDigit 1 (some .boolean), Cond.methodLink RX12 133 yX12_at, Cond.instanceMethod yX12_at, Cond.selects RX12 yX12_at yX12_at, Cond.code yX12_at cX12_at 2 (some .int), Cond.methodLink RX12 141 yX12_digitOf, Cond.static yX12_digitOf, Cond.code yX12_digitOf cX12_digitOf 1 (some .int)]
def wsX12_begins : List Cond := .code yX12_begins cX12_begins 3 none :: ((wsX12_begins_r1 ++ wsX12_begins_r2) ++ wsX120)
def wsX12_takes_r1 : List Cond := [Cond.fieldLink RX12 90 "ClayAccountsModel" "taped" "I", Cond.fieldLink RX12 97 "ClayAccountsModel" "size" "I", Cond.fieldLink RX12 13 "ClayAccountsModel" "text" "[I", Cond.fieldLink RX12 7 "ClayAccountsModel" "tape" "[I", Cond.methodLink RX12 165 yX12_begins, Cond.instanceMethod yX12_begins, Cond.selects RX12 yX12_begins yX12_begins, Cond.initialized RX12, Cond.code yX12_begins cX12_begins 3 none, Cond.fieldLink RX12 114 "ClayAccountsModel" "most" "I", Cond.fieldLink RX12 104 "ClayAccountsModel" "broken" "Z", Cond.fieldLink RX12 108 "ClayAccountsModel" "to" "I", Cond.methodLink RX12 169 yX12_go, Cond.instanceMethod yX12_go, Cond.selects RX12 yX12_go yX12_go, Cond.code yX12_go cX12_go 5 none, Cond.fieldLink RX12 111 "ClayAccountsModel" "from" "I", Cond.fieldLink RX12 117 "ClayAccountsModel" "kind" "I", Cond.fieldLink RX12 126 "ClayAccountsModel" "sign" "I", Cond.fieldLink RX12 129 "ClayAccountsModel" "name" "J", Cond.constantLong RX12 137 (27), Cond.constantLong RX12 139 (96), Cond.fieldLink RX12 144 "ClayAccountsModel" "first" "I", Cond.fieldLink RX12 147 "ClayAccountsModel" "second" "I"]
def wsX12_takes_r2 : List Cond := [Cond.methodLink RX12 120 yX12_isLetter, Cond.static yX12_isLetter, Cond.code yX12_isLetter cX12_isLetter 1 (some .boolean), Cond.methodLink RX12 123 yX12_isCount, Cond.instanceMethod yX12_isCount, Cond.selects RX12 yX12_isCount yX12_isCount, Cond.code yX12_isCount cX12_isCount 2 (some .boolean), Cond.methodLink RX12 100 yX12_isDigit, Cond.static yX12_isDigit, Cond.code yX12_isDigit cX12_isDigit 1 (some .boolean), Cond.methodLink RX12 133 yX12_at, Cond.instanceMethod yX12_at, Cond.selects RX12 yX12_at yX12_at, Cond.code yX12_at cX12_at 2 (some .int), Cond.methodLink RX12 141 yX12_digitOf, Cond.static yX12_digitOf, Cond.code yX12_digitOf cX12_digitOf 1 (some .int)]
def wsX12_takes : List Cond := .code yX12_takes cX12_takes 4 none :: ((wsX12_takes_r1 ++ wsX12_takes_r2) ++ wsX120)
def wsX12_isTaken : List Cond := .code yX12_isTaken cX12_isTaken 4 (some .boolean) :: ([.fieldLink RX12 16 "ClayAccountsModel" "systemName" "[J", .fieldLink RX12 129 "ClayAccountsModel" "name" "J", .fieldLink RX12 23 "ClayAccountsModel" "units" "[I", .fieldLink RX12 20 "ClayAccountsModel" "unitName" "[J"] ++ wsX120)
def wsX12_readUnit_r1 : List Cond := [Cond.fieldLink RX12 20 "ClayAccountsModel" "unitName" "[J", Cond.fieldLink RX12 23 "ClayAccountsModel" "units" "[I", Cond.fieldLink RX12 129 "ClayAccountsModel" "name" "J", Cond.methodLink RX12 172 yX12_isFree, Cond.instanceMethod yX12_isFree, Cond.selects RX12 yX12_isFree yX12_isFree, Cond.initialized RX12, Cond.code yX12_isFree cX12_isFree 1 (some .boolean), Cond.fieldLink RX12 117 "ClayAccountsModel" "kind" "I", Cond.fieldLink RX12 156 "ClayAccountsModel" "SYSTEM_NAME" "J", Cond.fieldLink RX12 159 "ClayAccountsModel" "TOTAL_NAME" "J", Cond.fieldLink RX12 162 "ClayAccountsModel" "GRAND_NAME" "J", Cond.methodLink RX12 176 yX12_bad, Cond.instanceMethod yX12_bad, Cond.selects RX12 yX12_bad yX12_bad, Cond.code yX12_bad cX12_bad 2 (some .boolean), Cond.fieldLink RX12 150 "ClayAccountsModel" "fault" "I", Cond.fieldLink RX12 111 "ClayAccountsModel" "from" "I", Cond.fieldLink RX12 153 "ClayAccountsModel" "place" "I", Cond.methodLink RX12 179 yX12_isTaken, Cond.instanceMethod yX12_isTaken, Cond.selects RX12 yX12_isTaken yX12_isTaken, Cond.code yX12_isTaken cX12_isTaken 4 (some .boolean), Cond.fieldLink RX12 16 "ClayAccountsModel" "systemName" "[J"]
def wsX12_readUnit_r2 : List Cond := [Cond.methodLink RX12 169 yX12_go, Cond.instanceMethod yX12_go, Cond.selects RX12 yX12_go yX12_go, Cond.code yX12_go cX12_go 5 none, Cond.fieldLink RX12 108 "ClayAccountsModel" "to" "I", Cond.fieldLink RX12 97 "ClayAccountsModel" "size" "I", Cond.fieldLink RX12 13 "ClayAccountsModel" "text" "[I", Cond.fieldLink RX12 114 "ClayAccountsModel" "most" "I", Cond.fieldLink RX12 126 "ClayAccountsModel" "sign" "I", Cond.constantLong RX12 137 (27), Cond.constantLong RX12 139 (96), Cond.fieldLink RX12 144 "ClayAccountsModel" "first" "I", Cond.fieldLink RX12 147 "ClayAccountsModel" "second" "I", Cond.methodLink RX12 120 yX12_isLetter, Cond.static yX12_isLetter, Cond.code yX12_isLetter cX12_isLetter 1 (some .boolean), Cond.methodLink RX12 123 yX12_isCount, Cond.instanceMethod yX12_isCount, Cond.selects RX12 yX12_isCount yX12_isCount, Cond.code yX12_isCount cX12_isCount 2 (some .boolean), Cond.fieldLink RX12 104 "ClayAccountsModel" "broken" "Z", Cond.methodLink RX12 100 yX12_isDigit, Cond.static yX12_isDigit, Cond.code yX12_isDigit cX12_isDigit 1 (some .boolean)]
def wsX12_readUnit_r3 : List Cond := [Cond.methodLink RX12 133 yX12_at, Cond.instanceMethod yX12_at, Cond.selects RX12 yX12_at yX12_at, Cond.code yX12_at cX12_at 2 (some .int), Cond.methodLink RX12 141 yX12_digitOf, Cond.static yX12_digitOf, Cond.code yX12_digitOf cX12_digitOf 1 (some .int)]
def wsX12_readUnit : List Cond := .code yX12_readUnit cX12_readUnit 3 (some .boolean) :: ((wsX12_readUnit_r1 ++ (wsX12_readUnit_r2 ++ wsX12_readUnit_r3)) ++ wsX120)
def wsX12_isFactor : List Cond := .code yX12_isFactor cX12_isFactor 2 (some .boolean) :: ([.fieldLink RX12 147 "ClayAccountsModel" "second" "I", .fieldLink RX12 144 "ClayAccountsModel" "first" "I"] ++ wsX120)
def wsX12_readSystem_r1 : List Cond := [Cond.fieldLink RX12 16 "ClayAccountsModel" "systemName" "[J", Cond.fieldLink RX12 23 "ClayAccountsModel" "units" "[I", Cond.fieldLink RX12 129 "ClayAccountsModel" "name" "J", Cond.fieldLink RX12 117 "ClayAccountsModel" "kind" "I", Cond.fieldLink RX12 26 "ClayAccountsModel" "factor" "[I", Cond.fieldLink RX12 147 "ClayAccountsModel" "second" "I", Cond.fieldLink RX12 144 "ClayAccountsModel" "first" "I", Cond.methodLink RX12 172 yX12_isFree, Cond.instanceMethod yX12_isFree, Cond.selects RX12 yX12_isFree yX12_isFree, Cond.initialized RX12, Cond.code yX12_isFree cX12_isFree 1 (some .boolean), Cond.fieldLink RX12 156 "ClayAccountsModel" "SYSTEM_NAME" "J", Cond.fieldLink RX12 159 "ClayAccountsModel" "TOTAL_NAME" "J", Cond.fieldLink RX12 162 "ClayAccountsModel" "GRAND_NAME" "J", Cond.methodLink RX12 176 yX12_bad, Cond.instanceMethod yX12_bad, Cond.selects RX12 yX12_bad yX12_bad, Cond.code yX12_bad cX12_bad 2 (some .boolean), Cond.fieldLink RX12 150 "ClayAccountsModel" "fault" "I", Cond.fieldLink RX12 111 "ClayAccountsModel" "from" "I", Cond.fieldLink RX12 153 "ClayAccountsModel" "place" "I", Cond.methodLink RX12 179 yX12_isTaken, Cond.instanceMethod yX12_isTaken]
def wsX12_readSystem_r2 : List Cond := [Cond.selects RX12 yX12_isTaken yX12_isTaken, Cond.code yX12_isTaken cX12_isTaken 4 (some .boolean), Cond.fieldLink RX12 20 "ClayAccountsModel" "unitName" "[J", Cond.methodLink RX12 169 yX12_go, Cond.instanceMethod yX12_go, Cond.selects RX12 yX12_go yX12_go, Cond.code yX12_go cX12_go 5 none, Cond.fieldLink RX12 108 "ClayAccountsModel" "to" "I", Cond.fieldLink RX12 97 "ClayAccountsModel" "size" "I", Cond.fieldLink RX12 13 "ClayAccountsModel" "text" "[I", Cond.fieldLink RX12 114 "ClayAccountsModel" "most" "I", Cond.fieldLink RX12 126 "ClayAccountsModel" "sign" "I", Cond.constantLong RX12 137 (27), Cond.constantLong RX12 139 (96), Cond.methodLink RX12 120 yX12_isLetter, Cond.static yX12_isLetter, Cond.code yX12_isLetter cX12_isLetter 1 (some .boolean), Cond.methodLink RX12 123 yX12_isCount, Cond.instanceMethod yX12_isCount, Cond.selects RX12 yX12_isCount yX12_isCount, Cond.code yX12_isCount cX12_isCount 2 (some .boolean), Cond.fieldLink RX12 104 "ClayAccountsModel" "broken" "Z", Cond.methodLink RX12 100 yX12_isDigit, Cond.static yX12_isDigit]
def wsX12_readSystem_r3 : List Cond := [Cond.code yX12_isDigit cX12_isDigit 1 (some .boolean), Cond.methodLink RX12 133 yX12_at, Cond.instanceMethod yX12_at, Cond.selects RX12 yX12_at yX12_at, Cond.code yX12_at cX12_at 2 (some .int), Cond.methodLink RX12 141 yX12_digitOf, Cond.static yX12_digitOf, Cond.code yX12_digitOf cX12_digitOf 1 (some .int), Cond.methodLink RX12 182 yX12_isSign, Cond.instanceMethod yX12_isSign, Cond.selects RX12 yX12_isSign yX12_isSign, Cond.code yX12_isSign cX12_isSign 2 (some .boolean), Cond.methodLink RX12 185 yX12_readUnit, Cond.instanceMethod yX12_readUnit, Cond.selects RX12 yX12_readUnit yX12_readUnit, Cond.code yX12_readUnit cX12_readUnit 3 (some .boolean), Cond.methodLink RX12 188 yX12_isFactor, Cond.instanceMethod yX12_isFactor, Cond.selects RX12 yX12_isFactor yX12_isFactor, Cond.code yX12_isFactor cX12_isFactor 2 (some .boolean)]
def wsX12_readSystem : List Cond := .code yX12_readSystem cX12_readSystem 3 (some .boolean) :: ((wsX12_readSystem_r1 ++ (wsX12_readSystem_r2 ++ wsX12_readSystem_r3)) ++ wsX120)
def wsX12_forget : List Cond := .code yX12_forget cX12_forget 1 none :: ([.fieldLink RX12 307 "ClayAccountsModel" "made" "Z", .fieldLink RX12 310 "ClayAccountsModel" "sure" "I"] ++ wsX120)
def wsX12_systems_r1 : List Cond := [Cond.fieldLink RX12 86 "ClayAccountsModel" "thrown" "I", Cond.fieldLink RX12 150 "ClayAccountsModel" "fault" "I", Cond.fieldLink RX12 156 "ClayAccountsModel" "SYSTEM_NAME" "J", Cond.fieldLink RX12 153 "ClayAccountsModel" "place" "I", Cond.fieldLink RX12 117 "ClayAccountsModel" "kind" "I", Cond.fieldLink RX12 201 "ClayAccountsModel" "systems" "I", Cond.fieldLink RX12 23 "ClayAccountsModel" "units" "[I", Cond.fieldLink RX12 20 "ClayAccountsModel" "unitName" "[J", Cond.fieldLink RX12 26 "ClayAccountsModel" "factor" "[I", Cond.fieldLink RX12 204 "ClayAccountsModel" "tablets" "I", Cond.methodLink RX12 191 yX12_takes, Cond.instanceMethod yX12_takes, Cond.selects RX12 yX12_takes yX12_takes, Cond.initialized RX12, Cond.code yX12_takes cX12_takes 4 none, Cond.fieldLink RX12 90 "ClayAccountsModel" "taped" "I", Cond.fieldLink RX12 97 "ClayAccountsModel" "size" "I", Cond.fieldLink RX12 13 "ClayAccountsModel" "text" "[I", Cond.fieldLink RX12 7 "ClayAccountsModel" "tape" "[I", Cond.methodLink RX12 165 yX12_begins, Cond.instanceMethod yX12_begins, Cond.selects RX12 yX12_begins yX12_begins, Cond.code yX12_begins cX12_begins 3 none, Cond.fieldLink RX12 114 "ClayAccountsModel" "most" "I"]
def wsX12_systems_r2 : List Cond := [Cond.fieldLink RX12 104 "ClayAccountsModel" "broken" "Z", Cond.fieldLink RX12 108 "ClayAccountsModel" "to" "I", Cond.methodLink RX12 169 yX12_go, Cond.instanceMethod yX12_go, Cond.selects RX12 yX12_go yX12_go, Cond.code yX12_go cX12_go 5 none, Cond.fieldLink RX12 111 "ClayAccountsModel" "from" "I", Cond.fieldLink RX12 126 "ClayAccountsModel" "sign" "I", Cond.fieldLink RX12 129 "ClayAccountsModel" "name" "J", Cond.constantLong RX12 137 (27), Cond.constantLong RX12 139 (96), Cond.fieldLink RX12 144 "ClayAccountsModel" "first" "I", Cond.fieldLink RX12 147 "ClayAccountsModel" "second" "I", Cond.methodLink RX12 120 yX12_isLetter, Cond.static yX12_isLetter, Cond.code yX12_isLetter cX12_isLetter 1 (some .boolean), Cond.methodLink RX12 123 yX12_isCount, Cond.instanceMethod yX12_isCount, Cond.selects RX12 yX12_isCount yX12_isCount, Cond.code yX12_isCount cX12_isCount 2 (some .boolean), Cond.methodLink RX12 100 yX12_isDigit, Cond.static yX12_isDigit, Cond.code yX12_isDigit cX12_isDigit 1 (some .boolean), Cond.methodLink RX12 133 yX12_at]
def wsX12_systems_r3 : List Cond := [Cond.instanceMethod yX12_at, Cond.selects RX12 yX12_at yX12_at, Cond.code yX12_at cX12_at 2 (some .int), Cond.methodLink RX12 141 yX12_digitOf, Cond.static yX12_digitOf, Cond.code yX12_digitOf cX12_digitOf 1 (some .int), Cond.methodLink RX12 194 yX12_isKey, Cond.instanceMethod yX12_isKey, Cond.selects RX12 yX12_isKey yX12_isKey, Cond.code yX12_isKey cX12_isKey 3 (some .boolean), Cond.methodLink RX12 176 yX12_bad, Cond.instanceMethod yX12_bad, Cond.selects RX12 yX12_bad yX12_bad, Cond.code yX12_bad cX12_bad 2 (some .boolean), Cond.methodLink RX12 198 yX12_readSystem, Cond.instanceMethod yX12_readSystem, Cond.selects RX12 yX12_readSystem yX12_readSystem, Cond.code yX12_readSystem cX12_readSystem 3 (some .boolean), Cond.fieldLink RX12 16 "ClayAccountsModel" "systemName" "[J", Cond.methodLink RX12 172 yX12_isFree, Cond.instanceMethod yX12_isFree, Cond.selects RX12 yX12_isFree yX12_isFree, Cond.code yX12_isFree cX12_isFree 1 (some .boolean), Cond.fieldLink RX12 159 "ClayAccountsModel" "TOTAL_NAME" "J"]
def wsX12_systems_r4 : List Cond := [Cond.fieldLink RX12 162 "ClayAccountsModel" "GRAND_NAME" "J", Cond.methodLink RX12 179 yX12_isTaken, Cond.instanceMethod yX12_isTaken, Cond.selects RX12 yX12_isTaken yX12_isTaken, Cond.code yX12_isTaken cX12_isTaken 4 (some .boolean), Cond.methodLink RX12 182 yX12_isSign, Cond.instanceMethod yX12_isSign, Cond.selects RX12 yX12_isSign yX12_isSign, Cond.code yX12_isSign cX12_isSign 2 (some .boolean), Cond.methodLink RX12 185 yX12_readUnit, Cond.instanceMethod yX12_readUnit, Cond.selects RX12 yX12_readUnit yX12_readUnit, Cond.code yX12_readUnit cX12_readUnit 3 (some .boolean), Cond.methodLink RX12 188 yX12_isFactor, Cond.instanceMethod yX12_isFactor, Cond.selects RX12 yX12_isFactor yX12_isFactor, Cond.code yX12_isFactor cX12_isFactor 2 (some .boolean), Cond.methodLink RX12 207 yX12_forget, Cond.instanceMethod yX12_forget, Cond.selects RX12 yX12_forget yX12_forget, Cond.code yX12_forget cX12_forget 1 none, Cond.fieldLink RX12 307 "ClayAccountsModel" "made" "Z", Cond.fieldLink RX12 310 "ClayAccountsModel" "sure" "I"]
def wsX12_systems : List Cond := .code yX12_systems cX12_systems 4 (some .int) :: ((wsX12_systems_r1 ++ (wsX12_systems_r2 ++ (wsX12_systems_r3 ++ wsX12_systems_r4))) ++ wsX120)
def wsX12_fault : List Cond := .code yX12_fault cX12_fault 1 (some .int) :: ([.fieldLink RX12 86 "ClayAccountsModel" "thrown" "I", .fieldLink RX12 150 "ClayAccountsModel" "fault" "I"] ++ wsX120)
def wsX12_system : List Cond := .code yX12_system cX12_system 3 (some .int) :: ([.fieldLink RX12 201 "ClayAccountsModel" "systems" "I", .fieldLink RX12 86 "ClayAccountsModel" "thrown" "I", .fieldLink RX12 23 "ClayAccountsModel" "units" "[I", .fieldLink RX12 26 "ClayAccountsModel" "factor" "[I", .methodLink RX12 210 yX12_refuse, .instanceMethod yX12_refuse, .selects RX12 yX12_refuse yX12_refuse, .initialized RX12, .code yX12_refuse cX12_refuse 1 (some .int)] ++ wsX120)
def wsX12_worth : List Cond := .code yX12_worth cX12_worth 5 (some .int) :: ([.fieldLink RX12 26 "ClayAccountsModel" "factor" "[I"] ++ wsX120)
def wsX12_outByte : List Cond := .code yX12_outByte cX12_outByte 2 none :: ([.fieldLink RX12 29 "ClayAccountsModel" "out" "[I", .fieldLink RX12 214 "ClayAccountsModel" "outs" "I"] ++ wsX120)
def wsX12_outName : List Cond := .code yX12_outName cX12_outName 5 none :: ([.constantLong RX12 137 (27), .methodLink RX12 217 yX12_outByte, .instanceMethod yX12_outByte, .selects RX12 yX12_outByte yX12_outByte, .initialized RX12, .code yX12_outByte cX12_outByte 2 none, .fieldLink RX12 29 "ClayAccountsModel" "out" "[I", .fieldLink RX12 214 "ClayAccountsModel" "outs" "I"] ++ wsX120)
def wsX12_write : List Cond := .code yX12_write cX12_write 6 (some .int) :: ([.fieldLink RX12 86 "ClayAccountsModel" "thrown" "I", .fieldLink RX12 201 "ClayAccountsModel" "systems" "I", .fieldLink RX12 23 "ClayAccountsModel" "units" "[I", .fieldLink RX12 214 "ClayAccountsModel" "outs" "I", .fieldLink RX12 20 "ClayAccountsModel" "unitName" "[J", .methodLink RX12 220 yX12_worth, .instanceMethod yX12_worth, .selects RX12 yX12_worth yX12_worth, .initialized RX12, .code yX12_worth cX12_worth 5 (some .int), .fieldLink RX12 26 "ClayAccountsModel" "factor" "[I", .methodLink RX12 217 yX12_outByte, .instanceMethod yX12_outByte, .selects RX12 yX12_outByte yX12_outByte, .code yX12_outByte cX12_outByte 2 none, .fieldLink RX12 29 "ClayAccountsModel" "out" "[I", .methodLink RX12 224 yX12_outName, .instanceMethod yX12_outName, .selects RX12 yX12_outName yX12_outName, .code yX12_outName cX12_outName 5 none, .constantLong RX12 137 (27)] ++ wsX120)
def wsX12_octet : List Cond := .code yX12_octet cX12_octet 2 (some .int) :: ([.fieldLink RX12 214 "ClayAccountsModel" "outs" "I", .fieldLink RX12 86 "ClayAccountsModel" "thrown" "I", .fieldLink RX12 29 "ClayAccountsModel" "out" "[I", .methodLink RX12 210 yX12_refuse, .instanceMethod yX12_refuse, .selects RX12 yX12_refuse yX12_refuse, .initialized RX12, .code yX12_refuse cX12_refuse 1 (some .int)] ++ wsX120)
def wsX12_isUnit : List Cond := .code yX12_isUnit cX12_isUnit 3 (some .boolean) :: ([.fieldLink RX12 201 "ClayAccountsModel" "systems" "I", .fieldLink RX12 23 "ClayAccountsModel" "units" "[I", .fieldLink RX12 117 "ClayAccountsModel" "kind" "I", .fieldLink RX12 20 "ClayAccountsModel" "unitName" "[J", .fieldLink RX12 129 "ClayAccountsModel" "name" "J", .fieldLink RX12 228 "ClayAccountsModel" "unitSystem" "I", .fieldLink RX12 231 "ClayAccountsModel" "unitNumber" "I"] ++ wsX120)
def wsX12_mostOf : List Cond := .code yX12_mostOf cX12_mostOf 3 (some .int) :: ([.fieldLink RX12 23 "ClayAccountsModel" "units" "[I", .fieldLink RX12 26 "ClayAccountsModel" "factor" "[I"] ++ wsX120)
def wsX12_isGood : List Cond := .code yX12_isGood cX12_isGood 5 (some .boolean) :: ([])
def wsX12_canBe : List Cond := .code yX12_canBe cX12_canBe 6 (some .boolean) :: ([.methodLink RX12 234 yX12_isGood, .instanceMethod yX12_isGood, .selects RX12 yX12_isGood yX12_isGood, .initialized RX12, .code yX12_isGood cX12_isGood 5 (some .boolean)])
def wsX12_readAmount_r1 : List Cond := [Cond.fieldLink RX12 111 "ClayAccountsModel" "from" "I", Cond.fieldLink RX12 144 "ClayAccountsModel" "first" "I", Cond.fieldLink RX12 147 "ClayAccountsModel" "second" "I", Cond.fieldLink RX12 44 "ClayAccountsModel" "asked" "[I", Cond.fieldLink RX12 117 "ClayAccountsModel" "kind" "I", Cond.fieldLink RX12 228 "ClayAccountsModel" "unitSystem" "I", Cond.fieldLink RX12 231 "ClayAccountsModel" "unitNumber" "I", Cond.fieldLink RX12 41 "ClayAccountsModel" "amounts" "[I", Cond.fieldLink RX12 38 "ClayAccountsModel" "lineSystem" "[I", Cond.fieldLink RX12 53 "ClayAccountsModel" "unitOf" "[I", Cond.fieldLink RX12 47 "ClayAccountsModel" "digit1" "[I", Cond.fieldLink RX12 50 "ClayAccountsModel" "digit2" "[I", Cond.methodLink RX12 238 yX12_canBe, Cond.instanceMethod yX12_canBe, Cond.selects RX12 yX12_canBe yX12_canBe, Cond.initialized RX12, Cond.code yX12_canBe cX12_canBe 6 (some .boolean), Cond.methodLink RX12 234 yX12_isGood, Cond.instanceMethod yX12_isGood, Cond.selects RX12 yX12_isGood yX12_isGood, Cond.code yX12_isGood cX12_isGood 5 (some .boolean), Cond.methodLink RX12 176 yX12_bad, Cond.instanceMethod yX12_bad, Cond.selects RX12 yX12_bad yX12_bad]
def wsX12_readAmount_r2 : List Cond := [Cond.code yX12_bad cX12_bad 2 (some .boolean), Cond.fieldLink RX12 150 "ClayAccountsModel" "fault" "I", Cond.fieldLink RX12 153 "ClayAccountsModel" "place" "I", Cond.methodLink RX12 169 yX12_go, Cond.instanceMethod yX12_go, Cond.selects RX12 yX12_go yX12_go, Cond.code yX12_go cX12_go 5 none, Cond.fieldLink RX12 108 "ClayAccountsModel" "to" "I", Cond.fieldLink RX12 97 "ClayAccountsModel" "size" "I", Cond.fieldLink RX12 13 "ClayAccountsModel" "text" "[I", Cond.fieldLink RX12 114 "ClayAccountsModel" "most" "I", Cond.fieldLink RX12 126 "ClayAccountsModel" "sign" "I", Cond.fieldLink RX12 129 "ClayAccountsModel" "name" "J", Cond.constantLong RX12 137 (27), Cond.constantLong RX12 139 (96), Cond.methodLink RX12 120 yX12_isLetter, Cond.static yX12_isLetter, Cond.code yX12_isLetter cX12_isLetter 1 (some .boolean), Cond.methodLink RX12 123 yX12_isCount, Cond.instanceMethod yX12_isCount, Cond.selects RX12 yX12_isCount yX12_isCount, Cond.code yX12_isCount cX12_isCount 2 (some .boolean), Cond.fieldLink RX12 104 "ClayAccountsModel" "broken" "Z", Cond.methodLink RX12 100 yX12_isDigit]
def wsX12_readAmount_r3 : List Cond := [Cond.static yX12_isDigit, Cond.code yX12_isDigit cX12_isDigit 1 (some .boolean), Cond.methodLink RX12 133 yX12_at, Cond.instanceMethod yX12_at, Cond.selects RX12 yX12_at yX12_at, Cond.code yX12_at cX12_at 2 (some .int), Cond.methodLink RX12 141 yX12_digitOf, Cond.static yX12_digitOf, Cond.code yX12_digitOf cX12_digitOf 1 (some .int), Cond.methodLink RX12 172 yX12_isFree, Cond.instanceMethod yX12_isFree, Cond.selects RX12 yX12_isFree yX12_isFree, Cond.code yX12_isFree cX12_isFree 1 (some .boolean), Cond.fieldLink RX12 156 "ClayAccountsModel" "SYSTEM_NAME" "J", Cond.fieldLink RX12 159 "ClayAccountsModel" "TOTAL_NAME" "J", Cond.fieldLink RX12 162 "ClayAccountsModel" "GRAND_NAME" "J", Cond.methodLink RX12 241 yX12_isUnit, Cond.instanceMethod yX12_isUnit, Cond.selects RX12 yX12_isUnit yX12_isUnit, Cond.code yX12_isUnit cX12_isUnit 3 (some .boolean), Cond.fieldLink RX12 201 "ClayAccountsModel" "systems" "I", Cond.fieldLink RX12 23 "ClayAccountsModel" "units" "[I", Cond.fieldLink RX12 20 "ClayAccountsModel" "unitName" "[J", Cond.methodLink RX12 244 yX12_mostOf]
def wsX12_readAmount_r4 : List Cond := [Cond.instanceMethod yX12_mostOf, Cond.selects RX12 yX12_mostOf yX12_mostOf, Cond.code yX12_mostOf cX12_mostOf 3 (some .int), Cond.fieldLink RX12 26 "ClayAccountsModel" "factor" "[I", Cond.methodLink RX12 247 yX12_badAt, Cond.instanceMethod yX12_badAt, Cond.selects RX12 yX12_badAt yX12_badAt, Cond.code yX12_badAt cX12_badAt 3 (some .boolean)]
def wsX12_readAmount : List Cond := .code yX12_readAmount cX12_readAmount 11 (some .boolean) :: ((wsX12_readAmount_r1 ++ (wsX12_readAmount_r2 ++ (wsX12_readAmount_r3 ++ wsX12_readAmount_r4))) ++ wsX120)
def wsX12_readTablet_r1 : List Cond := [Cond.fieldLink RX12 32 "ClayAccountsModel" "lineMany" "[I", Cond.fieldLink RX12 44 "ClayAccountsModel" "asked" "[I", Cond.fieldLink RX12 159 "ClayAccountsModel" "TOTAL_NAME" "J", Cond.fieldLink RX12 162 "ClayAccountsModel" "GRAND_NAME" "J", Cond.fieldLink RX12 117 "ClayAccountsModel" "kind" "I", Cond.fieldLink RX12 35 "ClayAccountsModel" "lineKind" "[I", Cond.fieldLink RX12 41 "ClayAccountsModel" "amounts" "[I", Cond.methodLink RX12 194 yX12_isKey, Cond.instanceMethod yX12_isKey, Cond.selects RX12 yX12_isKey yX12_isKey, Cond.initialized RX12, Cond.code yX12_isKey cX12_isKey 3 (some .boolean), Cond.fieldLink RX12 129 "ClayAccountsModel" "name" "J", Cond.methodLink RX12 176 yX12_bad, Cond.instanceMethod yX12_bad, Cond.selects RX12 yX12_bad yX12_bad, Cond.code yX12_bad cX12_bad 2 (some .boolean), Cond.fieldLink RX12 150 "ClayAccountsModel" "fault" "I", Cond.fieldLink RX12 111 "ClayAccountsModel" "from" "I", Cond.fieldLink RX12 153 "ClayAccountsModel" "place" "I", Cond.methodLink RX12 169 yX12_go, Cond.instanceMethod yX12_go, Cond.selects RX12 yX12_go yX12_go, Cond.code yX12_go cX12_go 5 none]
def wsX12_readTablet_r2 : List Cond := [Cond.fieldLink RX12 108 "ClayAccountsModel" "to" "I", Cond.fieldLink RX12 97 "ClayAccountsModel" "size" "I", Cond.fieldLink RX12 13 "ClayAccountsModel" "text" "[I", Cond.fieldLink RX12 114 "ClayAccountsModel" "most" "I", Cond.fieldLink RX12 126 "ClayAccountsModel" "sign" "I", Cond.constantLong RX12 137 (27), Cond.constantLong RX12 139 (96), Cond.fieldLink RX12 144 "ClayAccountsModel" "first" "I", Cond.fieldLink RX12 147 "ClayAccountsModel" "second" "I", Cond.methodLink RX12 120 yX12_isLetter, Cond.static yX12_isLetter, Cond.code yX12_isLetter cX12_isLetter 1 (some .boolean), Cond.methodLink RX12 123 yX12_isCount, Cond.instanceMethod yX12_isCount, Cond.selects RX12 yX12_isCount yX12_isCount, Cond.code yX12_isCount cX12_isCount 2 (some .boolean), Cond.fieldLink RX12 104 "ClayAccountsModel" "broken" "Z", Cond.methodLink RX12 100 yX12_isDigit, Cond.static yX12_isDigit, Cond.code yX12_isDigit cX12_isDigit 1 (some .boolean), Cond.methodLink RX12 133 yX12_at, Cond.instanceMethod yX12_at, Cond.selects RX12 yX12_at yX12_at, Cond.code yX12_at cX12_at 2 (some .int)]
def wsX12_readTablet_r3 : List Cond := [Cond.methodLink RX12 141 yX12_digitOf, Cond.static yX12_digitOf, Cond.code yX12_digitOf cX12_digitOf 1 (some .int), Cond.methodLink RX12 251 yX12_readAmount, Cond.instanceMethod yX12_readAmount, Cond.selects RX12 yX12_readAmount yX12_readAmount, Cond.code yX12_readAmount cX12_readAmount 11 (some .boolean), Cond.fieldLink RX12 228 "ClayAccountsModel" "unitSystem" "I", Cond.fieldLink RX12 231 "ClayAccountsModel" "unitNumber" "I", Cond.fieldLink RX12 38 "ClayAccountsModel" "lineSystem" "[I", Cond.fieldLink RX12 53 "ClayAccountsModel" "unitOf" "[I", Cond.fieldLink RX12 47 "ClayAccountsModel" "digit1" "[I", Cond.fieldLink RX12 50 "ClayAccountsModel" "digit2" "[I", Cond.methodLink RX12 238 yX12_canBe, Cond.instanceMethod yX12_canBe, Cond.selects RX12 yX12_canBe yX12_canBe, Cond.code yX12_canBe cX12_canBe 6 (some .boolean), Cond.methodLink RX12 234 yX12_isGood, Cond.instanceMethod yX12_isGood, Cond.selects RX12 yX12_isGood yX12_isGood, Cond.code yX12_isGood cX12_isGood 5 (some .boolean), Cond.methodLink RX12 172 yX12_isFree, Cond.instanceMethod yX12_isFree, Cond.selects RX12 yX12_isFree yX12_isFree]
def wsX12_readTablet_r4 : List Cond := [Cond.code yX12_isFree cX12_isFree 1 (some .boolean), Cond.fieldLink RX12 156 "ClayAccountsModel" "SYSTEM_NAME" "J", Cond.methodLink RX12 241 yX12_isUnit, Cond.instanceMethod yX12_isUnit, Cond.selects RX12 yX12_isUnit yX12_isUnit, Cond.code yX12_isUnit cX12_isUnit 3 (some .boolean), Cond.fieldLink RX12 201 "ClayAccountsModel" "systems" "I", Cond.fieldLink RX12 23 "ClayAccountsModel" "units" "[I", Cond.fieldLink RX12 20 "ClayAccountsModel" "unitName" "[J", Cond.methodLink RX12 244 yX12_mostOf, Cond.instanceMethod yX12_mostOf, Cond.selects RX12 yX12_mostOf yX12_mostOf, Cond.code yX12_mostOf cX12_mostOf 3 (some .int), Cond.fieldLink RX12 26 "ClayAccountsModel" "factor" "[I", Cond.methodLink RX12 247 yX12_badAt, Cond.instanceMethod yX12_badAt, Cond.selects RX12 yX12_badAt yX12_badAt, Cond.code yX12_badAt cX12_badAt 3 (some .boolean), Cond.methodLink RX12 182 yX12_isSign, Cond.instanceMethod yX12_isSign, Cond.selects RX12 yX12_isSign yX12_isSign, Cond.code yX12_isSign cX12_isSign 2 (some .boolean)]
def wsX12_readTablet : List Cond := .code yX12_readTablet cX12_readTablet 5 (some .boolean) :: ((wsX12_readTablet_r1 ++ (wsX12_readTablet_r2 ++ (wsX12_readTablet_r3 ++ wsX12_readTablet_r4))) ++ wsX120)
def wsX12_tablet_r1 : List Cond := [Cond.fieldLink RX12 86 "ClayAccountsModel" "thrown" "I", Cond.fieldLink RX12 204 "ClayAccountsModel" "tablets" "I", Cond.fieldLink RX12 201 "ClayAccountsModel" "systems" "I", Cond.fieldLink RX12 90 "ClayAccountsModel" "taped" "I", Cond.fieldLink RX12 150 "ClayAccountsModel" "fault" "I", Cond.fieldLink RX12 153 "ClayAccountsModel" "place" "I", Cond.methodLink RX12 191 yX12_takes, Cond.instanceMethod yX12_takes, Cond.selects RX12 yX12_takes yX12_takes, Cond.initialized RX12, Cond.code yX12_takes cX12_takes 4 none, Cond.fieldLink RX12 97 "ClayAccountsModel" "size" "I", Cond.fieldLink RX12 13 "ClayAccountsModel" "text" "[I", Cond.fieldLink RX12 7 "ClayAccountsModel" "tape" "[I", Cond.methodLink RX12 165 yX12_begins, Cond.instanceMethod yX12_begins, Cond.selects RX12 yX12_begins yX12_begins, Cond.code yX12_begins cX12_begins 3 none, Cond.fieldLink RX12 114 "ClayAccountsModel" "most" "I", Cond.fieldLink RX12 104 "ClayAccountsModel" "broken" "Z", Cond.fieldLink RX12 108 "ClayAccountsModel" "to" "I", Cond.methodLink RX12 169 yX12_go, Cond.instanceMethod yX12_go, Cond.selects RX12 yX12_go yX12_go]
def wsX12_tablet_r2 : List Cond := [Cond.code yX12_go cX12_go 5 none, Cond.fieldLink RX12 111 "ClayAccountsModel" "from" "I", Cond.fieldLink RX12 117 "ClayAccountsModel" "kind" "I", Cond.fieldLink RX12 126 "ClayAccountsModel" "sign" "I", Cond.fieldLink RX12 129 "ClayAccountsModel" "name" "J", Cond.constantLong RX12 137 (27), Cond.constantLong RX12 139 (96), Cond.fieldLink RX12 144 "ClayAccountsModel" "first" "I", Cond.fieldLink RX12 147 "ClayAccountsModel" "second" "I", Cond.methodLink RX12 120 yX12_isLetter, Cond.static yX12_isLetter, Cond.code yX12_isLetter cX12_isLetter 1 (some .boolean), Cond.methodLink RX12 123 yX12_isCount, Cond.instanceMethod yX12_isCount, Cond.selects RX12 yX12_isCount yX12_isCount, Cond.code yX12_isCount cX12_isCount 2 (some .boolean), Cond.methodLink RX12 100 yX12_isDigit, Cond.static yX12_isDigit, Cond.code yX12_isDigit cX12_isDigit 1 (some .boolean), Cond.methodLink RX12 133 yX12_at, Cond.instanceMethod yX12_at, Cond.selects RX12 yX12_at yX12_at, Cond.code yX12_at cX12_at 2 (some .int), Cond.methodLink RX12 141 yX12_digitOf]
def wsX12_tablet_r3 : List Cond := [Cond.static yX12_digitOf, Cond.code yX12_digitOf cX12_digitOf 1 (some .int), Cond.methodLink RX12 254 yX12_readTablet, Cond.instanceMethod yX12_readTablet, Cond.selects RX12 yX12_readTablet yX12_readTablet, Cond.code yX12_readTablet cX12_readTablet 5 (some .boolean), Cond.fieldLink RX12 32 "ClayAccountsModel" "lineMany" "[I", Cond.fieldLink RX12 44 "ClayAccountsModel" "asked" "[I", Cond.fieldLink RX12 159 "ClayAccountsModel" "TOTAL_NAME" "J", Cond.fieldLink RX12 162 "ClayAccountsModel" "GRAND_NAME" "J", Cond.fieldLink RX12 35 "ClayAccountsModel" "lineKind" "[I", Cond.fieldLink RX12 41 "ClayAccountsModel" "amounts" "[I", Cond.methodLink RX12 194 yX12_isKey, Cond.instanceMethod yX12_isKey, Cond.selects RX12 yX12_isKey yX12_isKey, Cond.code yX12_isKey cX12_isKey 3 (some .boolean), Cond.methodLink RX12 176 yX12_bad, Cond.instanceMethod yX12_bad, Cond.selects RX12 yX12_bad yX12_bad, Cond.code yX12_bad cX12_bad 2 (some .boolean), Cond.methodLink RX12 251 yX12_readAmount, Cond.instanceMethod yX12_readAmount, Cond.selects RX12 yX12_readAmount yX12_readAmount, Cond.code yX12_readAmount cX12_readAmount 11 (some .boolean)]
def wsX12_tablet_r4 : List Cond := [Cond.fieldLink RX12 228 "ClayAccountsModel" "unitSystem" "I", Cond.fieldLink RX12 231 "ClayAccountsModel" "unitNumber" "I", Cond.fieldLink RX12 38 "ClayAccountsModel" "lineSystem" "[I", Cond.fieldLink RX12 53 "ClayAccountsModel" "unitOf" "[I", Cond.fieldLink RX12 47 "ClayAccountsModel" "digit1" "[I", Cond.fieldLink RX12 50 "ClayAccountsModel" "digit2" "[I", Cond.methodLink RX12 238 yX12_canBe, Cond.instanceMethod yX12_canBe, Cond.selects RX12 yX12_canBe yX12_canBe, Cond.code yX12_canBe cX12_canBe 6 (some .boolean), Cond.methodLink RX12 234 yX12_isGood, Cond.instanceMethod yX12_isGood, Cond.selects RX12 yX12_isGood yX12_isGood, Cond.code yX12_isGood cX12_isGood 5 (some .boolean), Cond.methodLink RX12 172 yX12_isFree, Cond.instanceMethod yX12_isFree, Cond.selects RX12 yX12_isFree yX12_isFree, Cond.code yX12_isFree cX12_isFree 1 (some .boolean), Cond.fieldLink RX12 156 "ClayAccountsModel" "SYSTEM_NAME" "J", Cond.methodLink RX12 241 yX12_isUnit, Cond.instanceMethod yX12_isUnit, Cond.selects RX12 yX12_isUnit yX12_isUnit, Cond.code yX12_isUnit cX12_isUnit 3 (some .boolean), Cond.fieldLink RX12 23 "ClayAccountsModel" "units" "[I"]
def wsX12_tablet_r5 : List Cond := [Cond.fieldLink RX12 20 "ClayAccountsModel" "unitName" "[J", Cond.methodLink RX12 244 yX12_mostOf, Cond.instanceMethod yX12_mostOf, Cond.selects RX12 yX12_mostOf yX12_mostOf, Cond.code yX12_mostOf cX12_mostOf 3 (some .int), Cond.fieldLink RX12 26 "ClayAccountsModel" "factor" "[I", Cond.methodLink RX12 247 yX12_badAt, Cond.instanceMethod yX12_badAt, Cond.selects RX12 yX12_badAt yX12_badAt, Cond.code yX12_badAt cX12_badAt 3 (some .boolean), Cond.methodLink RX12 182 yX12_isSign, Cond.instanceMethod yX12_isSign, Cond.selects RX12 yX12_isSign yX12_isSign, Cond.code yX12_isSign cX12_isSign 2 (some .boolean)]
def wsX12_tablet : List Cond := .code yX12_tablet cX12_tablet 1 (some .int) :: ((wsX12_tablet_r1 ++ (wsX12_tablet_r2 ++ (wsX12_tablet_r3 ++ (wsX12_tablet_r4 ++ wsX12_tablet_r5)))) ++ wsX120)
def wsX12_isTablet : List Cond := .code yX12_isTablet cX12_isTablet 2 (some .boolean) :: ([.fieldLink RX12 204 "ClayAccountsModel" "tablets" "I"] ++ wsX120)
def wsX12_isLine : List Cond := .code yX12_isLine cX12_isLine 3 (some .boolean) :: ([.fieldLink RX12 32 "ClayAccountsModel" "lineMany" "[I", .methodLink RX12 257 yX12_isTablet, .instanceMethod yX12_isTablet, .selects RX12 yX12_isTablet yX12_isTablet, .initialized RX12, .code yX12_isTablet cX12_isTablet 2 (some .boolean), .fieldLink RX12 204 "ClayAccountsModel" "tablets" "I"] ++ wsX120)
def wsX12_fills : List Cond := .code yX12_fills cX12_fills 12 (some .boolean) :: ([.fieldLink RX12 44 "ClayAccountsModel" "asked" "[I", .fieldLink RX12 56 "ClayAccountsModel" "filled" "[I", .fieldLink RX12 32 "ClayAccountsModel" "lineMany" "[I", .fieldLink RX12 38 "ClayAccountsModel" "lineSystem" "[I", .fieldLink RX12 59 "ClayAccountsModel" "value" "[J", .fieldLink RX12 41 "ClayAccountsModel" "amounts" "[I", .fieldLink RX12 47 "ClayAccountsModel" "digit1" "[I", .fieldLink RX12 50 "ClayAccountsModel" "digit2" "[I", .fieldLink RX12 53 "ClayAccountsModel" "unitOf" "[I", .methodLink RX12 244 yX12_mostOf, .instanceMethod yX12_mostOf, .selects RX12 yX12_mostOf yX12_mostOf, .initialized RX12, .code yX12_mostOf cX12_mostOf 3 (some .int), .fieldLink RX12 23 "ClayAccountsModel" "units" "[I", .fieldLink RX12 26 "ClayAccountsModel" "factor" "[I", .methodLink RX12 234 yX12_isGood, .instanceMethod yX12_isGood, .selects RX12 yX12_isGood yX12_isGood, .code yX12_isGood cX12_isGood 5 (some .boolean), .methodLink RX12 220 yX12_worth, .instanceMethod yX12_worth, .selects RX12 yX12_worth yX12_worth, .code yX12_worth cX12_worth 5 (some .int)] ++ wsX120)
def wsX12_wrongs : List Cond := .code yX12_wrongs cX12_wrongs 10 (some .int) :: ([.fieldLink RX12 32 "ClayAccountsModel" "lineMany" "[I", .fieldLink RX12 35 "ClayAccountsModel" "lineKind" "[I", .fieldLink RX12 38 "ClayAccountsModel" "lineSystem" "[I", .fieldLink RX12 59 "ClayAccountsModel" "value" "[J"] ++ wsX120)
def wsX12_ways : List Cond := .code yX12_ways cX12_ways 4 (some .int) :: ([.fieldLink RX12 44 "ClayAccountsModel" "asked" "[I"] ++ wsX120)
def wsX12_readAll_r1 : List Cond := [Cond.fieldLink RX12 260 "ClayAccountsModel" "found" "I", Cond.fieldLink RX12 263 "ClayAccountsModel" "digitOfAll" "I", Cond.fieldLink RX12 59 "ClayAccountsModel" "value" "[J", Cond.fieldLink RX12 275 "ClayAccountsModel" "least" "J", Cond.fieldLink RX12 278 "ClayAccountsModel" "greatest" "J", Cond.fieldLink RX12 56 "ClayAccountsModel" "filled" "[I", Cond.methodLink RX12 266 yX12_ways, Cond.instanceMethod yX12_ways, Cond.selects RX12 yX12_ways yX12_ways, Cond.initialized RX12, Cond.code yX12_ways cX12_ways 4 (some .int), Cond.fieldLink RX12 44 "ClayAccountsModel" "asked" "[I", Cond.methodLink RX12 269 yX12_fills, Cond.instanceMethod yX12_fills, Cond.selects RX12 yX12_fills yX12_fills, Cond.code yX12_fills cX12_fills 12 (some .boolean), Cond.fieldLink RX12 32 "ClayAccountsModel" "lineMany" "[I", Cond.fieldLink RX12 38 "ClayAccountsModel" "lineSystem" "[I", Cond.fieldLink RX12 41 "ClayAccountsModel" "amounts" "[I", Cond.fieldLink RX12 47 "ClayAccountsModel" "digit1" "[I", Cond.fieldLink RX12 50 "ClayAccountsModel" "digit2" "[I", Cond.fieldLink RX12 53 "ClayAccountsModel" "unitOf" "[I", Cond.methodLink RX12 244 yX12_mostOf, Cond.instanceMethod yX12_mostOf]
def wsX12_readAll_r2 : List Cond := [Cond.selects RX12 yX12_mostOf yX12_mostOf, Cond.code yX12_mostOf cX12_mostOf 3 (some .int), Cond.fieldLink RX12 23 "ClayAccountsModel" "units" "[I", Cond.fieldLink RX12 26 "ClayAccountsModel" "factor" "[I", Cond.methodLink RX12 234 yX12_isGood, Cond.instanceMethod yX12_isGood, Cond.selects RX12 yX12_isGood yX12_isGood, Cond.code yX12_isGood cX12_isGood 5 (some .boolean), Cond.methodLink RX12 220 yX12_worth, Cond.instanceMethod yX12_worth, Cond.selects RX12 yX12_worth yX12_worth, Cond.code yX12_worth cX12_worth 5 (some .int), Cond.methodLink RX12 272 yX12_wrongs, Cond.instanceMethod yX12_wrongs, Cond.selects RX12 yX12_wrongs yX12_wrongs, Cond.code yX12_wrongs cX12_wrongs 10 (some .int), Cond.fieldLink RX12 35 "ClayAccountsModel" "lineKind" "[I"]
def wsX12_readAll : List Cond := .code yX12_readAll cX12_readAll 5 none :: ((wsX12_readAll_r1 ++ wsX12_readAll_r2) ++ wsX120)
def wsX12_line_r1 : List Cond := [Cond.fieldLink RX12 86 "ClayAccountsModel" "thrown" "I", Cond.fieldLink RX12 41 "ClayAccountsModel" "amounts" "[I", Cond.fieldLink RX12 47 "ClayAccountsModel" "digit1" "[I", Cond.fieldLink RX12 50 "ClayAccountsModel" "digit2" "[I", Cond.fieldLink RX12 35 "ClayAccountsModel" "lineKind" "[I", Cond.fieldLink RX12 38 "ClayAccountsModel" "lineSystem" "[I", Cond.fieldLink RX12 53 "ClayAccountsModel" "unitOf" "[I", Cond.methodLink RX12 281 yX12_isLine, Cond.instanceMethod yX12_isLine, Cond.selects RX12 yX12_isLine yX12_isLine, Cond.initialized RX12, Cond.code yX12_isLine cX12_isLine 3 (some .boolean), Cond.fieldLink RX12 32 "ClayAccountsModel" "lineMany" "[I", Cond.methodLink RX12 257 yX12_isTablet, Cond.instanceMethod yX12_isTablet, Cond.selects RX12 yX12_isTablet yX12_isTablet, Cond.code yX12_isTablet cX12_isTablet 2 (some .boolean), Cond.fieldLink RX12 204 "ClayAccountsModel" "tablets" "I", Cond.methodLink RX12 210 yX12_refuse, Cond.instanceMethod yX12_refuse, Cond.selects RX12 yX12_refuse yX12_refuse, Cond.code yX12_refuse cX12_refuse 1 (some .int), Cond.methodLink RX12 220 yX12_worth, Cond.instanceMethod yX12_worth]
def wsX12_line_r2 : List Cond := [Cond.selects RX12 yX12_worth yX12_worth, Cond.code yX12_worth cX12_worth 5 (some .int), Cond.fieldLink RX12 26 "ClayAccountsModel" "factor" "[I"]
def wsX12_line : List Cond := .code yX12_line cX12_line 9 (some .int) :: ((wsX12_line_r1 ++ wsX12_line_r2) ++ wsX120)
def wsX12_lines : List Cond := .code yX12_lines cX12_lines 2 (some .int) :: ([.fieldLink RX12 86 "ClayAccountsModel" "thrown" "I", .fieldLink RX12 32 "ClayAccountsModel" "lineMany" "[I", .methodLink RX12 257 yX12_isTablet, .instanceMethod yX12_isTablet, .selects RX12 yX12_isTablet yX12_isTablet, .initialized RX12, .code yX12_isTablet cX12_isTablet 2 (some .boolean), .fieldLink RX12 204 "ClayAccountsModel" "tablets" "I"] ++ wsX120)
def wsX12_readings_r1 : List Cond := [Cond.fieldLink RX12 86 "ClayAccountsModel" "thrown" "I", Cond.fieldLink RX12 260 "ClayAccountsModel" "found" "I", Cond.methodLink RX12 257 yX12_isTablet, Cond.instanceMethod yX12_isTablet, Cond.selects RX12 yX12_isTablet yX12_isTablet, Cond.initialized RX12, Cond.code yX12_isTablet cX12_isTablet 2 (some .boolean), Cond.fieldLink RX12 204 "ClayAccountsModel" "tablets" "I", Cond.methodLink RX12 284 yX12_readAll, Cond.instanceMethod yX12_readAll, Cond.selects RX12 yX12_readAll yX12_readAll, Cond.code yX12_readAll cX12_readAll 5 none, Cond.fieldLink RX12 263 "ClayAccountsModel" "digitOfAll" "I", Cond.fieldLink RX12 59 "ClayAccountsModel" "value" "[J", Cond.fieldLink RX12 275 "ClayAccountsModel" "least" "J", Cond.fieldLink RX12 278 "ClayAccountsModel" "greatest" "J", Cond.fieldLink RX12 56 "ClayAccountsModel" "filled" "[I", Cond.methodLink RX12 266 yX12_ways, Cond.instanceMethod yX12_ways, Cond.selects RX12 yX12_ways yX12_ways, Cond.code yX12_ways cX12_ways 4 (some .int), Cond.fieldLink RX12 44 "ClayAccountsModel" "asked" "[I", Cond.methodLink RX12 269 yX12_fills, Cond.instanceMethod yX12_fills]
def wsX12_readings_r2 : List Cond := [Cond.selects RX12 yX12_fills yX12_fills, Cond.code yX12_fills cX12_fills 12 (some .boolean), Cond.fieldLink RX12 32 "ClayAccountsModel" "lineMany" "[I", Cond.fieldLink RX12 38 "ClayAccountsModel" "lineSystem" "[I", Cond.fieldLink RX12 41 "ClayAccountsModel" "amounts" "[I", Cond.fieldLink RX12 47 "ClayAccountsModel" "digit1" "[I", Cond.fieldLink RX12 50 "ClayAccountsModel" "digit2" "[I", Cond.fieldLink RX12 53 "ClayAccountsModel" "unitOf" "[I", Cond.methodLink RX12 244 yX12_mostOf, Cond.instanceMethod yX12_mostOf, Cond.selects RX12 yX12_mostOf yX12_mostOf, Cond.code yX12_mostOf cX12_mostOf 3 (some .int), Cond.fieldLink RX12 23 "ClayAccountsModel" "units" "[I", Cond.fieldLink RX12 26 "ClayAccountsModel" "factor" "[I", Cond.methodLink RX12 234 yX12_isGood, Cond.instanceMethod yX12_isGood, Cond.selects RX12 yX12_isGood yX12_isGood, Cond.code yX12_isGood cX12_isGood 5 (some .boolean), Cond.methodLink RX12 220 yX12_worth, Cond.instanceMethod yX12_worth, Cond.selects RX12 yX12_worth yX12_worth, Cond.code yX12_worth cX12_worth 5 (some .int), Cond.methodLink RX12 272 yX12_wrongs, Cond.instanceMethod yX12_wrongs]
def wsX12_readings_r3 : List Cond := [Cond.selects RX12 yX12_wrongs yX12_wrongs, Cond.code yX12_wrongs cX12_wrongs 10 (some .int), Cond.fieldLink RX12 35 "ClayAccountsModel" "lineKind" "[I"]
def wsX12_readings : List Cond := .code yX12_readings cX12_readings 2 (some .int) :: ((wsX12_readings_r1 ++ (wsX12_readings_r2 ++ wsX12_readings_r3)) ++ wsX120)
def wsX12_bound_r1 : List Cond := [Cond.fieldLink RX12 86 "ClayAccountsModel" "thrown" "I", Cond.fieldLink RX12 260 "ClayAccountsModel" "found" "I", Cond.fieldLink RX12 278 "ClayAccountsModel" "greatest" "J", Cond.fieldLink RX12 275 "ClayAccountsModel" "least" "J", Cond.methodLink RX12 281 yX12_isLine, Cond.instanceMethod yX12_isLine, Cond.selects RX12 yX12_isLine yX12_isLine, Cond.initialized RX12, Cond.code yX12_isLine cX12_isLine 3 (some .boolean), Cond.fieldLink RX12 32 "ClayAccountsModel" "lineMany" "[I", Cond.methodLink RX12 257 yX12_isTablet, Cond.instanceMethod yX12_isTablet, Cond.selects RX12 yX12_isTablet yX12_isTablet, Cond.code yX12_isTablet cX12_isTablet 2 (some .boolean), Cond.fieldLink RX12 204 "ClayAccountsModel" "tablets" "I", Cond.methodLink RX12 210 yX12_refuse, Cond.instanceMethod yX12_refuse, Cond.selects RX12 yX12_refuse yX12_refuse, Cond.code yX12_refuse cX12_refuse 1 (some .int), Cond.methodLink RX12 284 yX12_readAll, Cond.instanceMethod yX12_readAll, Cond.selects RX12 yX12_readAll yX12_readAll, Cond.code yX12_readAll cX12_readAll 5 none, Cond.fieldLink RX12 263 "ClayAccountsModel" "digitOfAll" "I"]
def wsX12_bound_r2 : List Cond := [Cond.fieldLink RX12 59 "ClayAccountsModel" "value" "[J", Cond.fieldLink RX12 56 "ClayAccountsModel" "filled" "[I", Cond.methodLink RX12 266 yX12_ways, Cond.instanceMethod yX12_ways, Cond.selects RX12 yX12_ways yX12_ways, Cond.code yX12_ways cX12_ways 4 (some .int), Cond.fieldLink RX12 44 "ClayAccountsModel" "asked" "[I", Cond.methodLink RX12 269 yX12_fills, Cond.instanceMethod yX12_fills, Cond.selects RX12 yX12_fills yX12_fills, Cond.code yX12_fills cX12_fills 12 (some .boolean), Cond.fieldLink RX12 38 "ClayAccountsModel" "lineSystem" "[I", Cond.fieldLink RX12 41 "ClayAccountsModel" "amounts" "[I", Cond.fieldLink RX12 47 "ClayAccountsModel" "digit1" "[I", Cond.fieldLink RX12 50 "ClayAccountsModel" "digit2" "[I", Cond.fieldLink RX12 53 "ClayAccountsModel" "unitOf" "[I", Cond.methodLink RX12 244 yX12_mostOf, Cond.instanceMethod yX12_mostOf, Cond.selects RX12 yX12_mostOf yX12_mostOf, Cond.code yX12_mostOf cX12_mostOf 3 (some .int), Cond.fieldLink RX12 23 "ClayAccountsModel" "units" "[I", Cond.fieldLink RX12 26 "ClayAccountsModel" "factor" "[I", Cond.methodLink RX12 234 yX12_isGood, Cond.instanceMethod yX12_isGood]
def wsX12_bound_r3 : List Cond := [Cond.selects RX12 yX12_isGood yX12_isGood, Cond.code yX12_isGood cX12_isGood 5 (some .boolean), Cond.methodLink RX12 220 yX12_worth, Cond.instanceMethod yX12_worth, Cond.selects RX12 yX12_worth yX12_worth, Cond.code yX12_worth cX12_worth 5 (some .int), Cond.methodLink RX12 272 yX12_wrongs, Cond.instanceMethod yX12_wrongs, Cond.selects RX12 yX12_wrongs yX12_wrongs, Cond.code yX12_wrongs cX12_wrongs 10 (some .int), Cond.fieldLink RX12 35 "ClayAccountsModel" "lineKind" "[I"]
def wsX12_bound : List Cond := .code yX12_bound cX12_bound 4 (some .int) :: ((wsX12_bound_r1 ++ (wsX12_bound_r2 ++ wsX12_bound_r3)) ++ wsX120)
def wsX12_digit_r1 : List Cond := [Cond.fieldLink RX12 44 "ClayAccountsModel" "asked" "[I", Cond.fieldLink RX12 86 "ClayAccountsModel" "thrown" "I", Cond.fieldLink RX12 260 "ClayAccountsModel" "found" "I", Cond.fieldLink RX12 263 "ClayAccountsModel" "digitOfAll" "I", Cond.methodLink RX12 257 yX12_isTablet, Cond.instanceMethod yX12_isTablet, Cond.selects RX12 yX12_isTablet yX12_isTablet, Cond.initialized RX12, Cond.code yX12_isTablet cX12_isTablet 2 (some .boolean), Cond.fieldLink RX12 204 "ClayAccountsModel" "tablets" "I", Cond.methodLink RX12 210 yX12_refuse, Cond.instanceMethod yX12_refuse, Cond.selects RX12 yX12_refuse yX12_refuse, Cond.code yX12_refuse cX12_refuse 1 (some .int), Cond.methodLink RX12 284 yX12_readAll, Cond.instanceMethod yX12_readAll, Cond.selects RX12 yX12_readAll yX12_readAll, Cond.code yX12_readAll cX12_readAll 5 none, Cond.fieldLink RX12 59 "ClayAccountsModel" "value" "[J", Cond.fieldLink RX12 275 "ClayAccountsModel" "least" "J", Cond.fieldLink RX12 278 "ClayAccountsModel" "greatest" "J", Cond.fieldLink RX12 56 "ClayAccountsModel" "filled" "[I", Cond.methodLink RX12 266 yX12_ways, Cond.instanceMethod yX12_ways]
def wsX12_digit_r2 : List Cond := [Cond.selects RX12 yX12_ways yX12_ways, Cond.code yX12_ways cX12_ways 4 (some .int), Cond.methodLink RX12 269 yX12_fills, Cond.instanceMethod yX12_fills, Cond.selects RX12 yX12_fills yX12_fills, Cond.code yX12_fills cX12_fills 12 (some .boolean), Cond.fieldLink RX12 32 "ClayAccountsModel" "lineMany" "[I", Cond.fieldLink RX12 38 "ClayAccountsModel" "lineSystem" "[I", Cond.fieldLink RX12 41 "ClayAccountsModel" "amounts" "[I", Cond.fieldLink RX12 47 "ClayAccountsModel" "digit1" "[I", Cond.fieldLink RX12 50 "ClayAccountsModel" "digit2" "[I", Cond.fieldLink RX12 53 "ClayAccountsModel" "unitOf" "[I", Cond.methodLink RX12 244 yX12_mostOf, Cond.instanceMethod yX12_mostOf, Cond.selects RX12 yX12_mostOf yX12_mostOf, Cond.code yX12_mostOf cX12_mostOf 3 (some .int), Cond.fieldLink RX12 23 "ClayAccountsModel" "units" "[I", Cond.fieldLink RX12 26 "ClayAccountsModel" "factor" "[I", Cond.methodLink RX12 234 yX12_isGood, Cond.instanceMethod yX12_isGood, Cond.selects RX12 yX12_isGood yX12_isGood, Cond.code yX12_isGood cX12_isGood 5 (some .boolean), Cond.methodLink RX12 220 yX12_worth, Cond.instanceMethod yX12_worth]
def wsX12_digit_r3 : List Cond := [Cond.selects RX12 yX12_worth yX12_worth, Cond.code yX12_worth cX12_worth 5 (some .int), Cond.methodLink RX12 272 yX12_wrongs, Cond.instanceMethod yX12_wrongs, Cond.selects RX12 yX12_wrongs yX12_wrongs, Cond.code yX12_wrongs cX12_wrongs 10 (some .int), Cond.fieldLink RX12 35 "ClayAccountsModel" "lineKind" "[I"]
def wsX12_digit : List Cond := .code yX12_digit cX12_digit 3 (some .int) :: ((wsX12_digit_r1 ++ (wsX12_digit_r2 ++ wsX12_digit_r3)) ++ wsX120)
def wsX12_wrong_r1 : List Cond := [Cond.fieldLink RX12 86 "ClayAccountsModel" "thrown" "I", Cond.methodLink RX12 257 yX12_isTablet, Cond.instanceMethod yX12_isTablet, Cond.selects RX12 yX12_isTablet yX12_isTablet, Cond.initialized RX12, Cond.code yX12_isTablet cX12_isTablet 2 (some .boolean), Cond.fieldLink RX12 204 "ClayAccountsModel" "tablets" "I", Cond.methodLink RX12 266 yX12_ways, Cond.instanceMethod yX12_ways, Cond.selects RX12 yX12_ways yX12_ways, Cond.code yX12_ways cX12_ways 4 (some .int), Cond.fieldLink RX12 44 "ClayAccountsModel" "asked" "[I", Cond.methodLink RX12 269 yX12_fills, Cond.instanceMethod yX12_fills, Cond.selects RX12 yX12_fills yX12_fills, Cond.code yX12_fills cX12_fills 12 (some .boolean), Cond.fieldLink RX12 56 "ClayAccountsModel" "filled" "[I", Cond.fieldLink RX12 32 "ClayAccountsModel" "lineMany" "[I", Cond.fieldLink RX12 38 "ClayAccountsModel" "lineSystem" "[I", Cond.fieldLink RX12 59 "ClayAccountsModel" "value" "[J", Cond.fieldLink RX12 41 "ClayAccountsModel" "amounts" "[I", Cond.fieldLink RX12 47 "ClayAccountsModel" "digit1" "[I", Cond.fieldLink RX12 50 "ClayAccountsModel" "digit2" "[I", Cond.fieldLink RX12 53 "ClayAccountsModel" "unitOf" "[I"]
def wsX12_wrong_r2 : List Cond := [Cond.methodLink RX12 244 yX12_mostOf, Cond.instanceMethod yX12_mostOf, Cond.selects RX12 yX12_mostOf yX12_mostOf, Cond.code yX12_mostOf cX12_mostOf 3 (some .int), Cond.fieldLink RX12 23 "ClayAccountsModel" "units" "[I", Cond.fieldLink RX12 26 "ClayAccountsModel" "factor" "[I", Cond.methodLink RX12 234 yX12_isGood, Cond.instanceMethod yX12_isGood, Cond.selects RX12 yX12_isGood yX12_isGood, Cond.code yX12_isGood cX12_isGood 5 (some .boolean), Cond.methodLink RX12 220 yX12_worth, Cond.instanceMethod yX12_worth, Cond.selects RX12 yX12_worth yX12_worth, Cond.code yX12_worth cX12_worth 5 (some .int), Cond.methodLink RX12 272 yX12_wrongs, Cond.instanceMethod yX12_wrongs, Cond.selects RX12 yX12_wrongs yX12_wrongs, Cond.code yX12_wrongs cX12_wrongs 10 (some .int), Cond.fieldLink RX12 35 "ClayAccountsModel" "lineKind" "[I"]
def wsX12_wrong : List Cond := .code yX12_wrong cX12_wrong 5 (some .int) :: ((wsX12_wrong_r1 ++ wsX12_wrong_r2) ++ wsX120)
def wsX12_isEdge : List Cond := .code yX12_isEdge cX12_isEdge 1 (some .boolean) :: ([.constant RX12 288 (99999999)])
def wsX12_fragment : List Cond := .code yX12_fragment cX12_fragment 6 (some .int) :: ([.fieldLink RX12 86 "ClayAccountsModel" "thrown" "I", .fieldLink RX12 90 "ClayAccountsModel" "taped" "I", .fieldLink RX12 289 "ClayAccountsModel" "fragments" "I", .fieldLink RX12 74 "ClayAccountsModel" "rowMany" "[I", .fieldLink RX12 62 "ClayAccountsModel" "letters" "[I", .fieldLink RX12 7 "ClayAccountsModel" "tape" "[I", .fieldLink RX12 65 "ClayAccountsModel" "fragmentLong" "[I", .fieldLink RX12 68 "ClayAccountsModel" "leftEdge" "[I", .fieldLink RX12 71 "ClayAccountsModel" "rightEdge" "[I", .methodLink RX12 292 yX12_isEdge, .static yX12_isEdge, .initialized RX12, .code yX12_isEdge cX12_isEdge 1 (some .boolean), .constant RX12 288 (99999999)] ++ wsX120)
def wsX12_isFragment : List Cond := .code yX12_isFragment cX12_isFragment 2 (some .boolean) :: ([.fieldLink RX12 289 "ClayAccountsModel" "fragments" "I"] ++ wsX120)
def wsX12_rows : List Cond := .code yX12_rows cX12_rows 2 (some .int) :: ([.fieldLink RX12 86 "ClayAccountsModel" "thrown" "I", .fieldLink RX12 74 "ClayAccountsModel" "rowMany" "[I", .methodLink RX12 295 yX12_isFragment, .instanceMethod yX12_isFragment, .selects RX12 yX12_isFragment yX12_isFragment, .initialized RX12, .code yX12_isFragment cX12_isFragment 2 (some .boolean), .fieldLink RX12 289 "ClayAccountsModel" "fragments" "I"] ++ wsX120)
def wsX12_say : List Cond := .code yX12_say cX12_say 2 none :: ([.fieldLink RX12 13 "ClayAccountsModel" "text" "[I", .fieldLink RX12 97 "ClayAccountsModel" "size" "I"] ++ wsX120)
def wsX12_sayRow : List Cond := .code yX12_sayRow cX12_sayRow 4 (some .int) :: ([.fieldLink RX12 65 "ClayAccountsModel" "fragmentLong" "[I", .fieldLink RX12 62 "ClayAccountsModel" "letters" "[I", .methodLink RX12 298 yX12_say, .instanceMethod yX12_say, .selects RX12 yX12_say yX12_say, .initialized RX12, .code yX12_say cX12_say 2 none, .fieldLink RX12 13 "ClayAccountsModel" "text" "[I", .fieldLink RX12 97 "ClayAccountsModel" "size" "I"] ++ wsX120)
def wsX12_joined_r1 : List Cond := [Cond.fieldLink RX12 71 "ClayAccountsModel" "rightEdge" "[I", Cond.fieldLink RX12 68 "ClayAccountsModel" "leftEdge" "[I", Cond.constant RX12 288 (99999999), Cond.fieldLink RX12 74 "ClayAccountsModel" "rowMany" "[I", Cond.fieldLink RX12 201 "ClayAccountsModel" "systems" "I", Cond.fieldLink RX12 97 "ClayAccountsModel" "size" "I", Cond.fieldLink RX12 150 "ClayAccountsModel" "fault" "I", Cond.fieldLink RX12 153 "ClayAccountsModel" "place" "I", Cond.fieldLink RX12 260 "ClayAccountsModel" "found" "I", Cond.methodLink RX12 301 yX12_sayRow, Cond.instanceMethod yX12_sayRow, Cond.selects RX12 yX12_sayRow yX12_sayRow, Cond.initialized RX12, Cond.code yX12_sayRow cX12_sayRow 4 (some .int), Cond.fieldLink RX12 65 "ClayAccountsModel" "fragmentLong" "[I", Cond.fieldLink RX12 62 "ClayAccountsModel" "letters" "[I", Cond.methodLink RX12 298 yX12_say, Cond.instanceMethod yX12_say, Cond.selects RX12 yX12_say yX12_say, Cond.code yX12_say cX12_say 2 none, Cond.fieldLink RX12 13 "ClayAccountsModel" "text" "[I", Cond.methodLink RX12 165 yX12_begins, Cond.instanceMethod yX12_begins, Cond.selects RX12 yX12_begins yX12_begins]
def wsX12_joined_r2 : List Cond := [Cond.code yX12_begins cX12_begins 3 none, Cond.fieldLink RX12 114 "ClayAccountsModel" "most" "I", Cond.fieldLink RX12 104 "ClayAccountsModel" "broken" "Z", Cond.fieldLink RX12 108 "ClayAccountsModel" "to" "I", Cond.methodLink RX12 169 yX12_go, Cond.instanceMethod yX12_go, Cond.selects RX12 yX12_go yX12_go, Cond.code yX12_go cX12_go 5 none, Cond.fieldLink RX12 111 "ClayAccountsModel" "from" "I", Cond.fieldLink RX12 117 "ClayAccountsModel" "kind" "I", Cond.fieldLink RX12 126 "ClayAccountsModel" "sign" "I", Cond.fieldLink RX12 129 "ClayAccountsModel" "name" "J", Cond.constantLong RX12 137 (27), Cond.constantLong RX12 139 (96), Cond.fieldLink RX12 144 "ClayAccountsModel" "first" "I", Cond.fieldLink RX12 147 "ClayAccountsModel" "second" "I", Cond.methodLink RX12 120 yX12_isLetter, Cond.static yX12_isLetter, Cond.code yX12_isLetter cX12_isLetter 1 (some .boolean), Cond.methodLink RX12 123 yX12_isCount, Cond.instanceMethod yX12_isCount, Cond.selects RX12 yX12_isCount yX12_isCount, Cond.code yX12_isCount cX12_isCount 2 (some .boolean), Cond.methodLink RX12 100 yX12_isDigit]
def wsX12_joined_r3 : List Cond := [Cond.static yX12_isDigit, Cond.code yX12_isDigit cX12_isDigit 1 (some .boolean), Cond.methodLink RX12 133 yX12_at, Cond.instanceMethod yX12_at, Cond.selects RX12 yX12_at yX12_at, Cond.code yX12_at cX12_at 2 (some .int), Cond.methodLink RX12 141 yX12_digitOf, Cond.static yX12_digitOf, Cond.code yX12_digitOf cX12_digitOf 1 (some .int), Cond.methodLink RX12 254 yX12_readTablet, Cond.instanceMethod yX12_readTablet, Cond.selects RX12 yX12_readTablet yX12_readTablet, Cond.code yX12_readTablet cX12_readTablet 5 (some .boolean), Cond.fieldLink RX12 32 "ClayAccountsModel" "lineMany" "[I", Cond.fieldLink RX12 44 "ClayAccountsModel" "asked" "[I", Cond.fieldLink RX12 159 "ClayAccountsModel" "TOTAL_NAME" "J", Cond.fieldLink RX12 162 "ClayAccountsModel" "GRAND_NAME" "J", Cond.fieldLink RX12 35 "ClayAccountsModel" "lineKind" "[I", Cond.fieldLink RX12 41 "ClayAccountsModel" "amounts" "[I", Cond.methodLink RX12 194 yX12_isKey, Cond.instanceMethod yX12_isKey, Cond.selects RX12 yX12_isKey yX12_isKey, Cond.code yX12_isKey cX12_isKey 3 (some .boolean), Cond.methodLink RX12 176 yX12_bad]
def wsX12_joined_r4 : List Cond := [Cond.instanceMethod yX12_bad, Cond.selects RX12 yX12_bad yX12_bad, Cond.code yX12_bad cX12_bad 2 (some .boolean), Cond.methodLink RX12 251 yX12_readAmount, Cond.instanceMethod yX12_readAmount, Cond.selects RX12 yX12_readAmount yX12_readAmount, Cond.code yX12_readAmount cX12_readAmount 11 (some .boolean), Cond.fieldLink RX12 228 "ClayAccountsModel" "unitSystem" "I", Cond.fieldLink RX12 231 "ClayAccountsModel" "unitNumber" "I", Cond.fieldLink RX12 38 "ClayAccountsModel" "lineSystem" "[I", Cond.fieldLink RX12 53 "ClayAccountsModel" "unitOf" "[I", Cond.fieldLink RX12 47 "ClayAccountsModel" "digit1" "[I", Cond.fieldLink RX12 50 "ClayAccountsModel" "digit2" "[I", Cond.methodLink RX12 238 yX12_canBe, Cond.instanceMethod yX12_canBe, Cond.selects RX12 yX12_canBe yX12_canBe, Cond.code yX12_canBe cX12_canBe 6 (some .boolean), Cond.methodLink RX12 234 yX12_isGood, Cond.instanceMethod yX12_isGood, Cond.selects RX12 yX12_isGood yX12_isGood, Cond.code yX12_isGood cX12_isGood 5 (some .boolean), Cond.methodLink RX12 172 yX12_isFree, Cond.instanceMethod yX12_isFree, Cond.selects RX12 yX12_isFree yX12_isFree]
def wsX12_joined_r5 : List Cond := [Cond.code yX12_isFree cX12_isFree 1 (some .boolean), Cond.fieldLink RX12 156 "ClayAccountsModel" "SYSTEM_NAME" "J", Cond.methodLink RX12 241 yX12_isUnit, Cond.instanceMethod yX12_isUnit, Cond.selects RX12 yX12_isUnit yX12_isUnit, Cond.code yX12_isUnit cX12_isUnit 3 (some .boolean), Cond.fieldLink RX12 23 "ClayAccountsModel" "units" "[I", Cond.fieldLink RX12 20 "ClayAccountsModel" "unitName" "[J", Cond.methodLink RX12 244 yX12_mostOf, Cond.instanceMethod yX12_mostOf, Cond.selects RX12 yX12_mostOf yX12_mostOf, Cond.code yX12_mostOf cX12_mostOf 3 (some .int), Cond.fieldLink RX12 26 "ClayAccountsModel" "factor" "[I", Cond.methodLink RX12 247 yX12_badAt, Cond.instanceMethod yX12_badAt, Cond.selects RX12 yX12_badAt yX12_badAt, Cond.code yX12_badAt cX12_badAt 3 (some .boolean), Cond.methodLink RX12 182 yX12_isSign, Cond.instanceMethod yX12_isSign, Cond.selects RX12 yX12_isSign yX12_isSign, Cond.code yX12_isSign cX12_isSign 2 (some .boolean), Cond.methodLink RX12 284 yX12_readAll, Cond.instanceMethod yX12_readAll, Cond.selects RX12 yX12_readAll yX12_readAll]
def wsX12_joined_r6 : List Cond := [Cond.code yX12_readAll cX12_readAll 5 none, Cond.fieldLink RX12 263 "ClayAccountsModel" "digitOfAll" "I", Cond.fieldLink RX12 59 "ClayAccountsModel" "value" "[J", Cond.fieldLink RX12 275 "ClayAccountsModel" "least" "J", Cond.fieldLink RX12 278 "ClayAccountsModel" "greatest" "J", Cond.fieldLink RX12 56 "ClayAccountsModel" "filled" "[I", Cond.methodLink RX12 266 yX12_ways, Cond.instanceMethod yX12_ways, Cond.selects RX12 yX12_ways yX12_ways, Cond.code yX12_ways cX12_ways 4 (some .int), Cond.methodLink RX12 269 yX12_fills, Cond.instanceMethod yX12_fills, Cond.selects RX12 yX12_fills yX12_fills, Cond.code yX12_fills cX12_fills 12 (some .boolean), Cond.methodLink RX12 220 yX12_worth, Cond.instanceMethod yX12_worth, Cond.selects RX12 yX12_worth yX12_worth, Cond.code yX12_worth cX12_worth 5 (some .int), Cond.methodLink RX12 272 yX12_wrongs, Cond.instanceMethod yX12_wrongs, Cond.selects RX12 yX12_wrongs yX12_wrongs, Cond.code yX12_wrongs cX12_wrongs 10 (some .int)]
def wsX12_joined : List Cond := .code yX12_joined cX12_joined 8 (some .int) :: ((wsX12_joined_r1 ++ (wsX12_joined_r2 ++ (wsX12_joined_r3 ++ (wsX12_joined_r4 ++ (wsX12_joined_r5 ++ wsX12_joined_r6))))) ++ wsX120)
def wsX12_join_r1 : List Cond := [Cond.fieldLink RX12 86 "ClayAccountsModel" "thrown" "I", Cond.methodLink RX12 295 yX12_isFragment, Cond.instanceMethod yX12_isFragment, Cond.selects RX12 yX12_isFragment yX12_isFragment, Cond.initialized RX12, Cond.code yX12_isFragment cX12_isFragment 2 (some .boolean), Cond.fieldLink RX12 289 "ClayAccountsModel" "fragments" "I", Cond.methodLink RX12 304 yX12_joined, Cond.instanceMethod yX12_joined, Cond.selects RX12 yX12_joined yX12_joined, Cond.code yX12_joined cX12_joined 8 (some .int), Cond.fieldLink RX12 71 "ClayAccountsModel" "rightEdge" "[I", Cond.fieldLink RX12 68 "ClayAccountsModel" "leftEdge" "[I", Cond.constant RX12 288 (99999999), Cond.fieldLink RX12 74 "ClayAccountsModel" "rowMany" "[I", Cond.fieldLink RX12 201 "ClayAccountsModel" "systems" "I", Cond.fieldLink RX12 97 "ClayAccountsModel" "size" "I", Cond.fieldLink RX12 150 "ClayAccountsModel" "fault" "I", Cond.fieldLink RX12 153 "ClayAccountsModel" "place" "I", Cond.fieldLink RX12 260 "ClayAccountsModel" "found" "I", Cond.methodLink RX12 301 yX12_sayRow, Cond.instanceMethod yX12_sayRow, Cond.selects RX12 yX12_sayRow yX12_sayRow, Cond.code yX12_sayRow cX12_sayRow 4 (some .int)]
def wsX12_join_r2 : List Cond := [Cond.fieldLink RX12 65 "ClayAccountsModel" "fragmentLong" "[I", Cond.fieldLink RX12 62 "ClayAccountsModel" "letters" "[I", Cond.methodLink RX12 298 yX12_say, Cond.instanceMethod yX12_say, Cond.selects RX12 yX12_say yX12_say, Cond.code yX12_say cX12_say 2 none, Cond.fieldLink RX12 13 "ClayAccountsModel" "text" "[I", Cond.methodLink RX12 165 yX12_begins, Cond.instanceMethod yX12_begins, Cond.selects RX12 yX12_begins yX12_begins, Cond.code yX12_begins cX12_begins 3 none, Cond.fieldLink RX12 114 "ClayAccountsModel" "most" "I", Cond.fieldLink RX12 104 "ClayAccountsModel" "broken" "Z", Cond.fieldLink RX12 108 "ClayAccountsModel" "to" "I", Cond.methodLink RX12 169 yX12_go, Cond.instanceMethod yX12_go, Cond.selects RX12 yX12_go yX12_go, Cond.code yX12_go cX12_go 5 none, Cond.fieldLink RX12 111 "ClayAccountsModel" "from" "I", Cond.fieldLink RX12 117 "ClayAccountsModel" "kind" "I", Cond.fieldLink RX12 126 "ClayAccountsModel" "sign" "I", Cond.fieldLink RX12 129 "ClayAccountsModel" "name" "J", Cond.constantLong RX12 137 (27), Cond.constantLong RX12 139 (96)]
def wsX12_join_r3 : List Cond := [Cond.fieldLink RX12 144 "ClayAccountsModel" "first" "I", Cond.fieldLink RX12 147 "ClayAccountsModel" "second" "I", Cond.methodLink RX12 120 yX12_isLetter, Cond.static yX12_isLetter, Cond.code yX12_isLetter cX12_isLetter 1 (some .boolean), Cond.methodLink RX12 123 yX12_isCount, Cond.instanceMethod yX12_isCount, Cond.selects RX12 yX12_isCount yX12_isCount, Cond.code yX12_isCount cX12_isCount 2 (some .boolean), Cond.methodLink RX12 100 yX12_isDigit, Cond.static yX12_isDigit, Cond.code yX12_isDigit cX12_isDigit 1 (some .boolean), Cond.methodLink RX12 133 yX12_at, Cond.instanceMethod yX12_at, Cond.selects RX12 yX12_at yX12_at, Cond.code yX12_at cX12_at 2 (some .int), Cond.methodLink RX12 141 yX12_digitOf, Cond.static yX12_digitOf, Cond.code yX12_digitOf cX12_digitOf 1 (some .int), Cond.methodLink RX12 254 yX12_readTablet, Cond.instanceMethod yX12_readTablet, Cond.selects RX12 yX12_readTablet yX12_readTablet, Cond.code yX12_readTablet cX12_readTablet 5 (some .boolean), Cond.fieldLink RX12 32 "ClayAccountsModel" "lineMany" "[I"]
def wsX12_join_r4 : List Cond := [Cond.fieldLink RX12 44 "ClayAccountsModel" "asked" "[I", Cond.fieldLink RX12 159 "ClayAccountsModel" "TOTAL_NAME" "J", Cond.fieldLink RX12 162 "ClayAccountsModel" "GRAND_NAME" "J", Cond.fieldLink RX12 35 "ClayAccountsModel" "lineKind" "[I", Cond.fieldLink RX12 41 "ClayAccountsModel" "amounts" "[I", Cond.methodLink RX12 194 yX12_isKey, Cond.instanceMethod yX12_isKey, Cond.selects RX12 yX12_isKey yX12_isKey, Cond.code yX12_isKey cX12_isKey 3 (some .boolean), Cond.methodLink RX12 176 yX12_bad, Cond.instanceMethod yX12_bad, Cond.selects RX12 yX12_bad yX12_bad, Cond.code yX12_bad cX12_bad 2 (some .boolean), Cond.methodLink RX12 251 yX12_readAmount, Cond.instanceMethod yX12_readAmount, Cond.selects RX12 yX12_readAmount yX12_readAmount, Cond.code yX12_readAmount cX12_readAmount 11 (some .boolean), Cond.fieldLink RX12 228 "ClayAccountsModel" "unitSystem" "I", Cond.fieldLink RX12 231 "ClayAccountsModel" "unitNumber" "I", Cond.fieldLink RX12 38 "ClayAccountsModel" "lineSystem" "[I", Cond.fieldLink RX12 53 "ClayAccountsModel" "unitOf" "[I", Cond.fieldLink RX12 47 "ClayAccountsModel" "digit1" "[I", Cond.fieldLink RX12 50 "ClayAccountsModel" "digit2" "[I", Cond.methodLink RX12 238 yX12_canBe]
def wsX12_join_r5 : List Cond := [Cond.instanceMethod yX12_canBe, Cond.selects RX12 yX12_canBe yX12_canBe, Cond.code yX12_canBe cX12_canBe 6 (some .boolean), Cond.methodLink RX12 234 yX12_isGood, Cond.instanceMethod yX12_isGood, Cond.selects RX12 yX12_isGood yX12_isGood, Cond.code yX12_isGood cX12_isGood 5 (some .boolean), Cond.methodLink RX12 172 yX12_isFree, Cond.instanceMethod yX12_isFree, Cond.selects RX12 yX12_isFree yX12_isFree, Cond.code yX12_isFree cX12_isFree 1 (some .boolean), Cond.fieldLink RX12 156 "ClayAccountsModel" "SYSTEM_NAME" "J", Cond.methodLink RX12 241 yX12_isUnit, Cond.instanceMethod yX12_isUnit, Cond.selects RX12 yX12_isUnit yX12_isUnit, Cond.code yX12_isUnit cX12_isUnit 3 (some .boolean), Cond.fieldLink RX12 23 "ClayAccountsModel" "units" "[I", Cond.fieldLink RX12 20 "ClayAccountsModel" "unitName" "[J", Cond.methodLink RX12 244 yX12_mostOf, Cond.instanceMethod yX12_mostOf, Cond.selects RX12 yX12_mostOf yX12_mostOf, Cond.code yX12_mostOf cX12_mostOf 3 (some .int), Cond.fieldLink RX12 26 "ClayAccountsModel" "factor" "[I", Cond.methodLink RX12 247 yX12_badAt]
def wsX12_join_r6 : List Cond := [Cond.instanceMethod yX12_badAt, Cond.selects RX12 yX12_badAt yX12_badAt, Cond.code yX12_badAt cX12_badAt 3 (some .boolean), Cond.methodLink RX12 182 yX12_isSign, Cond.instanceMethod yX12_isSign, Cond.selects RX12 yX12_isSign yX12_isSign, Cond.code yX12_isSign cX12_isSign 2 (some .boolean), Cond.methodLink RX12 284 yX12_readAll, Cond.instanceMethod yX12_readAll, Cond.selects RX12 yX12_readAll yX12_readAll, Cond.code yX12_readAll cX12_readAll 5 none, Cond.fieldLink RX12 263 "ClayAccountsModel" "digitOfAll" "I", Cond.fieldLink RX12 59 "ClayAccountsModel" "value" "[J", Cond.fieldLink RX12 275 "ClayAccountsModel" "least" "J", Cond.fieldLink RX12 278 "ClayAccountsModel" "greatest" "J", Cond.fieldLink RX12 56 "ClayAccountsModel" "filled" "[I", Cond.methodLink RX12 266 yX12_ways, Cond.instanceMethod yX12_ways, Cond.selects RX12 yX12_ways yX12_ways, Cond.code yX12_ways cX12_ways 4 (some .int), Cond.methodLink RX12 269 yX12_fills, Cond.instanceMethod yX12_fills, Cond.selects RX12 yX12_fills yX12_fills, Cond.code yX12_fills cX12_fills 12 (some .boolean)]
def wsX12_join_r7 : List Cond := [Cond.methodLink RX12 220 yX12_worth, Cond.instanceMethod yX12_worth, Cond.selects RX12 yX12_worth yX12_worth, Cond.code yX12_worth cX12_worth 5 (some .int), Cond.methodLink RX12 272 yX12_wrongs, Cond.instanceMethod yX12_wrongs, Cond.selects RX12 yX12_wrongs yX12_wrongs, Cond.code yX12_wrongs cX12_wrongs 10 (some .int)]
def wsX12_join : List Cond := .code yX12_join cX12_join 3 (some .int) :: ((wsX12_join_r1 ++ (wsX12_join_r2 ++ (wsX12_join_r3 ++ (wsX12_join_r4 ++ (wsX12_join_r5 ++ (wsX12_join_r6 ++ wsX12_join_r7)))))) ++ wsX120)
def wsX12_lowest : List Cond := .code yX12_lowest cX12_lowest 2 (some .int) :: ([])
def wsX12_match_r1 : List Cond := [Cond.fieldLink RX12 86 "ClayAccountsModel" "thrown" "I", Cond.fieldLink RX12 289 "ClayAccountsModel" "fragments" "I", Cond.fieldLink RX12 77 "ClayAccountsModel" "pair" "[I", Cond.fieldLink RX12 80 "ClayAccountsModel" "best" "[I", Cond.fieldLink RX12 307 "ClayAccountsModel" "made" "Z", Cond.fieldLink RX12 310 "ClayAccountsModel" "sure" "I", Cond.fieldLink RX12 83 "ClayAccountsModel" "mate" "[I", Cond.methodLink RX12 304 yX12_joined, Cond.instanceMethod yX12_joined, Cond.selects RX12 yX12_joined yX12_joined, Cond.initialized RX12, Cond.code yX12_joined cX12_joined 8 (some .int), Cond.fieldLink RX12 71 "ClayAccountsModel" "rightEdge" "[I", Cond.fieldLink RX12 68 "ClayAccountsModel" "leftEdge" "[I", Cond.constant RX12 288 (99999999), Cond.fieldLink RX12 74 "ClayAccountsModel" "rowMany" "[I", Cond.fieldLink RX12 201 "ClayAccountsModel" "systems" "I", Cond.fieldLink RX12 97 "ClayAccountsModel" "size" "I", Cond.fieldLink RX12 150 "ClayAccountsModel" "fault" "I", Cond.fieldLink RX12 153 "ClayAccountsModel" "place" "I", Cond.fieldLink RX12 260 "ClayAccountsModel" "found" "I", Cond.methodLink RX12 301 yX12_sayRow, Cond.instanceMethod yX12_sayRow, Cond.selects RX12 yX12_sayRow yX12_sayRow]
def wsX12_match_r2 : List Cond := [Cond.code yX12_sayRow cX12_sayRow 4 (some .int), Cond.fieldLink RX12 65 "ClayAccountsModel" "fragmentLong" "[I", Cond.fieldLink RX12 62 "ClayAccountsModel" "letters" "[I", Cond.methodLink RX12 298 yX12_say, Cond.instanceMethod yX12_say, Cond.selects RX12 yX12_say yX12_say, Cond.code yX12_say cX12_say 2 none, Cond.fieldLink RX12 13 "ClayAccountsModel" "text" "[I", Cond.methodLink RX12 165 yX12_begins, Cond.instanceMethod yX12_begins, Cond.selects RX12 yX12_begins yX12_begins, Cond.code yX12_begins cX12_begins 3 none, Cond.fieldLink RX12 114 "ClayAccountsModel" "most" "I", Cond.fieldLink RX12 104 "ClayAccountsModel" "broken" "Z", Cond.fieldLink RX12 108 "ClayAccountsModel" "to" "I", Cond.methodLink RX12 169 yX12_go, Cond.instanceMethod yX12_go, Cond.selects RX12 yX12_go yX12_go, Cond.code yX12_go cX12_go 5 none, Cond.fieldLink RX12 111 "ClayAccountsModel" "from" "I", Cond.fieldLink RX12 117 "ClayAccountsModel" "kind" "I", Cond.fieldLink RX12 126 "ClayAccountsModel" "sign" "I", Cond.fieldLink RX12 129 "ClayAccountsModel" "name" "J", Cond.constantLong RX12 137 (27)]
def wsX12_match_r3 : List Cond := [Cond.constantLong RX12 139 (96), Cond.fieldLink RX12 144 "ClayAccountsModel" "first" "I", Cond.fieldLink RX12 147 "ClayAccountsModel" "second" "I", Cond.methodLink RX12 120 yX12_isLetter, Cond.static yX12_isLetter, Cond.code yX12_isLetter cX12_isLetter 1 (some .boolean), Cond.methodLink RX12 123 yX12_isCount, Cond.instanceMethod yX12_isCount, Cond.selects RX12 yX12_isCount yX12_isCount, Cond.code yX12_isCount cX12_isCount 2 (some .boolean), Cond.methodLink RX12 100 yX12_isDigit, Cond.static yX12_isDigit, Cond.code yX12_isDigit cX12_isDigit 1 (some .boolean), Cond.methodLink RX12 133 yX12_at, Cond.instanceMethod yX12_at, Cond.selects RX12 yX12_at yX12_at, Cond.code yX12_at cX12_at 2 (some .int), Cond.methodLink RX12 141 yX12_digitOf, Cond.static yX12_digitOf, Cond.code yX12_digitOf cX12_digitOf 1 (some .int), Cond.methodLink RX12 254 yX12_readTablet, Cond.instanceMethod yX12_readTablet, Cond.selects RX12 yX12_readTablet yX12_readTablet, Cond.code yX12_readTablet cX12_readTablet 5 (some .boolean)]
def wsX12_match_r4 : List Cond := [Cond.fieldLink RX12 32 "ClayAccountsModel" "lineMany" "[I", Cond.fieldLink RX12 44 "ClayAccountsModel" "asked" "[I", Cond.fieldLink RX12 159 "ClayAccountsModel" "TOTAL_NAME" "J", Cond.fieldLink RX12 162 "ClayAccountsModel" "GRAND_NAME" "J", Cond.fieldLink RX12 35 "ClayAccountsModel" "lineKind" "[I", Cond.fieldLink RX12 41 "ClayAccountsModel" "amounts" "[I", Cond.methodLink RX12 194 yX12_isKey, Cond.instanceMethod yX12_isKey, Cond.selects RX12 yX12_isKey yX12_isKey, Cond.code yX12_isKey cX12_isKey 3 (some .boolean), Cond.methodLink RX12 176 yX12_bad, Cond.instanceMethod yX12_bad, Cond.selects RX12 yX12_bad yX12_bad, Cond.code yX12_bad cX12_bad 2 (some .boolean), Cond.methodLink RX12 251 yX12_readAmount, Cond.instanceMethod yX12_readAmount, Cond.selects RX12 yX12_readAmount yX12_readAmount, Cond.code yX12_readAmount cX12_readAmount 11 (some .boolean), Cond.fieldLink RX12 228 "ClayAccountsModel" "unitSystem" "I", Cond.fieldLink RX12 231 "ClayAccountsModel" "unitNumber" "I", Cond.fieldLink RX12 38 "ClayAccountsModel" "lineSystem" "[I", Cond.fieldLink RX12 53 "ClayAccountsModel" "unitOf" "[I", Cond.fieldLink RX12 47 "ClayAccountsModel" "digit1" "[I", Cond.fieldLink RX12 50 "ClayAccountsModel" "digit2" "[I"]
def wsX12_match_r5 : List Cond := [Cond.methodLink RX12 238 yX12_canBe, Cond.instanceMethod yX12_canBe, Cond.selects RX12 yX12_canBe yX12_canBe, Cond.code yX12_canBe cX12_canBe 6 (some .boolean), Cond.methodLink RX12 234 yX12_isGood, Cond.instanceMethod yX12_isGood, Cond.selects RX12 yX12_isGood yX12_isGood, Cond.code yX12_isGood cX12_isGood 5 (some .boolean), Cond.methodLink RX12 172 yX12_isFree, Cond.instanceMethod yX12_isFree, Cond.selects RX12 yX12_isFree yX12_isFree, Cond.code yX12_isFree cX12_isFree 1 (some .boolean), Cond.fieldLink RX12 156 "ClayAccountsModel" "SYSTEM_NAME" "J", Cond.methodLink RX12 241 yX12_isUnit, Cond.instanceMethod yX12_isUnit, Cond.selects RX12 yX12_isUnit yX12_isUnit, Cond.code yX12_isUnit cX12_isUnit 3 (some .boolean), Cond.fieldLink RX12 23 "ClayAccountsModel" "units" "[I", Cond.fieldLink RX12 20 "ClayAccountsModel" "unitName" "[J", Cond.methodLink RX12 244 yX12_mostOf, Cond.instanceMethod yX12_mostOf, Cond.selects RX12 yX12_mostOf yX12_mostOf, Cond.code yX12_mostOf cX12_mostOf 3 (some .int), Cond.fieldLink RX12 26 "ClayAccountsModel" "factor" "[I"]
def wsX12_match_r6 : List Cond := [Cond.methodLink RX12 247 yX12_badAt, Cond.instanceMethod yX12_badAt, Cond.selects RX12 yX12_badAt yX12_badAt, Cond.code yX12_badAt cX12_badAt 3 (some .boolean), Cond.methodLink RX12 182 yX12_isSign, Cond.instanceMethod yX12_isSign, Cond.selects RX12 yX12_isSign yX12_isSign, Cond.code yX12_isSign cX12_isSign 2 (some .boolean), Cond.methodLink RX12 284 yX12_readAll, Cond.instanceMethod yX12_readAll, Cond.selects RX12 yX12_readAll yX12_readAll, Cond.code yX12_readAll cX12_readAll 5 none, Cond.fieldLink RX12 263 "ClayAccountsModel" "digitOfAll" "I", Cond.fieldLink RX12 59 "ClayAccountsModel" "value" "[J", Cond.fieldLink RX12 275 "ClayAccountsModel" "least" "J", Cond.fieldLink RX12 278 "ClayAccountsModel" "greatest" "J", Cond.fieldLink RX12 56 "ClayAccountsModel" "filled" "[I", Cond.methodLink RX12 266 yX12_ways, Cond.instanceMethod yX12_ways, Cond.selects RX12 yX12_ways yX12_ways, Cond.code yX12_ways cX12_ways 4 (some .int), Cond.methodLink RX12 269 yX12_fills, Cond.instanceMethod yX12_fills, Cond.selects RX12 yX12_fills yX12_fills]
def wsX12_match_r7 : List Cond := [Cond.code yX12_fills cX12_fills 12 (some .boolean), Cond.methodLink RX12 220 yX12_worth, Cond.instanceMethod yX12_worth, Cond.selects RX12 yX12_worth yX12_worth, Cond.code yX12_worth cX12_worth 5 (some .int), Cond.methodLink RX12 272 yX12_wrongs, Cond.instanceMethod yX12_wrongs, Cond.selects RX12 yX12_wrongs yX12_wrongs, Cond.code yX12_wrongs cX12_wrongs 10 (some .int), Cond.methodLink RX12 313 yX12_lowest, Cond.static yX12_lowest, Cond.code yX12_lowest cX12_lowest 2 (some .int)]
def wsX12_match : List Cond := .code yX12_match cX12_match 7 (some .int) :: ((wsX12_match_r1 ++ (wsX12_match_r2 ++ (wsX12_match_r3 ++ (wsX12_match_r4 ++ (wsX12_match_r5 ++ (wsX12_match_r6 ++ wsX12_match_r7)))))) ++ wsX120)
def wsX12_matched : List Cond := .code yX12_matched cX12_matched 2 (some .int) :: ([.fieldLink RX12 86 "ClayAccountsModel" "thrown" "I", .fieldLink RX12 307 "ClayAccountsModel" "made" "Z", .fieldLink RX12 83 "ClayAccountsModel" "mate" "[I", .methodLink RX12 295 yX12_isFragment, .instanceMethod yX12_isFragment, .selects RX12 yX12_isFragment yX12_isFragment, .initialized RX12, .code yX12_isFragment cX12_isFragment 2 (some .boolean), .fieldLink RX12 289 "ClayAccountsModel" "fragments" "I"] ++ wsX120)
def wsX12_count : List Cond := .code yX12_count cX12_count 2 (some .int) :: ([.fieldLink RX12 86 "ClayAccountsModel" "thrown" "I", .fieldLink RX12 201 "ClayAccountsModel" "systems" "I", .fieldLink RX12 204 "ClayAccountsModel" "tablets" "I", .fieldLink RX12 289 "ClayAccountsModel" "fragments" "I", .fieldLink RX12 310 "ClayAccountsModel" "sure" "I", .fieldLink RX12 90 "ClayAccountsModel" "taped" "I", .fieldLink RX12 214 "ClayAccountsModel" "outs" "I"] ++ wsX120)
def wsJ9_max_7cf53 : List Cond := .code yJ9_max_7cf53 cJ9_max_7cf53 2 (some .int) :: ([])
def wsJ9_max_f86c9 : List Cond := .code yJ9_max_f86c9 cJ9_max_f86c9 4 (some .long) :: ([])
def wsJ9_min_7cf53 : List Cond := .code yJ9_min_7cf53 cJ9_min_7cf53 2 (some .int) :: ([])
def wsJ9_min_f86c9 : List Cond := .code yJ9_min_f86c9 cJ9_min_f86c9 4 (some .long) :: ([])
abbrev vwCl : List vw_C := [(RX0, TX0, 4), (RX1, TX1, 7), (RX2, TX2, 6), (RX3, TX3, 5), (RX4, TX4, 7), (RX5, TX5, 7), (RX6, TX6, 8), (RX7, TX7, 2), (RX8, TX8, 11), (RX9, TX9, 7), (RX10, TX10, 3), (RX11, TX11, 16), (RX12, TX12, 51)]
end
section
set_option maxRecDepth 20000 in
theorem ggX0_init_X7_init : GoodIn wsX0_init wsX7_init := goodIn_r _ [10, 11, 2, 3, 12, 13, 14, 15, 16, 17, 18, 19, 20] (by decide +kernel) (by decide +kernel)
set_option maxRecDepth 20000 in
theorem gX0_init_X7_init : GoodIn wsX0_init (wsX7_init) := ggX0_init_X7_init
theorem dX0_init_0 : decode cX0_init 0 = .ok (.aload_n 0, 1) := by decide +kernel
theorem dX0_init_1 : decode cX0_init 1 = .ok (.invokespecial 3, 3) := by decide +kernel
theorem dX0_init_4 : decode cX0_init 4 = .ok (.aload_n 0, 1) := by decide +kernel
theorem dX0_init_5 : decode cX0_init 5 = .ok (.new 9, 3) := by decide +kernel
theorem dX0_init_8 : decode cX0_init 8 = .ok (.dup, 1) := by decide +kernel
theorem dX0_init_9 : decode cX0_init 9 = .ok (.sipush 200, 3) := by decide +kernel
theorem dX0_init_12 : decode cX0_init 12 = .ok (.invokespecial 11, 3) := by decide +kernel
theorem dX0_init_15 : decode cX0_init 15 = .ok (.putfield 14, 3) := by decide +kernel
theorem dX0_init_18 : decode cX0_init 18 = .ok (.return_, 1) := by decide +kernel
set_option maxRecDepth 20000 in
theorem ggX0_take_X7_clear : GoodIn wsX0_take wsX7_clear := goodIn_r _ [10, 11, 25, 26] (by decide +kernel) (by decide +kernel)
set_option maxRecDepth 20000 in
theorem gX0_take_X7_clear : GoodIn wsX0_take (wsV RX0 20 RX7 yX7_clear wsX7_clear) := goodIn_app (goodIn_of _ (by decide +kernel)) ggX0_take_X7_clear
set_option maxRecDepth 20000 in
theorem ggX0_take_X7_put : GoodIn wsX0_take wsX7_put := goodIn_r _ [20, 11, 16, 25, 26] (by decide +kernel) (by decide +kernel)
set_option maxRecDepth 20000 in
theorem gX0_take_X7_put : GoodIn wsX0_take (wsV RX0 34 RX7 yX7_put wsX7_put) := goodIn_app (goodIn_of _ (by decide +kernel)) ggX0_take_X7_put
theorem dX0_take_0 : decode cX0_take 0 = .ok (.aload_n 0, 1) := by decide +kernel
theorem dX0_take_1 : decode cX0_take 1 = .ok (.getfield 14, 3) := by decide +kernel
theorem dX0_take_4 : decode cX0_take 4 = .ok (.invokevirtual 20, 3) := by decide +kernel
theorem dX0_take_7 : decode cX0_take 7 = .ok (.aload_n 0, 1) := by decide +kernel
theorem dX0_take_8 : decode cX0_take 8 = .ok (.iconst 1, 1) := by decide +kernel
theorem dX0_take_9 : decode cX0_take 9 = .ok (.putfield 23, 3) := by decide +kernel
theorem dX0_take_12 : decode cX0_take 12 = .ok (.iconst 0, 1) := by decide +kernel
theorem dX0_take_13 : decode cX0_take 13 = .ok (.istore 4, 2) := by decide +kernel
theorem dX0_take_15 : decode cX0_take 15 = .ok (.iload 4, 2) := by decide +kernel
theorem dX0_take_17 : decode cX0_take 17 = .ok (.aload_n 1, 1) := by decide +kernel
theorem dX0_take_18 : decode cX0_take 18 = .ok (.getfield 27, 3) := by decide +kernel
theorem dX0_take_21 : decode cX0_take 21 = .ok (.if_icmp .ge 47, 3) := by decide +kernel
theorem dX0_take_24 : decode cX0_take 24 = .ok (.aload_n 1, 1) := by decide +kernel
theorem dX0_take_25 : decode cX0_take 25 = .ok (.iload 4, 2) := by decide +kernel
theorem dX0_take_27 : decode cX0_take 27 = .ok (.invokevirtual 30, 3) := by decide +kernel
theorem dX0_take_30 : decode cX0_take 30 = .ok (.istore 5, 2) := by decide +kernel
theorem dX0_take_32 : decode cX0_take 32 = .ok (.aload_n 0, 1) := by decide +kernel
theorem dX0_take_33 : decode cX0_take 33 = .ok (.getfield 14, 3) := by decide +kernel
theorem dX0_take_36 : decode cX0_take 36 = .ok (.iload 5, 2) := by decide +kernel
theorem dX0_take_38 : decode cX0_take 38 = .ok (.invokevirtual 34, 3) := by decide +kernel
theorem dX0_take_41 : decode cX0_take 41 = .ok (.aload_n 0, 1) := by decide +kernel
theorem dX0_take_42 : decode cX0_take 42 = .ok (.dup, 1) := by decide +kernel
theorem dX0_take_43 : decode cX0_take 43 = .ok (.getfield 23, 3) := by decide +kernel
theorem dX0_take_46 : decode cX0_take 46 = .ok (.iload 5, 2) := by decide +kernel
theorem dX0_take_48 : decode cX0_take 48 = .ok (.bipush 47, 2) := by decide +kernel
theorem dX0_take_50 : decode cX0_take 50 = .ok (.if_icmp .ne 7, 3) := by decide +kernel
theorem dX0_take_53 : decode cX0_take 53 = .ok (.iconst 1, 1) := by decide +kernel
theorem dX0_take_54 : decode cX0_take 54 = .ok (.goto 4, 3) := by decide +kernel
theorem dX0_take_57 : decode cX0_take 57 = .ok (.iconst 0, 1) := by decide +kernel
theorem dX0_take_58 : decode cX0_take 58 = .ok (.iadd, 1) := by decide +kernel
theorem dX0_take_59 : decode cX0_take 59 = .ok (.putfield 23, 3) := by decide +kernel
theorem dX0_take_62 : decode cX0_take 62 = .ok (.iinc 4 1, 3) := by decide +kernel
theorem dX0_take_65 : decode cX0_take 65 = .ok (.goto (-50), 3) := by decide +kernel
theorem dX0_take_68 : decode cX0_take 68 = .ok (.aload_n 0, 1) := by decide +kernel
theorem dX0_take_69 : decode cX0_take 69 = .ok (.iload_n 2, 1) := by decide +kernel
theorem dX0_take_70 : decode cX0_take 70 = .ok (.putfield 37, 3) := by decide +kernel
theorem dX0_take_73 : decode cX0_take 73 = .ok (.aload_n 0, 1) := by decide +kernel
theorem dX0_take_74 : decode cX0_take 74 = .ok (.iload_n 3, 1) := by decide +kernel
theorem dX0_take_75 : decode cX0_take 75 = .ok (.putfield 40, 3) := by decide +kernel
theorem dX0_take_78 : decode cX0_take 78 = .ok (.return_, 1) := by decide +kernel
theorem dX1_init_0 : decode cX1_init 0 = .ok (.aload_n 0, 1) := by decide +kernel
theorem dX1_init_1 : decode cX1_init 1 = .ok (.invokespecial 3, 3) := by decide +kernel
theorem dX1_init_4 : decode cX1_init 4 = .ok (.return_, 1) := by decide +kernel
theorem dX2_init_0 : decode cX2_init 0 = .ok (.aload_n 0, 1) := by decide +kernel
theorem dX2_init_1 : decode cX2_init 1 = .ok (.invokespecial 3, 3) := by decide +kernel
theorem dX2_init_4 : decode cX2_init 4 = .ok (.return_, 1) := by decide +kernel
set_option maxRecDepth 20000 in
theorem ggX3_init_J7_fill_53178 : GoodIn wsX3_init wsJ7_fill_53178 := goodIn_r _ [11] (by decide +kernel) (by decide +kernel)
set_option maxRecDepth 20000 in
theorem gX3_init_J7_fill_53178 : GoodIn wsX3_init (va_wsS RX3 21 yJ7_fill_53178 wsJ7_fill_53178) := goodIn_app (goodIn_of _ (by decide +kernel)) ggX3_init_J7_fill_53178
theorem dX3_init_0 : decode cX3_init 0 = .ok (.aload_n 0, 1) := by decide +kernel
theorem dX3_init_1 : decode cX3_init 1 = .ok (.invokespecial 3, 3) := by decide +kernel
theorem dX3_init_4 : decode cX3_init 4 = .ok (.aload_n 0, 1) := by decide +kernel
theorem dX3_init_5 : decode cX3_init 5 = .ok (.bipush 12, 2) := by decide +kernel
theorem dX3_init_7 : decode cX3_init 7 = .ok (.newarray .int, 2) := by decide +kernel
theorem dX3_init_9 : decode cX3_init 9 = .ok (.putfield 9, 3) := by decide +kernel
theorem dX3_init_12 : decode cX3_init 12 = .ok (.aload_n 0, 1) := by decide +kernel
theorem dX3_init_13 : decode cX3_init 13 = .ok (.sipush 144, 3) := by decide +kernel
theorem dX3_init_16 : decode cX3_init 16 = .ok (.newarray .int, 2) := by decide +kernel
theorem dX3_init_18 : decode cX3_init 18 = .ok (.putfield 15, 3) := by decide +kernel
theorem dX3_init_21 : decode cX3_init 21 = .ok (.aload_n 0, 1) := by decide +kernel
theorem dX3_init_22 : decode cX3_init 22 = .ok (.sipush 4096, 3) := by decide +kernel
theorem dX3_init_25 : decode cX3_init 25 = .ok (.newarray .int, 2) := by decide +kernel
theorem dX3_init_27 : decode cX3_init 27 = .ok (.putfield 18, 3) := by decide +kernel
theorem dX3_init_30 : decode cX3_init 30 = .ok (.aload_n 0, 1) := by decide +kernel
theorem dX3_init_31 : decode cX3_init 31 = .ok (.getfield 9, 3) := by decide +kernel
theorem dX3_init_34 : decode cX3_init 34 = .ok (.iconst (-1), 1) := by decide +kernel
theorem dX3_init_35 : decode cX3_init 35 = .ok (.invokestatic 21, 3) := by decide +kernel
theorem dX3_init_38 : decode cX3_init 38 = .ok (.return_, 1) := by decide +kernel
set_option maxRecDepth 20000 in
theorem ggX3_forget_J7_fill_53178 : GoodIn wsX3_forget wsJ7_fill_53178 := goodIn_r _ [7] (by decide +kernel) (by decide +kernel)
set_option maxRecDepth 20000 in
theorem gX3_forget_J7_fill_53178 : GoodIn wsX3_forget (va_wsS RX3 21 yJ7_fill_53178 wsJ7_fill_53178) := goodIn_app (goodIn_of _ (by decide +kernel)) ggX3_forget_J7_fill_53178
theorem dX3_forget_0 : decode cX3_forget 0 = .ok (.aload_n 0, 1) := by decide +kernel
theorem dX3_forget_1 : decode cX3_forget 1 = .ok (.getfield 9, 3) := by decide +kernel
theorem dX3_forget_4 : decode cX3_forget 4 = .ok (.iconst (-1), 1) := by decide +kernel
theorem dX3_forget_5 : decode cX3_forget 5 = .ok (.invokestatic 21, 3) := by decide +kernel
theorem dX3_forget_8 : decode cX3_forget 8 = .ok (.aload_n 0, 1) := by decide +kernel
theorem dX3_forget_9 : decode cX3_forget 9 = .ok (.iconst 0, 1) := by decide +kernel
theorem dX3_forget_10 : decode cX3_forget 10 = .ok (.putfield 27, 3) := by decide +kernel
theorem dX3_forget_13 : decode cX3_forget 13 = .ok (.aload_n 0, 1) := by decide +kernel
theorem dX3_forget_14 : decode cX3_forget 14 = .ok (.iconst 0, 1) := by decide +kernel
theorem dX3_forget_15 : decode cX3_forget 15 = .ok (.putfield 31, 3) := by decide +kernel
theorem dX3_forget_18 : decode cX3_forget 18 = .ok (.return_, 1) := by decide +kernel
set_option maxRecDepth 20000 in
theorem ggX3_pairUp_X3_forget : GoodIn wsX3_pairUp wsX3_forget := goodIn_r _ [10, 11, 12, 13, 14, 15, 16, 17, 30, 31, 32, 33, 34] (by decide +kernel) (by decide +kernel)
set_option maxRecDepth 20000 in
theorem gX3_pairUp_X3_forget : GoodIn wsX3_pairUp (wsV RX3 34 RX3 yX3_forget wsX3_forget) := goodIn_app (goodIn_of _ (by decide +kernel)) ggX3_pairUp_X3_forget
theorem dX3_pairUp_0 : decode cX3_pairUp 0 = .ok (.aload_n 0, 1) := by decide +kernel
theorem dX3_pairUp_1 : decode cX3_pairUp 1 = .ok (.invokevirtual 34, 3) := by decide +kernel
theorem dX3_pairUp_4 : decode cX3_pairUp 4 = .ok (.iload_n 1, 1) := by decide +kernel
theorem dX3_pairUp_5 : decode cX3_pairUp 5 = .ok (.bipush 12, 2) := by decide +kernel
theorem dX3_pairUp_7 : decode cX3_pairUp 7 = .ok (.invokestatic 37, 3) := by decide +kernel
theorem dX3_pairUp_10 : decode cX3_pairUp 10 = .ok (.istore_n 2, 1) := by decide +kernel
theorem dX3_pairUp_11 : decode cX3_pairUp 11 = .ok (.iconst 1, 1) := by decide +kernel
theorem dX3_pairUp_12 : decode cX3_pairUp 12 = .ok (.iload_n 2, 1) := by decide +kernel
theorem dX3_pairUp_13 : decode cX3_pairUp 13 = .ok (.ishl, 1) := by decide +kernel
theorem dX3_pairUp_14 : decode cX3_pairUp 14 = .ok (.istore_n 3, 1) := by decide +kernel
theorem dX3_pairUp_15 : decode cX3_pairUp 15 = .ok (.aload_n 0, 1) := by decide +kernel
theorem dX3_pairUp_16 : decode cX3_pairUp 16 = .ok (.getfield 18, 3) := by decide +kernel
theorem dX3_pairUp_19 : decode cX3_pairUp 19 = .ok (.iconst 0, 1) := by decide +kernel
theorem dX3_pairUp_20 : decode cX3_pairUp 20 = .ok (.iconst 0, 1) := by decide +kernel
theorem dX3_pairUp_21 : decode cX3_pairUp 21 = .ok (.iastore, 1) := by decide +kernel
theorem dX3_pairUp_22 : decode cX3_pairUp 22 = .ok (.iload_n 2, 1) := by decide +kernel
theorem dX3_pairUp_23 : decode cX3_pairUp 23 = .ok (.iconst 1, 1) := by decide +kernel
theorem dX3_pairUp_24 : decode cX3_pairUp 24 = .ok (.isub, 1) := by decide +kernel
theorem dX3_pairUp_25 : decode cX3_pairUp 25 = .ok (.istore 4, 2) := by decide +kernel
theorem dX3_pairUp_27 : decode cX3_pairUp 27 = .ok (.iload 4, 2) := by decide +kernel
theorem dX3_pairUp_29 : decode cX3_pairUp 29 = .ok (.ifCond .lt 49, 3) := by decide +kernel
theorem dX3_pairUp_32 : decode cX3_pairUp 32 = .ok (.iconst 1, 1) := by decide +kernel
theorem dX3_pairUp_33 : decode cX3_pairUp 33 = .ok (.iload 4, 2) := by decide +kernel
theorem dX3_pairUp_35 : decode cX3_pairUp 35 = .ok (.ishl, 1) := by decide +kernel
theorem dX3_pairUp_36 : decode cX3_pairUp 36 = .ok (.istore 5, 2) := by decide +kernel
theorem dX3_pairUp_38 : decode cX3_pairUp 38 = .ok (.iload 5, 2) := by decide +kernel
theorem dX3_pairUp_40 : decode cX3_pairUp 40 = .ok (.iload_n 3, 1) := by decide +kernel
theorem dX3_pairUp_41 : decode cX3_pairUp 41 = .ok (.if_icmp .ge 31, 3) := by decide +kernel
theorem dX3_pairUp_44 : decode cX3_pairUp 44 = .ok (.aload_n 0, 1) := by decide +kernel
theorem dX3_pairUp_45 : decode cX3_pairUp 45 = .ok (.getfield 18, 3) := by decide +kernel
theorem dX3_pairUp_48 : decode cX3_pairUp 48 = .ok (.iload 5, 2) := by decide +kernel
theorem dX3_pairUp_50 : decode cX3_pairUp 50 = .ok (.aload_n 0, 1) := by decide +kernel
theorem dX3_pairUp_51 : decode cX3_pairUp 51 = .ok (.iload 5, 2) := by decide +kernel
theorem dX3_pairUp_53 : decode cX3_pairUp 53 = .ok (.iload 4, 2) := by decide +kernel
theorem dX3_pairUp_55 : decode cX3_pairUp 55 = .ok (.iload_n 2, 1) := by decide +kernel
theorem dX3_pairUp_56 : decode cX3_pairUp 56 = .ok (.invokevirtual 43, 3) := by decide +kernel
theorem dX3_pairUp_59 : decode cX3_pairUp 59 = .ok (.iastore, 1) := by decide +kernel
theorem dX3_pairUp_60 : decode cX3_pairUp 60 = .ok (.iload 5, 2) := by decide +kernel
theorem dX3_pairUp_62 : decode cX3_pairUp 62 = .ok (.iconst 2, 1) := by decide +kernel
theorem dX3_pairUp_63 : decode cX3_pairUp 63 = .ok (.iload 4, 2) := by decide +kernel
theorem dX3_pairUp_65 : decode cX3_pairUp 65 = .ok (.ishl, 1) := by decide +kernel
theorem dX3_pairUp_66 : decode cX3_pairUp 66 = .ok (.iadd, 1) := by decide +kernel
theorem dX3_pairUp_67 : decode cX3_pairUp 67 = .ok (.istore 5, 2) := by decide +kernel
theorem dX3_pairUp_69 : decode cX3_pairUp 69 = .ok (.goto (-31), 3) := by decide +kernel
theorem dX3_pairUp_72 : decode cX3_pairUp 72 = .ok (.iinc 4 (-1), 3) := by decide +kernel
theorem dX3_pairUp_75 : decode cX3_pairUp 75 = .ok (.goto (-48), 3) := by decide +kernel
theorem dX3_pairUp_78 : decode cX3_pairUp 78 = .ok (.iload_n 3, 1) := by decide +kernel
theorem dX3_pairUp_79 : decode cX3_pairUp 79 = .ok (.iconst 1, 1) := by decide +kernel
theorem dX3_pairUp_80 : decode cX3_pairUp 80 = .ok (.isub, 1) := by decide +kernel
theorem dX3_pairUp_81 : decode cX3_pairUp 81 = .ok (.istore 4, 2) := by decide +kernel
theorem dX3_pairUp_83 : decode cX3_pairUp 83 = .ok (.iconst 0, 1) := by decide +kernel
theorem dX3_pairUp_84 : decode cX3_pairUp 84 = .ok (.istore 5, 2) := by decide +kernel
theorem dX3_pairUp_86 : decode cX3_pairUp 86 = .ok (.iload 5, 2) := by decide +kernel
theorem dX3_pairUp_88 : decode cX3_pairUp 88 = .ok (.iload_n 2, 1) := by decide +kernel
theorem dX3_pairUp_89 : decode cX3_pairUp 89 = .ok (.if_icmp .ge 30, 3) := by decide +kernel
theorem dX3_pairUp_92 : decode cX3_pairUp 92 = .ok (.iload 4, 2) := by decide +kernel
theorem dX3_pairUp_94 : decode cX3_pairUp 94 = .ok (.iload 5, 2) := by decide +kernel
theorem dX3_pairUp_96 : decode cX3_pairUp 96 = .ok (.ishr, 1) := by decide +kernel
theorem dX3_pairUp_97 : decode cX3_pairUp 97 = .ok (.iconst 1, 1) := by decide +kernel
theorem dX3_pairUp_98 : decode cX3_pairUp 98 = .ok (.iand, 1) := by decide +kernel
theorem dX3_pairUp_99 : decode cX3_pairUp 99 = .ok (.ifCond .eq 14, 3) := by decide +kernel
theorem dX3_pairUp_102 : decode cX3_pairUp 102 = .ok (.aload_n 0, 1) := by decide +kernel
theorem dX3_pairUp_103 : decode cX3_pairUp 103 = .ok (.iload 4, 2) := by decide +kernel
theorem dX3_pairUp_105 : decode cX3_pairUp 105 = .ok (.iload 5, 2) := by decide +kernel
theorem dX3_pairUp_107 : decode cX3_pairUp 107 = .ok (.iload_n 2, 1) := by decide +kernel
theorem dX3_pairUp_108 : decode cX3_pairUp 108 = .ok (.invokevirtual 47, 3) := by decide +kernel
theorem dX3_pairUp_111 : decode cX3_pairUp 111 = .ok (.istore 4, 2) := by decide +kernel
theorem dX3_pairUp_113 : decode cX3_pairUp 113 = .ok (.iinc 5 1, 3) := by decide +kernel
theorem dX3_pairUp_116 : decode cX3_pairUp 116 = .ok (.goto (-30), 3) := by decide +kernel
theorem dX3_pairUp_119 : decode cX3_pairUp 119 = .ok (.return_, 1) := by decide +kernel
theorem dX4_init_0 : decode cX4_init 0 = .ok (.aload_n 0, 1) := by decide +kernel
theorem dX4_init_1 : decode cX4_init 1 = .ok (.invokespecial 3, 3) := by decide +kernel
theorem dX4_init_4 : decode cX4_init 4 = .ok (.aload_n 0, 1) := by decide +kernel
theorem dX4_init_5 : decode cX4_init 5 = .ok (.iconst 5, 1) := by decide +kernel
theorem dX4_init_6 : decode cX4_init 6 = .ok (.bipush 12, 2) := by decide +kernel
theorem dX4_init_8 : decode cX4_init 8 = .ok (.multianewarray 9 2, 4) := by decide +kernel
theorem dX4_init_12 : decode cX4_init 12 = .ok (.putfield 11, 3) := by decide +kernel
theorem dX4_init_15 : decode cX4_init 15 = .ok (.aload_n 0, 1) := by decide +kernel
theorem dX4_init_16 : decode cX4_init 16 = .ok (.iconst 4, 1) := by decide +kernel
theorem dX4_init_17 : decode cX4_init 17 = .ok (.bipush 12, 2) := by decide +kernel
theorem dX4_init_19 : decode cX4_init 19 = .ok (.multianewarray 9 2, 4) := by decide +kernel
theorem dX4_init_23 : decode cX4_init 23 = .ok (.putfield 16, 3) := by decide +kernel
theorem dX4_init_26 : decode cX4_init 26 = .ok (.aload_n 0, 1) := by decide +kernel
theorem dX4_init_27 : decode cX4_init 27 = .ok (.iconst 5, 1) := by decide +kernel
theorem dX4_init_28 : decode cX4_init 28 = .ok (.bipush 12, 2) := by decide +kernel
theorem dX4_init_30 : decode cX4_init 30 = .ok (.multianewarray 9 2, 4) := by decide +kernel
theorem dX4_init_34 : decode cX4_init 34 = .ok (.putfield 19, 3) := by decide +kernel
theorem dX4_init_37 : decode cX4_init 37 = .ok (.aload_n 0, 1) := by decide +kernel
theorem dX4_init_38 : decode cX4_init 38 = .ok (.iconst 5, 1) := by decide +kernel
theorem dX4_init_39 : decode cX4_init 39 = .ok (.bipush 12, 2) := by decide +kernel
theorem dX4_init_41 : decode cX4_init 41 = .ok (.multianewarray 9 2, 4) := by decide +kernel
theorem dX4_init_45 : decode cX4_init 45 = .ok (.putfield 22, 3) := by decide +kernel
theorem dX4_init_48 : decode cX4_init 48 = .ok (.aload_n 0, 1) := by decide +kernel
theorem dX4_init_49 : decode cX4_init 49 = .ok (.iconst 4, 1) := by decide +kernel
theorem dX4_init_50 : decode cX4_init 50 = .ok (.newarray .int, 2) := by decide +kernel
theorem dX4_init_52 : decode cX4_init 52 = .ok (.putfield 25, 3) := by decide +kernel
theorem dX4_init_55 : decode cX4_init 55 = .ok (.return_, 1) := by decide +kernel
set_option maxRecDepth 20000 in
theorem ggX5_init_X2_init : GoodIn wsX5_init wsX2_init := goodIn_r _ [13, 14, 2, 3] (by decide +kernel) (by decide +kernel)
set_option maxRecDepth 20000 in
theorem gX5_init_X2_init_n23 : GoodIn wsX5_init (wsX2_init) := ggX5_init_X2_init
set_option maxRecDepth 20000 in
theorem ggX5_init_X1_init : GoodIn wsX5_init wsX1_init := goodIn_r _ [16, 17, 2, 3] (by decide +kernel) (by decide +kernel)
set_option maxRecDepth 20000 in
theorem gX5_init_X1_init_n24 : GoodIn wsX5_init (wsX1_init) := ggX5_init_X1_init
theorem dX5_init_0 : decode cX5_init 0 = .ok (.aload_n 0, 1) := by decide +kernel
theorem dX5_init_1 : decode cX5_init 1 = .ok (.invokespecial 3, 3) := by decide +kernel
theorem dX5_init_4 : decode cX5_init 4 = .ok (.aload_n 0, 1) := by decide +kernel
theorem dX5_init_5 : decode cX5_init 5 = .ok (.bipush 12, 2) := by decide +kernel
theorem dX5_init_7 : decode cX5_init 7 = .ok (.anewarray 9, 3) := by decide +kernel
theorem dX5_init_10 : decode cX5_init 10 = .ok (.putfield 11, 3) := by decide +kernel
theorem dX5_init_13 : decode cX5_init 13 = .ok (.aload_n 0, 1) := by decide +kernel
theorem dX5_init_14 : decode cX5_init 14 = .ok (.iconst 4, 1) := by decide +kernel
theorem dX5_init_15 : decode cX5_init 15 = .ok (.anewarray 17, 3) := by decide +kernel
theorem dX5_init_18 : decode cX5_init 18 = .ok (.putfield 19, 3) := by decide +kernel
theorem dX5_init_21 : decode cX5_init 21 = .ok (.iconst 0, 1) := by decide +kernel
theorem dX5_init_22 : decode cX5_init 22 = .ok (.istore_n 1, 1) := by decide +kernel
theorem dX5_init_23 : decode cX5_init 23 = .ok (.iload_n 1, 1) := by decide +kernel
theorem dX5_init_24 : decode cX5_init 24 = .ok (.bipush 12, 2) := by decide +kernel
theorem dX5_init_26 : decode cX5_init 26 = .ok (.if_icmp .ge 22, 3) := by decide +kernel
theorem dX5_init_29 : decode cX5_init 29 = .ok (.aload_n 0, 1) := by decide +kernel
theorem dX5_init_30 : decode cX5_init 30 = .ok (.getfield 11, 3) := by decide +kernel
theorem dX5_init_33 : decode cX5_init 33 = .ok (.iload_n 1, 1) := by decide +kernel
theorem dX5_init_34 : decode cX5_init 34 = .ok (.new 9, 3) := by decide +kernel
theorem dX5_init_37 : decode cX5_init 37 = .ok (.dup, 1) := by decide +kernel
theorem dX5_init_38 : decode cX5_init 38 = .ok (.invokespecial 23, 3) := by decide +kernel
theorem dX5_init_41 : decode cX5_init 41 = .ok (.aastore, 1) := by decide +kernel
theorem dX5_init_42 : decode cX5_init 42 = .ok (.iinc 1 1, 3) := by decide +kernel
theorem dX5_init_45 : decode cX5_init 45 = .ok (.goto (-22), 3) := by decide +kernel
theorem dX5_init_48 : decode cX5_init 48 = .ok (.iconst 0, 1) := by decide +kernel
theorem dX5_init_49 : decode cX5_init 49 = .ok (.istore_n 1, 1) := by decide +kernel
theorem dX5_init_50 : decode cX5_init 50 = .ok (.iload_n 1, 1) := by decide +kernel
theorem dX5_init_51 : decode cX5_init 51 = .ok (.iconst 4, 1) := by decide +kernel
theorem dX5_init_52 : decode cX5_init 52 = .ok (.if_icmp .ge 22, 3) := by decide +kernel
theorem dX5_init_55 : decode cX5_init 55 = .ok (.aload_n 0, 1) := by decide +kernel
theorem dX5_init_56 : decode cX5_init 56 = .ok (.getfield 19, 3) := by decide +kernel
theorem dX5_init_59 : decode cX5_init 59 = .ok (.iload_n 1, 1) := by decide +kernel
theorem dX5_init_60 : decode cX5_init 60 = .ok (.new 17, 3) := by decide +kernel
theorem dX5_init_63 : decode cX5_init 63 = .ok (.dup, 1) := by decide +kernel
theorem dX5_init_64 : decode cX5_init 64 = .ok (.invokespecial 24, 3) := by decide +kernel
theorem dX5_init_67 : decode cX5_init 67 = .ok (.aastore, 1) := by decide +kernel
theorem dX5_init_68 : decode cX5_init 68 = .ok (.iinc 1 1, 3) := by decide +kernel
theorem dX5_init_71 : decode cX5_init 71 = .ok (.goto (-21), 3) := by decide +kernel
theorem dX5_init_74 : decode cX5_init 74 = .ok (.return_, 1) := by decide +kernel
set_option maxRecDepth 20000 in
theorem ggX6_init_X8_init : GoodIn wsX6_init wsX8_init := goodIn_r _ [9, 10, 2, 3, 11, 12, 13, 14, 15, 16, 17, 18, 19, 20, 21, 22, 23, 24, 25, 45, 46, 26, 27, 28, 29, 30, 31, 32, 33, 34, 35, 36] (by decide +kernel) (by decide +kernel)
set_option maxRecDepth 20000 in
theorem gX6_init_X8_init_n11 : GoodIn wsX6_init (wsX8_init) := ggX6_init_X8_init
theorem dX6_init_0 : decode cX6_init 0 = .ok (.aload_n 0, 1) := by decide +kernel
theorem dX6_init_1 : decode cX6_init 1 = .ok (.invokespecial 3, 3) := by decide +kernel
theorem dX6_init_4 : decode cX6_init 4 = .ok (.aload_n 0, 1) := by decide +kernel
theorem dX6_init_5 : decode cX6_init 5 = .ok (.new 9, 3) := by decide +kernel
theorem dX6_init_8 : decode cX6_init 8 = .ok (.dup, 1) := by decide +kernel
theorem dX6_init_9 : decode cX6_init 9 = .ok (.invokespecial 11, 3) := by decide +kernel
theorem dX6_init_12 : decode cX6_init 12 = .ok (.putfield 12, 3) := by decide +kernel
theorem dX6_init_15 : decode cX6_init 15 = .ok (.return_, 1) := by decide +kernel
theorem dX7_init_0 : decode cX7_init 0 = .ok (.aload_n 0, 1) := by decide +kernel
theorem dX7_init_1 : decode cX7_init 1 = .ok (.invokespecial 3, 3) := by decide +kernel
theorem dX7_init_4 : decode cX7_init 4 = .ok (.aload_n 0, 1) := by decide +kernel
theorem dX7_init_5 : decode cX7_init 5 = .ok (.iconst 0, 1) := by decide +kernel
theorem dX7_init_6 : decode cX7_init 6 = .ok (.iload_n 1, 1) := by decide +kernel
theorem dX7_init_7 : decode cX7_init 7 = .ok (.invokestatic 9, 3) := by decide +kernel
theorem dX7_init_10 : decode cX7_init 10 = .ok (.newarray .byte, 2) := by decide +kernel
theorem dX7_init_12 : decode cX7_init 12 = .ok (.putfield 15, 3) := by decide +kernel
theorem dX7_init_15 : decode cX7_init 15 = .ok (.aload_n 0, 1) := by decide +kernel
theorem dX7_init_16 : decode cX7_init 16 = .ok (.iconst 0, 1) := by decide +kernel
theorem dX7_init_17 : decode cX7_init 17 = .ok (.putfield 21, 3) := by decide +kernel
theorem dX7_init_20 : decode cX7_init 20 = .ok (.return_, 1) := by decide +kernel
theorem dX7_clear_0 : decode cX7_clear 0 = .ok (.aload_n 0, 1) := by decide +kernel
theorem dX7_clear_1 : decode cX7_clear 1 = .ok (.iconst 0, 1) := by decide +kernel
theorem dX7_clear_2 : decode cX7_clear 2 = .ok (.putfield 21, 3) := by decide +kernel
theorem dX7_clear_5 : decode cX7_clear 5 = .ok (.return_, 1) := by decide +kernel
theorem dX7_put_0 : decode cX7_put 0 = .ok (.aload_n 0, 1) := by decide +kernel
theorem dX7_put_1 : decode cX7_put 1 = .ok (.getfield 21, 3) := by decide +kernel
theorem dX7_put_4 : decode cX7_put 4 = .ok (.aload_n 0, 1) := by decide +kernel
theorem dX7_put_5 : decode cX7_put 5 = .ok (.getfield 15, 3) := by decide +kernel
theorem dX7_put_8 : decode cX7_put 8 = .ok (.arraylength, 1) := by decide +kernel
theorem dX7_put_9 : decode cX7_put 9 = .ok (.if_icmp .ge 24, 3) := by decide +kernel
theorem dX7_put_12 : decode cX7_put 12 = .ok (.aload_n 0, 1) := by decide +kernel
theorem dX7_put_13 : decode cX7_put 13 = .ok (.getfield 15, 3) := by decide +kernel
theorem dX7_put_16 : decode cX7_put 16 = .ok (.aload_n 0, 1) := by decide +kernel
theorem dX7_put_17 : decode cX7_put 17 = .ok (.getfield 21, 3) := by decide +kernel
theorem dX7_put_20 : decode cX7_put 20 = .ok (.iload_n 1, 1) := by decide +kernel
theorem dX7_put_21 : decode cX7_put 21 = .ok (.i2b, 1) := by decide +kernel
theorem dX7_put_22 : decode cX7_put 22 = .ok (.bastore, 1) := by decide +kernel
theorem dX7_put_23 : decode cX7_put 23 = .ok (.aload_n 0, 1) := by decide +kernel
theorem dX7_put_24 : decode cX7_put 24 = .ok (.dup, 1) := by decide +kernel
theorem dX7_put_25 : decode cX7_put 25 = .ok (.getfield 21, 3) := by decide +kernel
theorem dX7_put_28 : decode cX7_put 28 = .ok (.iconst 1, 1) := by decide +kernel
theorem dX7_put_29 : decode cX7_put 29 = .ok (.iadd, 1) := by decide +kernel
theorem dX7_put_30 : decode cX7_put 30 = .ok (.putfield 21, 3) := by decide +kernel
theorem dX7_put_33 : decode cX7_put 33 = .ok (.return_, 1) := by decide +kernel
set_option maxRecDepth 20000 in
theorem ggX7_putFour_X7_put : GoodIn wsX7_putFour wsX7_put := goodIn_r _ [5, 6, 7, 8, 9] (by decide +kernel) (by decide +kernel)
set_option maxRecDepth 20000 in
theorem gX7_putFour_X7_put : GoodIn wsX7_putFour (wsV RX7 25 RX7 yX7_put wsX7_put) := goodIn_app (goodIn_of _ (by decide +kernel)) ggX7_putFour_X7_put
theorem dX7_putFour_0 : decode cX7_putFour 0 = .ok (.aload_n 0, 1) := by decide +kernel
theorem dX7_putFour_1 : decode cX7_putFour 1 = .ok (.iload_n 1, 1) := by decide +kernel
theorem dX7_putFour_2 : decode cX7_putFour 2 = .ok (.bipush 24, 2) := by decide +kernel
theorem dX7_putFour_4 : decode cX7_putFour 4 = .ok (.iushr, 1) := by decide +kernel
theorem dX7_putFour_5 : decode cX7_putFour 5 = .ok (.invokevirtual 25, 3) := by decide +kernel
theorem dX7_putFour_8 : decode cX7_putFour 8 = .ok (.aload_n 0, 1) := by decide +kernel
theorem dX7_putFour_9 : decode cX7_putFour 9 = .ok (.iload_n 1, 1) := by decide +kernel
theorem dX7_putFour_10 : decode cX7_putFour 10 = .ok (.bipush 16, 2) := by decide +kernel
theorem dX7_putFour_12 : decode cX7_putFour 12 = .ok (.iushr, 1) := by decide +kernel
theorem dX7_putFour_13 : decode cX7_putFour 13 = .ok (.invokevirtual 25, 3) := by decide +kernel
theorem dX7_putFour_16 : decode cX7_putFour 16 = .ok (.aload_n 0, 1) := by decide +kernel
theorem dX7_putFour_17 : decode cX7_putFour 17 = .ok (.iload_n 1, 1) := by decide +kernel
theorem dX7_putFour_18 : decode cX7_putFour 18 = .ok (.bipush 8, 2) := by decide +kernel
theorem dX7_putFour_20 : decode cX7_putFour 20 = .ok (.iushr, 1) := by decide +kernel
theorem dX7_putFour_21 : decode cX7_putFour 21 = .ok (.invokevirtual 25, 3) := by decide +kernel
theorem dX7_putFour_24 : decode cX7_putFour 24 = .ok (.aload_n 0, 1) := by decide +kernel
theorem dX7_putFour_25 : decode cX7_putFour 25 = .ok (.iload_n 1, 1) := by decide +kernel
theorem dX7_putFour_26 : decode cX7_putFour 26 = .ok (.invokevirtual 25, 3) := by decide +kernel
theorem dX7_putFour_29 : decode cX7_putFour 29 = .ok (.return_, 1) := by decide +kernel
set_option maxRecDepth 20000 in
theorem ggX8_init_X7_init : GoodIn wsX8_init wsX7_init := goodIn_r _ [10, 11, 2, 3, 12, 13, 14, 15, 16, 17, 18, 19, 20] (by decide +kernel) (by decide +kernel)
set_option maxRecDepth 20000 in
theorem gX8_init_X7_init : GoodIn wsX8_init (wsX7_init) := ggX8_init_X7_init
theorem dX8_init_0 : decode cX8_init 0 = .ok (.aload_n 0, 1) := by decide +kernel
theorem dX8_init_1 : decode cX8_init 1 = .ok (.invokespecial 3, 3) := by decide +kernel
theorem dX8_init_4 : decode cX8_init 4 = .ok (.aload_n 0, 1) := by decide +kernel
theorem dX8_init_5 : decode cX8_init 5 = .ok (.new 9, 3) := by decide +kernel
theorem dX8_init_8 : decode cX8_init 8 = .ok (.dup, 1) := by decide +kernel
theorem dX8_init_9 : decode cX8_init 9 = .ok (.iconst 0, 1) := by decide +kernel
theorem dX8_init_10 : decode cX8_init 10 = .ok (.invokespecial 11, 3) := by decide +kernel
theorem dX8_init_13 : decode cX8_init 13 = .ok (.putfield 14, 3) := by decide +kernel
theorem dX8_init_16 : decode cX8_init 16 = .ok (.return_, 1) := by decide +kernel
theorem dX8_begin_0 : decode cX8_begin 0 = .ok (.aload_n 0, 1) := by decide +kernel
theorem dX8_begin_1 : decode cX8_begin 1 = .ok (.aload_n 1, 1) := by decide +kernel
theorem dX8_begin_2 : decode cX8_begin 2 = .ok (.putfield 14, 3) := by decide +kernel
theorem dX8_begin_5 : decode cX8_begin 5 = .ok (.aload_n 0, 1) := by decide +kernel
theorem dX8_begin_6 : decode cX8_begin 6 = .ok (.iload_n 2, 1) := by decide +kernel
theorem dX8_begin_7 : decode cX8_begin 7 = .ok (.putfield 20, 3) := by decide +kernel
theorem dX8_begin_10 : decode cX8_begin 10 = .ok (.aload_n 0, 1) := by decide +kernel
theorem dX8_begin_11 : decode cX8_begin 11 = .ok (.iload_n 3, 1) := by decide +kernel
theorem dX8_begin_12 : decode cX8_begin 12 = .ok (.putfield 24, 3) := by decide +kernel
theorem dX8_begin_15 : decode cX8_begin 15 = .ok (.aload_n 0, 1) := by decide +kernel
theorem dX8_begin_16 : decode cX8_begin 16 = .ok (.iconst 0, 1) := by decide +kernel
theorem dX8_begin_17 : decode cX8_begin 17 = .ok (.putfield 28, 3) := by decide +kernel
theorem dX8_begin_20 : decode cX8_begin 20 = .ok (.aload_n 0, 1) := by decide +kernel
theorem dX8_begin_21 : decode cX8_begin 21 = .ok (.iconst 0, 1) := by decide +kernel
theorem dX8_begin_22 : decode cX8_begin 22 = .ok (.putfield 31, 3) := by decide +kernel
theorem dX8_begin_25 : decode cX8_begin 25 = .ok (.aload_n 0, 1) := by decide +kernel
theorem dX8_begin_26 : decode cX8_begin 26 = .ok (.iconst 0, 1) := by decide +kernel
theorem dX8_begin_27 : decode cX8_begin 27 = .ok (.putfield 34, 3) := by decide +kernel
theorem dX8_begin_30 : decode cX8_begin 30 = .ok (.return_, 1) := by decide +kernel
theorem dX8_refuse_0 : decode cX8_refuse 0 = .ok (.aload_n 0, 1) := by decide +kernel
theorem dX8_refuse_1 : decode cX8_refuse 1 = .ok (.iload_n 1, 1) := by decide +kernel
theorem dX8_refuse_2 : decode cX8_refuse 2 = .ok (.putfield 31, 3) := by decide +kernel
theorem dX8_refuse_5 : decode cX8_refuse 5 = .ok (.aload_n 0, 1) := by decide +kernel
theorem dX8_refuse_6 : decode cX8_refuse 6 = .ok (.iload_n 2, 1) := by decide +kernel
theorem dX8_refuse_7 : decode cX8_refuse 7 = .ok (.putfield 34, 3) := by decide +kernel
theorem dX8_refuse_10 : decode cX8_refuse 10 = .ok (.iconst 0, 1) := by decide +kernel
theorem dX8_refuse_11 : decode cX8_refuse 11 = .ok (.ireturn, 1) := by decide +kernel
set_option maxRecDepth 20000 in
theorem ggX8_endsWell_X8_refuse : GoodIn wsX8_endsWell wsX8_refuse := goodIn_r _ [9, 10, 11, 12, 13, 14, 15, 16, 17, 18, 19, 20, 21, 22] (by decide +kernel) (by decide +kernel)
set_option maxRecDepth 20000 in
theorem gX8_endsWell_X8_refuse : GoodIn wsX8_endsWell (wsV RX8 46 RX8 yX8_refuse wsX8_refuse) := goodIn_app (goodIn_of _ (by decide +kernel)) ggX8_endsWell_X8_refuse
theorem dX8_endsWell_0 : decode cX8_endsWell 0 = .ok (.iload_n 1, 1) := by decide +kernel
theorem dX8_endsWell_1 : decode cX8_endsWell 1 = .ok (.ifCond .le 17, 3) := by decide +kernel
theorem dX8_endsWell_4 : decode cX8_endsWell 4 = .ok (.aload_n 0, 1) := by decide +kernel
theorem dX8_endsWell_5 : decode cX8_endsWell 5 = .ok (.getfield 14, 3) := by decide +kernel
theorem dX8_endsWell_8 : decode cX8_endsWell 8 = .ok (.getfield 43, 3) := by decide +kernel
theorem dX8_endsWell_11 : decode cX8_endsWell 11 = .ok (.aload_n 0, 1) := by decide +kernel
theorem dX8_endsWell_12 : decode cX8_endsWell 12 = .ok (.getfield 20, 3) := by decide +kernel
theorem dX8_endsWell_15 : decode cX8_endsWell 15 = .ok (.if_icmp .le 15, 3) := by decide +kernel
theorem dX8_endsWell_18 : decode cX8_endsWell 18 = .ok (.aload_n 0, 1) := by decide +kernel
theorem dX8_endsWell_19 : decode cX8_endsWell 19 = .ok (.iconst 1, 1) := by decide +kernel
theorem dX8_endsWell_20 : decode cX8_endsWell 20 = .ok (.aload_n 0, 1) := by decide +kernel
theorem dX8_endsWell_21 : decode cX8_endsWell 21 = .ok (.getfield 40, 3) := by decide +kernel
theorem dX8_endsWell_24 : decode cX8_endsWell 24 = .ok (.invokevirtual 46, 3) := by decide +kernel
theorem dX8_endsWell_27 : decode cX8_endsWell 27 = .ok (.ifCond .eq 7, 3) := by decide +kernel
theorem dX8_endsWell_30 : decode cX8_endsWell 30 = .ok (.iconst 1, 1) := by decide +kernel
theorem dX8_endsWell_31 : decode cX8_endsWell 31 = .ok (.goto 4, 3) := by decide +kernel
theorem dX8_endsWell_34 : decode cX8_endsWell 34 = .ok (.iconst 0, 1) := by decide +kernel
theorem dX8_endsWell_35 : decode cX8_endsWell 35 = .ok (.ireturn, 1) := by decide +kernel
theorem dX8_advance_0 : decode cX8_advance 0 = .ok (.aload_n 0, 1) := by decide +kernel
theorem dX8_advance_1 : decode cX8_advance 1 = .ok (.getfield 14, 3) := by decide +kernel
theorem dX8_advance_4 : decode cX8_advance 4 = .ok (.getfield 43, 3) := by decide +kernel
theorem dX8_advance_7 : decode cX8_advance 7 = .ok (.aload_n 0, 1) := by decide +kernel
theorem dX8_advance_8 : decode cX8_advance 8 = .ok (.getfield 20, 3) := by decide +kernel
theorem dX8_advance_11 : decode cX8_advance 11 = .ok (.invokestatic 50, 3) := by decide +kernel
theorem dX8_advance_14 : decode cX8_advance 14 = .ok (.istore_n 1, 1) := by decide +kernel
theorem dX8_advance_15 : decode cX8_advance 15 = .ok (.aload_n 0, 1) := by decide +kernel
theorem dX8_advance_16 : decode cX8_advance 16 = .ok (.getfield 28, 3) := by decide +kernel
theorem dX8_advance_19 : decode cX8_advance 19 = .ok (.iload_n 1, 1) := by decide +kernel
theorem dX8_advance_20 : decode cX8_advance 20 = .ok (.if_icmp .ge 33, 3) := by decide +kernel
theorem dX8_advance_23 : decode cX8_advance 23 = .ok (.aload_n 0, 1) := by decide +kernel
theorem dX8_advance_24 : decode cX8_advance 24 = .ok (.getfield 14, 3) := by decide +kernel
theorem dX8_advance_27 : decode cX8_advance 27 = .ok (.aload_n 0, 1) := by decide +kernel
theorem dX8_advance_28 : decode cX8_advance 28 = .ok (.getfield 28, 3) := by decide +kernel
theorem dX8_advance_31 : decode cX8_advance 31 = .ok (.invokevirtual 56, 3) := by decide +kernel
theorem dX8_advance_34 : decode cX8_advance 34 = .ok (.invokestatic 60, 3) := by decide +kernel
theorem dX8_advance_37 : decode cX8_advance 37 = .ok (.ifCond .eq 16, 3) := by decide +kernel
theorem dX8_advance_40 : decode cX8_advance 40 = .ok (.aload_n 0, 1) := by decide +kernel
theorem dX8_advance_41 : decode cX8_advance 41 = .ok (.dup, 1) := by decide +kernel
theorem dX8_advance_42 : decode cX8_advance 42 = .ok (.getfield 28, 3) := by decide +kernel
theorem dX8_advance_45 : decode cX8_advance 45 = .ok (.iconst 1, 1) := by decide +kernel
theorem dX8_advance_46 : decode cX8_advance 46 = .ok (.iadd, 1) := by decide +kernel
theorem dX8_advance_47 : decode cX8_advance 47 = .ok (.putfield 28, 3) := by decide +kernel
theorem dX8_advance_50 : decode cX8_advance 50 = .ok (.goto (-35), 3) := by decide +kernel
theorem dX8_advance_53 : decode cX8_advance 53 = .ok (.aload_n 0, 1) := by decide +kernel
theorem dX8_advance_54 : decode cX8_advance 54 = .ok (.getfield 28, 3) := by decide +kernel
theorem dX8_advance_57 : decode cX8_advance 57 = .ok (.iload_n 1, 1) := by decide +kernel
theorem dX8_advance_58 : decode cX8_advance 58 = .ok (.if_icmp .lt 14, 3) := by decide +kernel
theorem dX8_advance_61 : decode cX8_advance 61 = .ok (.aload_n 0, 1) := by decide +kernel
theorem dX8_advance_62 : decode cX8_advance 62 = .ok (.iconst 0, 1) := by decide +kernel
theorem dX8_advance_63 : decode cX8_advance 63 = .ok (.putfield 37, 3) := by decide +kernel
theorem dX8_advance_66 : decode cX8_advance 66 = .ok (.aload_n 0, 1) := by decide +kernel
theorem dX8_advance_67 : decode cX8_advance 67 = .ok (.iload_n 1, 1) := by decide +kernel
theorem dX8_advance_68 : decode cX8_advance 68 = .ok (.putfield 40, 3) := by decide +kernel
theorem dX8_advance_71 : decode cX8_advance 71 = .ok (.return_, 1) := by decide +kernel
theorem dX8_advance_72 : decode cX8_advance 72 = .ok (.aload_n 0, 1) := by decide +kernel
theorem dX8_advance_73 : decode cX8_advance 73 = .ok (.aload_n 0, 1) := by decide +kernel
theorem dX8_advance_74 : decode cX8_advance 74 = .ok (.getfield 28, 3) := by decide +kernel
theorem dX8_advance_77 : decode cX8_advance 77 = .ok (.putfield 40, 3) := by decide +kernel
theorem dX8_advance_80 : decode cX8_advance 80 = .ok (.aload_n 0, 1) := by decide +kernel
theorem dX8_advance_81 : decode cX8_advance 81 = .ok (.getfield 14, 3) := by decide +kernel
theorem dX8_advance_84 : decode cX8_advance 84 = .ok (.aload_n 0, 1) := by decide +kernel
theorem dX8_advance_85 : decode cX8_advance 85 = .ok (.getfield 28, 3) := by decide +kernel
theorem dX8_advance_88 : decode cX8_advance 88 = .ok (.invokevirtual 56, 3) := by decide +kernel
theorem dX8_advance_91 : decode cX8_advance 91 = .ok (.istore_n 2, 1) := by decide +kernel
theorem dX8_advance_92 : decode cX8_advance 92 = .ok (.iload_n 2, 1) := by decide +kernel
theorem dX8_advance_93 : decode cX8_advance 93 = .ok (.invokestatic 64, 3) := by decide +kernel
theorem dX8_advance_96 : decode cX8_advance 96 = .ok (.ifCond .eq 10, 3) := by decide +kernel
theorem dX8_advance_99 : decode cX8_advance 99 = .ok (.aload_n 0, 1) := by decide +kernel
theorem dX8_advance_100 : decode cX8_advance 100 = .ok (.invokevirtual 67, 3) := by decide +kernel
theorem dX8_advance_103 : decode cX8_advance 103 = .ok (.goto 23, 3) := by decide +kernel
theorem dX8_advance_106 : decode cX8_advance 106 = .ok (.aload_n 0, 1) := by decide +kernel
theorem dX8_advance_107 : decode cX8_advance 107 = .ok (.iload_n 2, 1) := by decide +kernel
theorem dX8_advance_108 : decode cX8_advance 108 = .ok (.invokevirtual 70, 3) := by decide +kernel
theorem dX8_advance_111 : decode cX8_advance 111 = .ok (.ifCond .eq 10, 3) := by decide +kernel
theorem dX8_advance_114 : decode cX8_advance 114 = .ok (.aload_n 0, 1) := by decide +kernel
theorem dX8_advance_115 : decode cX8_advance 115 = .ok (.invokevirtual 73, 3) := by decide +kernel
theorem dX8_advance_118 : decode cX8_advance 118 = .ok (.goto 8, 3) := by decide +kernel
theorem dX8_advance_121 : decode cX8_advance 121 = .ok (.aload_n 0, 1) := by decide +kernel
theorem dX8_advance_122 : decode cX8_advance 122 = .ok (.iload_n 2, 1) := by decide +kernel
theorem dX8_advance_123 : decode cX8_advance 123 = .ok (.invokevirtual 76, 3) := by decide +kernel
theorem dX8_advance_126 : decode cX8_advance 126 = .ok (.return_, 1) := by decide +kernel
theorem dX9_init_0 : decode cX9_init 0 = .ok (.aload_n 0, 1) := by decide +kernel
theorem dX9_init_1 : decode cX9_init 1 = .ok (.invokespecial 3, 3) := by decide +kernel
theorem dX9_init_4 : decode cX9_init 4 = .ok (.aload_n 0, 1) := by decide +kernel
theorem dX9_init_5 : decode cX9_init 5 = .ok (.iconst 3, 1) := by decide +kernel
theorem dX9_init_6 : decode cX9_init 6 = .ok (.newarray .long, 2) := by decide +kernel
theorem dX9_init_8 : decode cX9_init 8 = .ok (.putfield 9, 3) := by decide +kernel
theorem dX9_init_11 : decode cX9_init 11 = .ok (.aload_n 0, 1) := by decide +kernel
theorem dX9_init_12 : decode cX9_init 12 = .ok (.iconst 3, 1) := by decide +kernel
theorem dX9_init_13 : decode cX9_init 13 = .ok (.newarray .int, 2) := by decide +kernel
theorem dX9_init_15 : decode cX9_init 15 = .ok (.putfield 15, 3) := by decide +kernel
theorem dX9_init_18 : decode cX9_init 18 = .ok (.aload_n 0, 1) := by decide +kernel
theorem dX9_init_19 : decode cX9_init 19 = .ok (.bipush 15, 2) := by decide +kernel
theorem dX9_init_21 : decode cX9_init 21 = .ok (.newarray .long, 2) := by decide +kernel
theorem dX9_init_23 : decode cX9_init 23 = .ok (.putfield 19, 3) := by decide +kernel
theorem dX9_init_26 : decode cX9_init 26 = .ok (.aload_n 0, 1) := by decide +kernel
theorem dX9_init_27 : decode cX9_init 27 = .ok (.bipush 15, 2) := by decide +kernel
theorem dX9_init_29 : decode cX9_init 29 = .ok (.newarray .int, 2) := by decide +kernel
theorem dX9_init_31 : decode cX9_init 31 = .ok (.putfield 22, 3) := by decide +kernel
theorem dX9_init_34 : decode cX9_init 34 = .ok (.aload_n 0, 1) := by decide +kernel
theorem dX9_init_35 : decode cX9_init 35 = .ok (.bipush 15, 2) := by decide +kernel
theorem dX9_init_37 : decode cX9_init 37 = .ok (.newarray .int, 2) := by decide +kernel
theorem dX9_init_39 : decode cX9_init 39 = .ok (.putfield 25, 3) := by decide +kernel
theorem dX9_init_42 : decode cX9_init 42 = .ok (.aload_n 0, 1) := by decide +kernel
theorem dX9_init_43 : decode cX9_init 43 = .ok (.bipush 15, 2) := by decide +kernel
theorem dX9_init_45 : decode cX9_init 45 = .ok (.newarray .int, 2) := by decide +kernel
theorem dX9_init_47 : decode cX9_init 47 = .ok (.putfield 28, 3) := by decide +kernel
theorem dX9_init_50 : decode cX9_init 50 = .ok (.return_, 1) := by decide +kernel
set_option maxRecDepth 20000 in
theorem ggX9_clear_J7_fill_d0a16 : GoodIn wsX9_clear wsJ7_fill_d0a16 := goodIn_r _ [8] (by decide +kernel) (by decide +kernel)
set_option maxRecDepth 20000 in
theorem gX9_clear_J7_fill_d0a16 : GoodIn wsX9_clear (va_wsS RX9 35 yJ7_fill_d0a16 wsJ7_fill_d0a16) := goodIn_app (goodIn_of _ (by decide +kernel)) ggX9_clear_J7_fill_d0a16
set_option maxRecDepth 20000 in
theorem ggX9_clear_J7_fill_53178 : GoodIn wsX9_clear wsJ7_fill_53178 := goodIn_r _ [11] (by decide +kernel) (by decide +kernel)
set_option maxRecDepth 20000 in
theorem gX9_clear_J7_fill_53178 : GoodIn wsX9_clear (va_wsS RX9 41 yJ7_fill_53178 wsJ7_fill_53178) := goodIn_app (goodIn_of _ (by decide +kernel)) ggX9_clear_J7_fill_53178
theorem dX9_clear_0 : decode cX9_clear 0 = .ok (.aload_n 0, 1) := by decide +kernel
theorem dX9_clear_1 : decode cX9_clear 1 = .ok (.iconst 0, 1) := by decide +kernel
theorem dX9_clear_2 : decode cX9_clear 2 = .ok (.putfield 31, 3) := by decide +kernel
theorem dX9_clear_5 : decode cX9_clear 5 = .ok (.aload_n 0, 1) := by decide +kernel
theorem dX9_clear_6 : decode cX9_clear 6 = .ok (.getfield 9, 3) := by decide +kernel
theorem dX9_clear_9 : decode cX9_clear 9 = .ok (.lconst 0, 1) := by decide +kernel
theorem dX9_clear_10 : decode cX9_clear 10 = .ok (.invokestatic 35, 3) := by decide +kernel
theorem dX9_clear_13 : decode cX9_clear 13 = .ok (.aload_n 0, 1) := by decide +kernel
theorem dX9_clear_14 : decode cX9_clear 14 = .ok (.getfield 15, 3) := by decide +kernel
theorem dX9_clear_17 : decode cX9_clear 17 = .ok (.iconst 0, 1) := by decide +kernel
theorem dX9_clear_18 : decode cX9_clear 18 = .ok (.invokestatic 41, 3) := by decide +kernel
theorem dX9_clear_21 : decode cX9_clear 21 = .ok (.aload_n 0, 1) := by decide +kernel
theorem dX9_clear_22 : decode cX9_clear 22 = .ok (.getfield 19, 3) := by decide +kernel
theorem dX9_clear_25 : decode cX9_clear 25 = .ok (.lconst 0, 1) := by decide +kernel
theorem dX9_clear_26 : decode cX9_clear 26 = .ok (.invokestatic 35, 3) := by decide +kernel
theorem dX9_clear_29 : decode cX9_clear 29 = .ok (.return_, 1) := by decide +kernel
set_option maxRecDepth 20000 in
theorem ggX10_init_X8_init : GoodIn wsX10_init wsX8_init := goodIn_r _ [9, 10, 2, 3, 11, 12, 13, 14, 15, 16, 17, 18, 19, 20, 21, 22, 23, 24, 25, 40, 41, 26, 27, 28, 29, 30, 31, 32, 33, 34, 35, 36] (by decide +kernel) (by decide +kernel)
set_option maxRecDepth 20000 in
theorem gX10_init_X8_init_n11 : GoodIn wsX10_init (wsX8_init) := ggX10_init_X8_init
theorem dX10_init_0 : decode cX10_init 0 = .ok (.aload_n 0, 1) := by decide +kernel
theorem dX10_init_1 : decode cX10_init 1 = .ok (.invokespecial 3, 3) := by decide +kernel
theorem dX10_init_4 : decode cX10_init 4 = .ok (.aload_n 0, 1) := by decide +kernel
theorem dX10_init_5 : decode cX10_init 5 = .ok (.new 9, 3) := by decide +kernel
theorem dX10_init_8 : decode cX10_init 8 = .ok (.dup, 1) := by decide +kernel
theorem dX10_init_9 : decode cX10_init 9 = .ok (.invokespecial 11, 3) := by decide +kernel
theorem dX10_init_12 : decode cX10_init 12 = .ok (.putfield 12, 3) := by decide +kernel
theorem dX10_init_15 : decode cX10_init 15 = .ok (.return_, 1) := by decide +kernel
set_option maxRecDepth 20000 in
theorem ggX10_read_X9_clear : GoodIn wsX10_read wsX9_clear := goodIn_r _ [9, 10, 11, 12, 13, 14, 15, 16, 17, 18, 19, 20, 172, 173, 174, 175, 176, 177, 178] (by decide +kernel) (by decide +kernel)
set_option maxRecDepth 20000 in
theorem gX10_read_X9_clear : GoodIn wsX10_read (wsV RX10 18 RX9 yX9_clear wsX9_clear) := goodIn_app (goodIn_of _ (by decide +kernel)) ggX10_read_X9_clear
set_option maxRecDepth 20000 in
theorem ggX10_read_X8_begin : GoodIn wsX10_read wsX8_begin := goodIn_r _ [25, 26, 27, 28, 29, 30, 31, 161, 162, 163, 164, 165, 166, 167, 168, 169, 170, 171] (by decide +kernel) (by decide +kernel)
set_option maxRecDepth 20000 in
theorem gX10_read_X8_begin : GoodIn wsX10_read (wsV RX10 23 RX8 yX8_begin wsX8_begin) := goodIn_app (goodIn_of _ (by decide +kernel)) ggX10_read_X8_begin
set_option maxRecDepth 20000 in
theorem ggX10_read_X8_advance : GoodIn wsX10_read wsX8_advance := goodIn_r _ [35, 26, 36, 27, 37, 38, 39, 40, 29, 41, 42, 43, 44, 45, 46, 47, 48, 49, 50, 51, 24, 52, 53, 54, 55, 56, 57, 58, 59, 60, 61, 62, 63, 64, 65, 66, 67, 68, 69, 70, 71, 28, 72, 73, 74, 75, 76, 77, 78, 79, 80, 81, 161, 162, 163, 164, 165, 166, 167, 168, 169, 170, 171, 179, 180] (by decide +kernel) (by decide +kernel)
set_option maxRecDepth 20000 in
theorem gX10_read_X8_advance : GoodIn wsX10_read (wsV RX10 31 RX8 yX8_advance wsX8_advance) := goodIn_app (goodIn_of _ (by decide +kernel)) ggX10_read_X8_advance
set_option maxRecDepth 20000 in
theorem ggX10_read_X8_endsWell : GoodIn wsX10_read wsX8_endsWell := goodIn_r _ [85, 26, 36, 27, 42, 86, 87, 88, 24, 89, 30, 31, 161, 162, 163, 164, 165, 166, 167, 168, 169, 170, 171, 179, 180] (by decide +kernel) (by decide +kernel)
set_option maxRecDepth 20000 in
theorem gX10_read_X8_endsWell : GoodIn wsX10_read (wsV RX10 40 RX8 yX8_endsWell wsX8_endsWell) := goodIn_app (goodIn_of _ (by decide +kernel)) ggX10_read_X8_endsWell
theorem dX10_read_0 : decode cX10_read 0 = .ok (.aload_n 2, 1) := by decide +kernel
theorem dX10_read_1 : decode cX10_read 1 = .ok (.invokevirtual 18, 3) := by decide +kernel
theorem dX10_read_4 : decode cX10_read 4 = .ok (.aload_n 0, 1) := by decide +kernel
theorem dX10_read_5 : decode cX10_read 5 = .ok (.getfield 12, 3) := by decide +kernel
theorem dX10_read_8 : decode cX10_read 8 = .ok (.aload_n 1, 1) := by decide +kernel
theorem dX10_read_9 : decode cX10_read 9 = .ok (.sipush 400, 3) := by decide +kernel
theorem dX10_read_12 : decode cX10_read 12 = .ok (.iconst 0, 1) := by decide +kernel
theorem dX10_read_13 : decode cX10_read 13 = .ok (.invokevirtual 23, 3) := by decide +kernel
theorem dX10_read_16 : decode cX10_read 16 = .ok (.aload_n 0, 1) := by decide +kernel
theorem dX10_read_17 : decode cX10_read 17 = .ok (.iconst 0, 1) := by decide +kernel
theorem dX10_read_18 : decode cX10_read 18 = .ok (.putfield 27, 3) := by decide +kernel
theorem dX10_read_21 : decode cX10_read 21 = .ok (.iconst 0, 1) := by decide +kernel
theorem dX10_read_22 : decode cX10_read 22 = .ok (.istore_n 3, 1) := by decide +kernel
theorem dX10_read_23 : decode cX10_read 23 = .ok (.iload_n 3, 1) := by decide +kernel
theorem dX10_read_24 : decode cX10_read 24 = .ok (.sipush 400, 3) := by decide +kernel
theorem dX10_read_27 : decode cX10_read 27 = .ok (.if_icmp .gt 55, 3) := by decide +kernel
theorem dX10_read_30 : decode cX10_read 30 = .ok (.aload_n 0, 1) := by decide +kernel
theorem dX10_read_31 : decode cX10_read 31 = .ok (.getfield 12, 3) := by decide +kernel
theorem dX10_read_34 : decode cX10_read 34 = .ok (.invokevirtual 31, 3) := by decide +kernel
theorem dX10_read_37 : decode cX10_read 37 = .ok (.aload_n 0, 1) := by decide +kernel
theorem dX10_read_38 : decode cX10_read 38 = .ok (.getfield 27, 3) := by decide +kernel
theorem dX10_read_41 : decode cX10_read 41 = .ok (.ifCond .ne 25, 3) := by decide +kernel
theorem dX10_read_44 : decode cX10_read 44 = .ok (.aload_n 0, 1) := by decide +kernel
theorem dX10_read_45 : decode cX10_read 45 = .ok (.getfield 12, 3) := by decide +kernel
theorem dX10_read_48 : decode cX10_read 48 = .ok (.getfield 34, 3) := by decide +kernel
theorem dX10_read_51 : decode cX10_read 51 = .ok (.ifCond .ne 15, 3) := by decide +kernel
theorem dX10_read_54 : decode cX10_read 54 = .ok (.aload_n 0, 1) := by decide +kernel
theorem dX10_read_55 : decode cX10_read 55 = .ok (.getfield 12, 3) := by decide +kernel
theorem dX10_read_58 : decode cX10_read 58 = .ok (.aload_n 2, 1) := by decide +kernel
theorem dX10_read_59 : decode cX10_read 59 = .ok (.getfield 37, 3) := by decide +kernel
theorem dX10_read_62 : decode cX10_read 62 = .ok (.invokevirtual 40, 3) := by decide +kernel
theorem dX10_read_65 : decode cX10_read 65 = .ok (.ireturn, 1) := by decide +kernel
theorem dX10_read_66 : decode cX10_read 66 = .ok (.aload_n 0, 1) := by decide +kernel
theorem dX10_read_67 : decode cX10_read 67 = .ok (.aload_n 2, 1) := by decide +kernel
theorem dX10_read_68 : decode cX10_read 68 = .ok (.invokevirtual 44, 3) := by decide +kernel
theorem dX10_read_71 : decode cX10_read 71 = .ok (.ifCond .ne 5, 3) := by decide +kernel
theorem dX10_read_74 : decode cX10_read 74 = .ok (.iconst 0, 1) := by decide +kernel
theorem dX10_read_75 : decode cX10_read 75 = .ok (.ireturn, 1) := by decide +kernel
theorem dX10_read_76 : decode cX10_read 76 = .ok (.iinc 3 1, 3) := by decide +kernel
theorem dX10_read_79 : decode cX10_read 79 = .ok (.goto (-56), 3) := by decide +kernel
theorem dX10_read_82 : decode cX10_read 82 = .ok (.iconst 0, 1) := by decide +kernel
theorem dX10_read_83 : decode cX10_read 83 = .ok (.ireturn, 1) := by decide +kernel
set_option maxRecDepth 20000 in
theorem ggX11_init_X7_init : GoodIn wsX11_init wsX7_init := goodIn_r _ [47, 48, 2, 3, 49, 50, 51, 52, 53, 54, 55, 129, 130] (by decide +kernel) (by decide +kernel)
set_option maxRecDepth 20000 in
theorem gX11_init_X7_init : GoodIn wsX11_init (wsX7_init) := ggX11_init_X7_init
set_option maxRecDepth 20000 in
theorem ggX11_init_X10_init : GoodIn wsX11_init wsX10_init := goodIn_r _ [57, 58, 2, 3, 59, 60, 61, 62, 63, 64, 65, 66, 5, 6, 67, 68, 46, 47, 48, 49, 50, 51, 52, 53, 54, 55, 188, 189, 190, 191, 192, 193, 194, 195, 196, 197, 198, 147, 148, 149, 129, 130] (by decide +kernel) (by decide +kernel)
set_option maxRecDepth 20000 in
theorem gX11_init_X10_init_n26 : GoodIn wsX11_init (wsX10_init) := ggX11_init_X10_init
set_option maxRecDepth 20000 in
theorem ggX11_init_X6_init : GoodIn wsX11_init wsX6_init := goodIn_r _ [70, 71, 2, 3, 72, 60, 61, 73, 63, 64, 65, 66, 5, 6, 67, 68, 46, 47, 48, 49, 50, 51, 52, 53, 54, 55, 188, 189, 190, 191, 192, 193, 194, 195, 196, 197, 198, 150, 151, 152, 153, 154, 155, 156, 157, 129, 130] (by decide +kernel) (by decide +kernel)
set_option maxRecDepth 20000 in
theorem gX11_init_X6_init_n33 : GoodIn wsX11_init (wsX6_init) := ggX11_init_X6_init
set_option maxRecDepth 20000 in
theorem ggX11_init_X4_init : GoodIn wsX11_init wsX4_init := goodIn_r _ [75, 76, 2, 3, 77, 78, 79, 80, 81, 82, 33, 83, 158, 159, 160, 161, 162, 163, 164] (by decide +kernel) (by decide +kernel)
set_option maxRecDepth 20000 in
theorem gX11_init_X4_init_n40 : GoodIn wsX11_init (wsX4_init) := ggX11_init_X4_init
set_option maxRecDepth 20000 in
theorem ggX11_init_X3_init : GoodIn wsX11_init wsX3_init := goodIn_r _ [86, 87, 2, 3, 33, 88, 89, 90, 91, 92, 93, 94, 165, 166, 167, 168, 169] (by decide +kernel) (by decide +kernel)
set_option maxRecDepth 20000 in
theorem gX11_init_X3_init : GoodIn wsX11_init (wsX3_init) := ggX11_init_X3_init
set_option maxRecDepth 20000 in
theorem ggX11_init_X5_init : GoodIn wsX11_init wsX5_init := goodIn_r _ [97, 98, 2, 3, 99, 100, 101, 102, 103, 104, 105, 106, 107, 108, 109, 110, 111, 112, 170, 171, 172, 173, 174, 175, 176, 199, 200, 201, 202, 203, 204, 205, 206, 207, 208, 209, 210, 211] (by decide +kernel) (by decide +kernel)
set_option maxRecDepth 20000 in
theorem gX11_init_X5_init : GoodIn wsX11_init (wsX5_init) := ggX11_init_X5_init
set_option maxRecDepth 20000 in
theorem ggX11_init_X9_init : GoodIn wsX11_init wsX9_init := goodIn_r _ [114, 115, 2, 3, 78, 116, 33, 117, 118, 119, 120, 121, 177, 178, 179, 180, 181, 182, 183] (by decide +kernel) (by decide +kernel)
set_option maxRecDepth 20000 in
theorem gX11_init_X9_init_n75 : GoodIn wsX11_init (wsX9_init) := ggX11_init_X9_init
set_option maxRecDepth 20000 in
theorem ggX11_init_X0_init : GoodIn wsX11_init wsX0_init := goodIn_r _ [123, 124, 2, 3, 125, 5, 6, 126, 127, 46, 47, 48, 49, 50, 51, 52, 53, 54, 55, 129, 130, 184, 185, 186, 187] (by decide +kernel) (by decide +kernel)
set_option maxRecDepth 20000 in
theorem gX11_init_X0_init_n83 : GoodIn wsX11_init (wsX0_init) := ggX11_init_X0_init
set_option maxRecDepth 20000 in
theorem ggX11_init_J7_fill_53178 : GoodIn wsX11_init wsJ7_fill_53178 := goodIn_r _ [94] (by decide +kernel) (by decide +kernel)
set_option maxRecDepth 20000 in
theorem gX11_init_J7_fill_53178 : GoodIn wsX11_init (va_wsS RX11 84 yJ7_fill_53178 wsJ7_fill_53178) := goodIn_app (goodIn_of _ (by decide +kernel)) ggX11_init_J7_fill_53178
theorem dX11_init_0 : decode cX11_init 0 = .ok (.aload_n 0, 1) := by decide +kernel
theorem dX11_init_1 : decode cX11_init 1 = .ok (.invokespecial 3, 3) := by decide +kernel
theorem dX11_init_4 : decode cX11_init 4 = .ok (.aload_n 0, 1) := by decide +kernel
theorem dX11_init_5 : decode cX11_init 5 = .ok (.new 9, 3) := by decide +kernel
theorem dX11_init_8 : decode cX11_init 8 = .ok (.dup, 1) := by decide +kernel
theorem dX11_init_9 : decode cX11_init 9 = .ok (.sipush 440, 3) := by decide +kernel
theorem dX11_init_12 : decode cX11_init 12 = .ok (.invokespecial 11, 3) := by decide +kernel
theorem dX11_init_15 : decode cX11_init 15 = .ok (.putfield 14, 3) := by decide +kernel
theorem dX11_init_18 : decode cX11_init 18 = .ok (.aload_n 0, 1) := by decide +kernel
theorem dX11_init_19 : decode cX11_init 19 = .ok (.new 9, 3) := by decide +kernel
theorem dX11_init_22 : decode cX11_init 22 = .ok (.dup, 1) := by decide +kernel
theorem dX11_init_23 : decode cX11_init 23 = .ok (.bipush 59, 2) := by decide +kernel
theorem dX11_init_25 : decode cX11_init 25 = .ok (.invokespecial 11, 3) := by decide +kernel
theorem dX11_init_28 : decode cX11_init 28 = .ok (.putfield 18, 3) := by decide +kernel
theorem dX11_init_31 : decode cX11_init 31 = .ok (.aload_n 0, 1) := by decide +kernel
theorem dX11_init_32 : decode cX11_init 32 = .ok (.new 9, 3) := by decide +kernel
theorem dX11_init_35 : decode cX11_init 35 = .ok (.dup, 1) := by decide +kernel
theorem dX11_init_36 : decode cX11_init 36 = .ok (.sipush 402, 3) := by decide +kernel
theorem dX11_init_39 : decode cX11_init 39 = .ok (.invokespecial 11, 3) := by decide +kernel
theorem dX11_init_42 : decode cX11_init 42 = .ok (.putfield 21, 3) := by decide +kernel
theorem dX11_init_45 : decode cX11_init 45 = .ok (.aload_n 0, 1) := by decide +kernel
theorem dX11_init_46 : decode cX11_init 46 = .ok (.new 24, 3) := by decide +kernel
theorem dX11_init_49 : decode cX11_init 49 = .ok (.dup, 1) := by decide +kernel
theorem dX11_init_50 : decode cX11_init 50 = .ok (.invokespecial 26, 3) := by decide +kernel
theorem dX11_init_53 : decode cX11_init 53 = .ok (.putfield 27, 3) := by decide +kernel
theorem dX11_init_56 : decode cX11_init 56 = .ok (.aload_n 0, 1) := by decide +kernel
theorem dX11_init_57 : decode cX11_init 57 = .ok (.new 31, 3) := by decide +kernel
theorem dX11_init_60 : decode cX11_init 60 = .ok (.dup, 1) := by decide +kernel
theorem dX11_init_61 : decode cX11_init 61 = .ok (.invokespecial 33, 3) := by decide +kernel
theorem dX11_init_64 : decode cX11_init 64 = .ok (.putfield 34, 3) := by decide +kernel
theorem dX11_init_67 : decode cX11_init 67 = .ok (.aload_n 0, 1) := by decide +kernel
theorem dX11_init_68 : decode cX11_init 68 = .ok (.new 38, 3) := by decide +kernel
theorem dX11_init_71 : decode cX11_init 71 = .ok (.dup, 1) := by decide +kernel
theorem dX11_init_72 : decode cX11_init 72 = .ok (.invokespecial 40, 3) := by decide +kernel
theorem dX11_init_75 : decode cX11_init 75 = .ok (.putfield 41, 3) := by decide +kernel
theorem dX11_init_78 : decode cX11_init 78 = .ok (.aload_n 0, 1) := by decide +kernel
theorem dX11_init_79 : decode cX11_init 79 = .ok (.new 45, 3) := by decide +kernel
theorem dX11_init_82 : decode cX11_init 82 = .ok (.dup, 1) := by decide +kernel
theorem dX11_init_83 : decode cX11_init 83 = .ok (.invokespecial 47, 3) := by decide +kernel
theorem dX11_init_86 : decode cX11_init 86 = .ok (.putfield 48, 3) := by decide +kernel
theorem dX11_init_89 : decode cX11_init 89 = .ok (.aload_n 0, 1) := by decide +kernel
theorem dX11_init_90 : decode cX11_init 90 = .ok (.bipush 8, 2) := by decide +kernel
theorem dX11_init_92 : decode cX11_init 92 = .ok (.anewarray 52, 3) := by decide +kernel
theorem dX11_init_95 : decode cX11_init 95 = .ok (.putfield 54, 3) := by decide +kernel
theorem dX11_init_98 : decode cX11_init 98 = .ok (.aload_n 0, 1) := by decide +kernel
theorem dX11_init_99 : decode cX11_init 99 = .ok (.new 52, 3) := by decide +kernel
theorem dX11_init_102 : decode cX11_init 102 = .ok (.dup, 1) := by decide +kernel
theorem dX11_init_103 : decode cX11_init 103 = .ok (.invokespecial 58, 3) := by decide +kernel
theorem dX11_init_106 : decode cX11_init 106 = .ok (.putfield 59, 3) := by decide +kernel
theorem dX11_init_109 : decode cX11_init 109 = .ok (.aload_n 0, 1) := by decide +kernel
theorem dX11_init_110 : decode cX11_init 110 = .ok (.bipush 12, 2) := by decide +kernel
theorem dX11_init_112 : decode cX11_init 112 = .ok (.anewarray 63, 3) := by decide +kernel
theorem dX11_init_115 : decode cX11_init 115 = .ok (.putfield 65, 3) := by decide +kernel
theorem dX11_init_118 : decode cX11_init 118 = .ok (.aload_n 0, 1) := by decide +kernel
theorem dX11_init_119 : decode cX11_init 119 = .ok (.sipush 144, 3) := by decide +kernel
theorem dX11_init_122 : decode cX11_init 122 = .ok (.newarray .int, 2) := by decide +kernel
theorem dX11_init_124 : decode cX11_init 124 = .ok (.putfield 69, 3) := by decide +kernel
theorem dX11_init_127 : decode cX11_init 127 = .ok (.aload_n 0, 1) := by decide +kernel
theorem dX11_init_128 : decode cX11_init 128 = .ok (.new 73, 3) := by decide +kernel
theorem dX11_init_131 : decode cX11_init 131 = .ok (.dup, 1) := by decide +kernel
theorem dX11_init_132 : decode cX11_init 132 = .ok (.invokespecial 75, 3) := by decide +kernel
theorem dX11_init_135 : decode cX11_init 135 = .ok (.putfield 76, 3) := by decide +kernel
theorem dX11_init_138 : decode cX11_init 138 = .ok (.aload_n 0, 1) := by decide +kernel
theorem dX11_init_139 : decode cX11_init 139 = .ok (.new 73, 3) := by decide +kernel
theorem dX11_init_142 : decode cX11_init 142 = .ok (.dup, 1) := by decide +kernel
theorem dX11_init_143 : decode cX11_init 143 = .ok (.invokespecial 75, 3) := by decide +kernel
theorem dX11_init_146 : decode cX11_init 146 = .ok (.putfield 80, 3) := by decide +kernel
theorem dX11_init_149 : decode cX11_init 149 = .ok (.iconst 0, 1) := by decide +kernel
theorem dX11_init_150 : decode cX11_init 150 = .ok (.istore_n 1, 1) := by decide +kernel
theorem dX11_init_151 : decode cX11_init 151 = .ok (.iload_n 1, 1) := by decide +kernel
theorem dX11_init_152 : decode cX11_init 152 = .ok (.bipush 8, 2) := by decide +kernel
theorem dX11_init_154 : decode cX11_init 154 = .ok (.if_icmp .ge 22, 3) := by decide +kernel
theorem dX11_init_157 : decode cX11_init 157 = .ok (.aload_n 0, 1) := by decide +kernel
theorem dX11_init_158 : decode cX11_init 158 = .ok (.getfield 54, 3) := by decide +kernel
theorem dX11_init_161 : decode cX11_init 161 = .ok (.iload_n 1, 1) := by decide +kernel
theorem dX11_init_162 : decode cX11_init 162 = .ok (.new 52, 3) := by decide +kernel
theorem dX11_init_165 : decode cX11_init 165 = .ok (.dup, 1) := by decide +kernel
theorem dX11_init_166 : decode cX11_init 166 = .ok (.invokespecial 58, 3) := by decide +kernel
theorem dX11_init_169 : decode cX11_init 169 = .ok (.aastore, 1) := by decide +kernel
theorem dX11_init_170 : decode cX11_init 170 = .ok (.iinc 1 1, 3) := by decide +kernel
theorem dX11_init_173 : decode cX11_init 173 = .ok (.goto (-22), 3) := by decide +kernel
theorem dX11_init_176 : decode cX11_init 176 = .ok (.iconst 0, 1) := by decide +kernel
theorem dX11_init_177 : decode cX11_init 177 = .ok (.istore_n 1, 1) := by decide +kernel
theorem dX11_init_178 : decode cX11_init 178 = .ok (.iload_n 1, 1) := by decide +kernel
theorem dX11_init_179 : decode cX11_init 179 = .ok (.bipush 12, 2) := by decide +kernel
theorem dX11_init_181 : decode cX11_init 181 = .ok (.if_icmp .ge 22, 3) := by decide +kernel
theorem dX11_init_184 : decode cX11_init 184 = .ok (.aload_n 0, 1) := by decide +kernel
theorem dX11_init_185 : decode cX11_init 185 = .ok (.getfield 65, 3) := by decide +kernel
theorem dX11_init_188 : decode cX11_init 188 = .ok (.iload_n 1, 1) := by decide +kernel
theorem dX11_init_189 : decode cX11_init 189 = .ok (.new 63, 3) := by decide +kernel
theorem dX11_init_192 : decode cX11_init 192 = .ok (.dup, 1) := by decide +kernel
theorem dX11_init_193 : decode cX11_init 193 = .ok (.invokespecial 83, 3) := by decide +kernel
theorem dX11_init_196 : decode cX11_init 196 = .ok (.aastore, 1) := by decide +kernel
theorem dX11_init_197 : decode cX11_init 197 = .ok (.iinc 1 1, 3) := by decide +kernel
theorem dX11_init_200 : decode cX11_init 200 = .ok (.goto (-22), 3) := by decide +kernel
theorem dX11_init_203 : decode cX11_init 203 = .ok (.aload_n 0, 1) := by decide +kernel
theorem dX11_init_204 : decode cX11_init 204 = .ok (.getfield 69, 3) := by decide +kernel
theorem dX11_init_207 : decode cX11_init 207 = .ok (.iconst (-1), 1) := by decide +kernel
theorem dX11_init_208 : decode cX11_init 208 = .ok (.invokestatic 84, 3) := by decide +kernel
theorem dX11_init_211 : decode cX11_init 211 = .ok (.aload_n 0, 1) := by decide +kernel
theorem dX11_init_212 : decode cX11_init 212 = .ok (.iconst 0, 1) := by decide +kernel
theorem dX11_init_213 : decode cX11_init 213 = .ok (.putfield 90, 3) := by decide +kernel
theorem dX11_init_216 : decode cX11_init 216 = .ok (.aload_n 0, 1) := by decide +kernel
theorem dX11_init_217 : decode cX11_init 217 = .ok (.iconst 0, 1) := by decide +kernel
theorem dX11_init_218 : decode cX11_init 218 = .ok (.putfield 94, 3) := by decide +kernel
theorem dX11_init_221 : decode cX11_init 221 = .ok (.aload_n 0, 1) := by decide +kernel
theorem dX11_init_222 : decode cX11_init 222 = .ok (.iconst 0, 1) := by decide +kernel
theorem dX11_init_223 : decode cX11_init 223 = .ok (.putfield 97, 3) := by decide +kernel
theorem dX11_init_226 : decode cX11_init 226 = .ok (.return_, 1) := by decide +kernel
set_option maxRecDepth 20000 in
theorem ggX11_feed_X7_putFour : GoodIn wsX11_feed wsX7_putFour := goodIn_r _ [7, 8, 9, 10, 6, 11, 12, 13, 30, 31] (by decide +kernel) (by decide +kernel)
set_option maxRecDepth 20000 in
theorem gX11_feed_X7_putFour : GoodIn wsX11_feed (wsV RX11 103 RX7 yX7_putFour wsX7_putFour) := goodIn_app (goodIn_of _ (by decide +kernel)) ggX11_feed_X7_putFour
theorem dX11_feed_0 : decode cX11_feed 0 = .ok (.aload_n 0, 1) := by decide +kernel
theorem dX11_feed_1 : decode cX11_feed 1 = .ok (.getfield 14, 3) := by decide +kernel
theorem dX11_feed_4 : decode cX11_feed 4 = .ok (.getfield 100, 3) := by decide +kernel
theorem dX11_feed_7 : decode cX11_feed 7 = .ok (.bipush 20, 2) := by decide +kernel
theorem dX11_feed_9 : decode cX11_feed 9 = .ok (.iadd, 1) := by decide +kernel
theorem dX11_feed_10 : decode cX11_feed 10 = .ok (.sipush 440, 3) := by decide +kernel
theorem dX11_feed_13 : decode cX11_feed 13 = .ok (.if_icmp .le 5, 3) := by decide +kernel
theorem dX11_feed_16 : decode cX11_feed 16 = .ok (.iconst (-1), 1) := by decide +kernel
theorem dX11_feed_17 : decode cX11_feed 17 = .ok (.ireturn, 1) := by decide +kernel
theorem dX11_feed_18 : decode cX11_feed 18 = .ok (.aload_n 0, 1) := by decide +kernel
theorem dX11_feed_19 : decode cX11_feed 19 = .ok (.getfield 14, 3) := by decide +kernel
theorem dX11_feed_22 : decode cX11_feed 22 = .ok (.iload_n 1, 1) := by decide +kernel
theorem dX11_feed_23 : decode cX11_feed 23 = .ok (.invokevirtual 103, 3) := by decide +kernel
theorem dX11_feed_26 : decode cX11_feed 26 = .ok (.aload_n 0, 1) := by decide +kernel
theorem dX11_feed_27 : decode cX11_feed 27 = .ok (.getfield 14, 3) := by decide +kernel
theorem dX11_feed_30 : decode cX11_feed 30 = .ok (.iload_n 2, 1) := by decide +kernel
theorem dX11_feed_31 : decode cX11_feed 31 = .ok (.invokevirtual 103, 3) := by decide +kernel
theorem dX11_feed_34 : decode cX11_feed 34 = .ok (.aload_n 0, 1) := by decide +kernel
theorem dX11_feed_35 : decode cX11_feed 35 = .ok (.getfield 14, 3) := by decide +kernel
theorem dX11_feed_38 : decode cX11_feed 38 = .ok (.iload_n 3, 1) := by decide +kernel
theorem dX11_feed_39 : decode cX11_feed 39 = .ok (.invokevirtual 103, 3) := by decide +kernel
theorem dX11_feed_42 : decode cX11_feed 42 = .ok (.aload_n 0, 1) := by decide +kernel
theorem dX11_feed_43 : decode cX11_feed 43 = .ok (.getfield 14, 3) := by decide +kernel
theorem dX11_feed_46 : decode cX11_feed 46 = .ok (.iload 4, 2) := by decide +kernel
theorem dX11_feed_48 : decode cX11_feed 48 = .ok (.invokevirtual 103, 3) := by decide +kernel
theorem dX11_feed_51 : decode cX11_feed 51 = .ok (.aload_n 0, 1) := by decide +kernel
theorem dX11_feed_52 : decode cX11_feed 52 = .ok (.getfield 14, 3) := by decide +kernel
theorem dX11_feed_55 : decode cX11_feed 55 = .ok (.iload 5, 2) := by decide +kernel
theorem dX11_feed_57 : decode cX11_feed 57 = .ok (.invokevirtual 103, 3) := by decide +kernel
theorem dX11_feed_60 : decode cX11_feed 60 = .ok (.aload_n 0, 1) := by decide +kernel
theorem dX11_feed_61 : decode cX11_feed 61 = .ok (.getfield 14, 3) := by decide +kernel
theorem dX11_feed_64 : decode cX11_feed 64 = .ok (.getfield 100, 3) := by decide +kernel
theorem dX11_feed_67 : decode cX11_feed 67 = .ok (.ireturn, 1) := by decide +kernel
theorem dX11_end_0 : decode cX11_end 0 = .ok (.iload_n 1, 1) := by decide +kernel
theorem dX11_end_1 : decode cX11_end 1 = .ok (.ifCond .lt 14, 3) := by decide +kernel
theorem dX11_end_4 : decode cX11_end 4 = .ok (.iload_n 1, 1) := by decide +kernel
theorem dX11_end_5 : decode cX11_end 5 = .ok (.aload_n 0, 1) := by decide +kernel
theorem dX11_end_6 : decode cX11_end 6 = .ok (.getfield 14, 3) := by decide +kernel
theorem dX11_end_9 : decode cX11_end 9 = .ok (.getfield 100, 3) := by decide +kernel
theorem dX11_end_12 : decode cX11_end 12 = .ok (.if_icmp .le 5, 3) := by decide +kernel
theorem dX11_end_15 : decode cX11_end 15 = .ok (.iconst 0, 1) := by decide +kernel
theorem dX11_end_16 : decode cX11_end 16 = .ok (.ireturn, 1) := by decide +kernel
theorem dX11_end_17 : decode cX11_end 17 = .ok (.aload_n 0, 1) := by decide +kernel
theorem dX11_end_18 : decode cX11_end 18 = .ok (.getfield 14, 3) := by decide +kernel
theorem dX11_end_21 : decode cX11_end 21 = .ok (.iload_n 1, 1) := by decide +kernel
theorem dX11_end_22 : decode cX11_end 22 = .ok (.putfield 100, 3) := by decide +kernel
theorem dX11_end_25 : decode cX11_end 25 = .ok (.iconst 1, 1) := by decide +kernel
theorem dX11_end_26 : decode cX11_end 26 = .ok (.ireturn, 1) := by decide +kernel
set_option maxRecDepth 20000 in
theorem ggX11_systems_X10_read : GoodIn wsX11_systems wsX10_read := goodIn_r _ [17, 18, 19, 20, 21, 22, 23, 24, 25, 26, 27, 28, 29, 30, 31, 32, 33, 34, 35, 36, 37, 38, 39, 40, 41, 42, 43, 44, 45, 46, 47, 48, 49, 50, 51, 52, 53, 54, 55, 56, 57, 58, 59, 60, 61, 62, 63, 64, 65, 66, 67, 68, 69, 70, 71, 72, 73, 74, 75, 76, 77, 78, 79, 80, 81, 82, 83, 84, 85, 86, 87, 88, 89, 90, 91, 92, 93, 94, 95, 96, 97, 98, 99, 100, 101, 102, 103, 104, 105, 106, 107, 108, 109, 16, 110, 111, 112, 113, 114, 115, 116, 117, 118, 119, 120, 121, 122, 123, 124, 125, 126, 127, 128, 129, 130, 131, 132, 133, 134, 135, 136, 137, 138, 139, 140, 141, 142, 143, 144, 145, 146, 147, 148, 149, 150, 151, 152, 153, 154, 155, 156, 157, 158, 159, 160, 161, 162, 163, 164, 165, 166, 167, 168, 169, 170, 171, 172, 173, 204, 205, 206, 207, 208, 209, 210, 211, 212, 213, 214, 215, 216, 217, 218, 219, 220, 221, 222, 223, 224, 225, 226] (by decide +kernel) (by decide +kernel)
set_option maxRecDepth 20000 in
theorem gX11_systems_X10_read : GoodIn wsX11_systems (wsV RX11 106 RX10 yX10_read wsX10_read) := goodIn_app (goodIn_of _ (by decide +kernel)) ggX11_systems_X10_read
set_option maxRecDepth 20000 in
theorem ggX11_systems_X7_clear : GoodIn wsX11_systems wsX7_clear := goodIn_r _ [177, 65, 225, 226] (by decide +kernel) (by decide +kernel)
set_option maxRecDepth 20000 in
theorem gX11_systems_X7_clear : GoodIn wsX11_systems (wsV RX11 110 RX7 yX7_clear wsX7_clear) := goodIn_app (goodIn_of _ (by decide +kernel)) ggX11_systems_X7_clear
set_option maxRecDepth 20000 in
theorem ggX11_systems_X3_forget : GoodIn wsX11_systems wsX3_forget := goodIn_r _ [182, 183, 184, 185, 186, 36, 33, 37, 227, 228, 229, 230, 231] (by decide +kernel) (by decide +kernel)
set_option maxRecDepth 20000 in
theorem gX11_systems_X3_forget : GoodIn wsX11_systems (wsV RX11 125 RX3 yX3_forget wsX3_forget) := goodIn_app (goodIn_of _ (by decide +kernel)) ggX11_systems_X3_forget
set_option maxRecDepth 20000 in
theorem ggX11_systems_J7_fill_53178 : GoodIn wsX11_systems wsJ7_fill_53178 := goodIn_r _ [37] (by decide +kernel) (by decide +kernel)
set_option maxRecDepth 20000 in
theorem gX11_systems_J7_fill_53178 : GoodIn wsX11_systems (va_wsS RX11 84 yJ7_fill_53178 wsJ7_fill_53178) := goodIn_app (goodIn_of _ (by decide +kernel)) ggX11_systems_J7_fill_53178
theorem dX11_systems_0 : decode cX11_systems 0 = .ok (.aload_n 0, 1) := by decide +kernel
theorem dX11_systems_1 : decode cX11_systems 1 = .ok (.getfield 27, 3) := by decide +kernel
theorem dX11_systems_4 : decode cX11_systems 4 = .ok (.aload_n 0, 1) := by decide +kernel
theorem dX11_systems_5 : decode cX11_systems 5 = .ok (.getfield 14, 3) := by decide +kernel
theorem dX11_systems_8 : decode cX11_systems 8 = .ok (.aload_n 0, 1) := by decide +kernel
theorem dX11_systems_9 : decode cX11_systems 9 = .ok (.getfield 80, 3) := by decide +kernel
theorem dX11_systems_12 : decode cX11_systems 12 = .ok (.invokevirtual 106, 3) := by decide +kernel
theorem dX11_systems_15 : decode cX11_systems 15 = .ok (.istore_n 1, 1) := by decide +kernel
theorem dX11_systems_16 : decode cX11_systems 16 = .ok (.aload_n 0, 1) := by decide +kernel
theorem dX11_systems_17 : decode cX11_systems 17 = .ok (.getfield 14, 3) := by decide +kernel
theorem dX11_systems_20 : decode cX11_systems 20 = .ok (.invokevirtual 110, 3) := by decide +kernel
theorem dX11_systems_23 : decode cX11_systems 23 = .ok (.aload_n 0, 1) := by decide +kernel
theorem dX11_systems_24 : decode cX11_systems 24 = .ok (.aload_n 0, 1) := by decide +kernel
theorem dX11_systems_25 : decode cX11_systems 25 = .ok (.getfield 27, 3) := by decide +kernel
theorem dX11_systems_28 : decode cX11_systems 28 = .ok (.getfield 113, 3) := by decide +kernel
theorem dX11_systems_31 : decode cX11_systems 31 = .ok (.getfield 117, 3) := by decide +kernel
theorem dX11_systems_34 : decode cX11_systems 34 = .ok (.putfield 97, 3) := by decide +kernel
theorem dX11_systems_37 : decode cX11_systems 37 = .ok (.iload_n 1, 1) := by decide +kernel
theorem dX11_systems_38 : decode cX11_systems 38 = .ok (.ifCond .ne 16, 3) := by decide +kernel
theorem dX11_systems_41 : decode cX11_systems 41 = .ok (.iconst (-1), 1) := by decide +kernel
theorem dX11_systems_42 : decode cX11_systems 42 = .ok (.aload_n 0, 1) := by decide +kernel
theorem dX11_systems_43 : decode cX11_systems 43 = .ok (.getfield 27, 3) := by decide +kernel
theorem dX11_systems_46 : decode cX11_systems 46 = .ok (.getfield 113, 3) := by decide +kernel
theorem dX11_systems_49 : decode cX11_systems 49 = .ok (.getfield 122, 3) := by decide +kernel
theorem dX11_systems_52 : decode cX11_systems 52 = .ok (.isub, 1) := by decide +kernel
theorem dX11_systems_53 : decode cX11_systems 53 = .ok (.ireturn, 1) := by decide +kernel
theorem dX11_systems_54 : decode cX11_systems 54 = .ok (.aload_n 0, 1) := by decide +kernel
theorem dX11_systems_55 : decode cX11_systems 55 = .ok (.getfield 76, 3) := by decide +kernel
theorem dX11_systems_58 : decode cX11_systems 58 = .ok (.astore_n 2, 1) := by decide +kernel
theorem dX11_systems_59 : decode cX11_systems 59 = .ok (.aload_n 0, 1) := by decide +kernel
theorem dX11_systems_60 : decode cX11_systems 60 = .ok (.aload_n 0, 1) := by decide +kernel
theorem dX11_systems_61 : decode cX11_systems 61 = .ok (.getfield 80, 3) := by decide +kernel
theorem dX11_systems_64 : decode cX11_systems 64 = .ok (.putfield 76, 3) := by decide +kernel
theorem dX11_systems_67 : decode cX11_systems 67 = .ok (.aload_n 0, 1) := by decide +kernel
theorem dX11_systems_68 : decode cX11_systems 68 = .ok (.aload_n 2, 1) := by decide +kernel
theorem dX11_systems_69 : decode cX11_systems 69 = .ok (.putfield 80, 3) := by decide +kernel
theorem dX11_systems_72 : decode cX11_systems 72 = .ok (.aload_n 0, 1) := by decide +kernel
theorem dX11_systems_73 : decode cX11_systems 73 = .ok (.iconst 0, 1) := by decide +kernel
theorem dX11_systems_74 : decode cX11_systems 74 = .ok (.putfield 90, 3) := by decide +kernel
theorem dX11_systems_77 : decode cX11_systems 77 = .ok (.aload_n 0, 1) := by decide +kernel
theorem dX11_systems_78 : decode cX11_systems 78 = .ok (.getfield 48, 3) := by decide +kernel
theorem dX11_systems_81 : decode cX11_systems 81 = .ok (.invokevirtual 125, 3) := by decide +kernel
theorem dX11_systems_84 : decode cX11_systems 84 = .ok (.aload_n 0, 1) := by decide +kernel
theorem dX11_systems_85 : decode cX11_systems 85 = .ok (.getfield 69, 3) := by decide +kernel
theorem dX11_systems_88 : decode cX11_systems 88 = .ok (.iconst (-1), 1) := by decide +kernel
theorem dX11_systems_89 : decode cX11_systems 89 = .ok (.invokestatic 84, 3) := by decide +kernel
theorem dX11_systems_92 : decode cX11_systems 92 = .ok (.aload_n 0, 1) := by decide +kernel
theorem dX11_systems_93 : decode cX11_systems 93 = .ok (.getfield 76, 3) := by decide +kernel
theorem dX11_systems_96 : decode cX11_systems 96 = .ok (.getfield 128, 3) := by decide +kernel
theorem dX11_systems_99 : decode cX11_systems 99 = .ok (.ireturn, 1) := by decide +kernel
theorem dX11_fault_0 : decode cX11_fault 0 = .ok (.aload_n 0, 1) := by decide +kernel
theorem dX11_fault_1 : decode cX11_fault 1 = .ok (.getfield 97, 3) := by decide +kernel
theorem dX11_fault_4 : decode cX11_fault 4 = .ok (.ireturn, 1) := by decide +kernel
set_option maxRecDepth 20000 in
theorem ggX11_system_X11_isSystem : GoodIn wsX11_system wsX11_isSystem := goodIn_r _ [10, 3, 11, 16, 17, 18, 19, 20, 21, 22, 23, 24, 25, 26, 27, 28, 29, 30, 31, 32, 33, 34, 35, 36, 37, 38] (by decide +kernel) (by decide +kernel)
set_option maxRecDepth 20000 in
theorem gX11_system_X11_isSystem : GoodIn wsX11_system (wsV RX11 131 RX11 yX11_isSystem wsX11_isSystem) := goodIn_app (goodIn_of _ (by decide +kernel)) ggX11_system_X11_isSystem
theorem dX11_system_0 : decode cX11_system 0 = .ok (.aload_n 0, 1) := by decide +kernel
theorem dX11_system_1 : decode cX11_system 1 = .ok (.iload_n 1, 1) := by decide +kernel
theorem dX11_system_2 : decode cX11_system 2 = .ok (.invokevirtual 131, 3) := by decide +kernel
theorem dX11_system_5 : decode cX11_system 5 = .ok (.ifCond .eq 12, 3) := by decide +kernel
theorem dX11_system_8 : decode cX11_system 8 = .ok (.iload_n 2, 1) := by decide +kernel
theorem dX11_system_9 : decode cX11_system 9 = .ok (.ifCond .lt 8, 3) := by decide +kernel
theorem dX11_system_12 : decode cX11_system 12 = .ok (.iload_n 2, 1) := by decide +kernel
theorem dX11_system_13 : decode cX11_system 13 = .ok (.iconst 5, 1) := by decide +kernel
theorem dX11_system_14 : decode cX11_system 14 = .ok (.if_icmp .lt 13, 3) := by decide +kernel
theorem dX11_system_17 : decode cX11_system 17 = .ok (.new 135, 3) := by decide +kernel
theorem dX11_system_20 : decode cX11_system 20 = .ok (.dup, 1) := by decide +kernel
theorem dX11_system_21 : decode cX11_system 21 = .ok (.ldc 137, 2) := by decide +kernel
theorem dX11_system_23 : decode cX11_system 23 = .ok (.invokespecial 139, 3) := by decide +kernel
theorem dX11_system_26 : decode cX11_system 26 = .ok (.athrow, 1) := by decide +kernel
theorem dX11_system_27 : decode cX11_system 27 = .ok (.iload_n 2, 1) := by decide +kernel
theorem dX11_system_28 : decode cX11_system 28 = .ok (.ifCond .ne 13, 3) := by decide +kernel
theorem dX11_system_31 : decode cX11_system 31 = .ok (.aload_n 0, 1) := by decide +kernel
theorem dX11_system_32 : decode cX11_system 32 = .ok (.getfield 76, 3) := by decide +kernel
theorem dX11_system_35 : decode cX11_system 35 = .ok (.getfield 142, 3) := by decide +kernel
theorem dX11_system_38 : decode cX11_system 38 = .ok (.iload_n 1, 1) := by decide +kernel
theorem dX11_system_39 : decode cX11_system 39 = .ok (.iaload, 1) := by decide +kernel
theorem dX11_system_40 : decode cX11_system 40 = .ok (.ireturn, 1) := by decide +kernel
theorem dX11_system_41 : decode cX11_system 41 = .ok (.iload_n 2, 1) := by decide +kernel
theorem dX11_system_42 : decode cX11_system 42 = .ok (.aload_n 0, 1) := by decide +kernel
theorem dX11_system_43 : decode cX11_system 43 = .ok (.getfield 76, 3) := by decide +kernel
theorem dX11_system_46 : decode cX11_system 46 = .ok (.getfield 142, 3) := by decide +kernel
theorem dX11_system_49 : decode cX11_system 49 = .ok (.iload_n 1, 1) := by decide +kernel
theorem dX11_system_50 : decode cX11_system 50 = .ok (.iaload, 1) := by decide +kernel
theorem dX11_system_51 : decode cX11_system 51 = .ok (.if_icmp .ge 19, 3) := by decide +kernel
theorem dX11_system_54 : decode cX11_system 54 = .ok (.aload_n 0, 1) := by decide +kernel
theorem dX11_system_55 : decode cX11_system 55 = .ok (.getfield 76, 3) := by decide +kernel
theorem dX11_system_58 : decode cX11_system 58 = .ok (.getfield 145, 3) := by decide +kernel
theorem dX11_system_61 : decode cX11_system 61 = .ok (.iload_n 1, 1) := by decide +kernel
theorem dX11_system_62 : decode cX11_system 62 = .ok (.iload_n 2, 1) := by decide +kernel
theorem dX11_system_63 : decode cX11_system 63 = .ok (.invokestatic 148, 3) := by decide +kernel
theorem dX11_system_66 : decode cX11_system 66 = .ok (.iaload, 1) := by decide +kernel
theorem dX11_system_67 : decode cX11_system 67 = .ok (.goto 4, 3) := by decide +kernel
theorem dX11_system_70 : decode cX11_system 70 = .ok (.iconst (-1), 1) := by decide +kernel
theorem dX11_system_71 : decode cX11_system 71 = .ok (.ireturn, 1) := by decide +kernel
set_option maxRecDepth 20000 in
theorem ggX11_write_X11_isSystem : GoodIn wsX11_write wsX11_isSystem := goodIn_r _ [8, 1, 9, 40, 41, 42, 43, 44, 45, 46, 47, 48, 49, 50, 51, 52, 53, 54, 55, 58, 59, 60, 61, 62, 63, 64] (by decide +kernel) (by decide +kernel)
set_option maxRecDepth 20000 in
theorem gX11_write_X11_isSystem : GoodIn wsX11_write (wsV RX11 131 RX11 yX11_isSystem wsX11_isSystem) := goodIn_app (goodIn_of _ (by decide +kernel)) ggX11_write_X11_isSystem
set_option maxRecDepth 20000 in
theorem ggX11_write_X7_clear : GoodIn wsX11_write wsX7_clear := goodIn_r _ [24, 25, 56, 57] (by decide +kernel) (by decide +kernel)
set_option maxRecDepth 20000 in
theorem gX11_write_X7_clear : GoodIn wsX11_write (wsV RX11 110 RX7 yX7_clear wsX7_clear) := goodIn_app (goodIn_of _ (by decide +kernel)) ggX11_write_X7_clear
theorem dX11_write_0 : decode cX11_write 0 = .ok (.aload_n 0, 1) := by decide +kernel
theorem dX11_write_1 : decode cX11_write 1 = .ok (.iload_n 1, 1) := by decide +kernel
theorem dX11_write_2 : decode cX11_write 2 = .ok (.invokevirtual 131, 3) := by decide +kernel
theorem dX11_write_5 : decode cX11_write 5 = .ok (.ifCond .eq 20, 3) := by decide +kernel
theorem dX11_write_8 : decode cX11_write 8 = .ok (.iload_n 2, 1) := by decide +kernel
theorem dX11_write_9 : decode cX11_write 9 = .ok (.iconst 1, 1) := by decide +kernel
theorem dX11_write_10 : decode cX11_write 10 = .ok (.if_icmp .lt 15, 3) := by decide +kernel
theorem dX11_write_13 : decode cX11_write 13 = .ok (.aload_n 0, 1) := by decide +kernel
theorem dX11_write_14 : decode cX11_write 14 = .ok (.getfield 76, 3) := by decide +kernel
theorem dX11_write_17 : decode cX11_write 17 = .ok (.iload_n 1, 1) := by decide +kernel
theorem dX11_write_18 : decode cX11_write 18 = .ok (.iload_n 2, 1) := by decide +kernel
theorem dX11_write_19 : decode cX11_write 19 = .ok (.invokevirtual 152, 3) := by decide +kernel
theorem dX11_write_22 : decode cX11_write 22 = .ok (.ifCond .ne 5, 3) := by decide +kernel
theorem dX11_write_25 : decode cX11_write 25 = .ok (.iconst (-1), 1) := by decide +kernel
theorem dX11_write_26 : decode cX11_write 26 = .ok (.ireturn, 1) := by decide +kernel
theorem dX11_write_27 : decode cX11_write 27 = .ok (.aload_n 0, 1) := by decide +kernel
theorem dX11_write_28 : decode cX11_write 28 = .ok (.getfield 18, 3) := by decide +kernel
theorem dX11_write_31 : decode cX11_write 31 = .ok (.invokevirtual 110, 3) := by decide +kernel
theorem dX11_write_34 : decode cX11_write 34 = .ok (.aload_n 0, 1) := by decide +kernel
theorem dX11_write_35 : decode cX11_write 35 = .ok (.getfield 76, 3) := by decide +kernel
theorem dX11_write_38 : decode cX11_write 38 = .ok (.aload_n 0, 1) := by decide +kernel
theorem dX11_write_39 : decode cX11_write 39 = .ok (.getfield 18, 3) := by decide +kernel
theorem dX11_write_42 : decode cX11_write 42 = .ok (.iload_n 1, 1) := by decide +kernel
theorem dX11_write_43 : decode cX11_write 43 = .ok (.iload_n 2, 1) := by decide +kernel
theorem dX11_write_44 : decode cX11_write 44 = .ok (.invokevirtual 156, 3) := by decide +kernel
theorem dX11_write_47 : decode cX11_write 47 = .ok (.aload_n 0, 1) := by decide +kernel
theorem dX11_write_48 : decode cX11_write 48 = .ok (.getfield 18, 3) := by decide +kernel
theorem dX11_write_51 : decode cX11_write 51 = .ok (.getfield 100, 3) := by decide +kernel
theorem dX11_write_54 : decode cX11_write 54 = .ok (.ireturn, 1) := by decide +kernel
theorem dX11_octet_0 : decode cX11_octet 0 = .ok (.iload_n 1, 1) := by decide +kernel
theorem dX11_octet_1 : decode cX11_octet 1 = .ok (.ifCond .lt 14, 3) := by decide +kernel
theorem dX11_octet_4 : decode cX11_octet 4 = .ok (.iload_n 1, 1) := by decide +kernel
theorem dX11_octet_5 : decode cX11_octet 5 = .ok (.aload_n 0, 1) := by decide +kernel
theorem dX11_octet_6 : decode cX11_octet 6 = .ok (.getfield 18, 3) := by decide +kernel
theorem dX11_octet_9 : decode cX11_octet 9 = .ok (.getfield 100, 3) := by decide +kernel
theorem dX11_octet_12 : decode cX11_octet 12 = .ok (.if_icmp .lt 13, 3) := by decide +kernel
theorem dX11_octet_15 : decode cX11_octet 15 = .ok (.new 135, 3) := by decide +kernel
theorem dX11_octet_18 : decode cX11_octet 18 = .ok (.dup, 1) := by decide +kernel
theorem dX11_octet_19 : decode cX11_octet 19 = .ok (.ldc 160, 2) := by decide +kernel
theorem dX11_octet_21 : decode cX11_octet 21 = .ok (.invokespecial 139, 3) := by decide +kernel
theorem dX11_octet_24 : decode cX11_octet 24 = .ok (.athrow, 1) := by decide +kernel
theorem dX11_octet_25 : decode cX11_octet 25 = .ok (.aload_n 0, 1) := by decide +kernel
theorem dX11_octet_26 : decode cX11_octet 26 = .ok (.getfield 18, 3) := by decide +kernel
theorem dX11_octet_29 : decode cX11_octet 29 = .ok (.iload_n 1, 1) := by decide +kernel
theorem dX11_octet_30 : decode cX11_octet 30 = .ok (.invokevirtual 162, 3) := by decide +kernel
theorem dX11_octet_33 : decode cX11_octet 33 = .ok (.ireturn, 1) := by decide +kernel
set_option maxRecDepth 20000 in
theorem ggX11_tablet_X7_clear : GoodIn wsX11_tablet wsX7_clear := goodIn_r _ [213, 57, 263, 264] (by decide +kernel) (by decide +kernel)
set_option maxRecDepth 20000 in
theorem gX11_tablet_X7_clear : GoodIn wsX11_tablet (wsV RX11 110 RX7 yX7_clear wsX7_clear) := goodIn_app (goodIn_of _ (by decide +kernel)) ggX11_tablet_X7_clear
theorem dX11_tablet_0 : decode cX11_tablet 0 = .ok (.aload_n 0, 1) := by decide +kernel
theorem dX11_tablet_1 : decode cX11_tablet 1 = .ok (.getfield 90, 3) := by decide +kernel
theorem dX11_tablet_4 : decode cX11_tablet 4 = .ok (.bipush 8, 2) := by decide +kernel
theorem dX11_tablet_6 : decode cX11_tablet 6 = .ok (.if_icmp .ge 17, 3) := by decide +kernel
theorem dX11_tablet_9 : decode cX11_tablet 9 = .ok (.aload_n 0, 1) := by decide +kernel
theorem dX11_tablet_10 : decode cX11_tablet 10 = .ok (.getfield 76, 3) := by decide +kernel
theorem dX11_tablet_13 : decode cX11_tablet 13 = .ok (.getfield 128, 3) := by decide +kernel
theorem dX11_tablet_16 : decode cX11_tablet 16 = .ok (.ifCond .le 7, 3) := by decide +kernel
theorem dX11_tablet_19 : decode cX11_tablet 19 = .ok (.iconst 1, 1) := by decide +kernel
theorem dX11_tablet_20 : decode cX11_tablet 20 = .ok (.goto 4, 3) := by decide +kernel
theorem dX11_tablet_23 : decode cX11_tablet 23 = .ok (.iconst 0, 1) := by decide +kernel
theorem dX11_tablet_24 : decode cX11_tablet 24 = .ok (.istore_n 1, 1) := by decide +kernel
theorem dX11_tablet_25 : decode cX11_tablet 25 = .ok (.iload_n 1, 1) := by decide +kernel
theorem dX11_tablet_26 : decode cX11_tablet 26 = .ok (.ifCond .eq 34, 3) := by decide +kernel
theorem dX11_tablet_29 : decode cX11_tablet 29 = .ok (.aload_n 0, 1) := by decide +kernel
theorem dX11_tablet_30 : decode cX11_tablet 30 = .ok (.getfield 34, 3) := by decide +kernel
theorem dX11_tablet_33 : decode cX11_tablet 33 = .ok (.aload_n 0, 1) := by decide +kernel
theorem dX11_tablet_34 : decode cX11_tablet 34 = .ok (.getfield 14, 3) := by decide +kernel
theorem dX11_tablet_37 : decode cX11_tablet 37 = .ok (.aload_n 0, 1) := by decide +kernel
theorem dX11_tablet_38 : decode cX11_tablet 38 = .ok (.getfield 76, 3) := by decide +kernel
theorem dX11_tablet_41 : decode cX11_tablet 41 = .ok (.aload_n 0, 1) := by decide +kernel
theorem dX11_tablet_42 : decode cX11_tablet 42 = .ok (.getfield 54, 3) := by decide +kernel
theorem dX11_tablet_45 : decode cX11_tablet 45 = .ok (.aload_n 0, 1) := by decide +kernel
theorem dX11_tablet_46 : decode cX11_tablet 46 = .ok (.getfield 90, 3) := by decide +kernel
theorem dX11_tablet_49 : decode cX11_tablet 49 = .ok (.aaload, 1) := by decide +kernel
theorem dX11_tablet_50 : decode cX11_tablet 50 = .ok (.invokevirtual 166, 3) := by decide +kernel
theorem dX11_tablet_53 : decode cX11_tablet 53 = .ok (.ifCond .eq 7, 3) := by decide +kernel
theorem dX11_tablet_56 : decode cX11_tablet 56 = .ok (.iconst 1, 1) := by decide +kernel
theorem dX11_tablet_57 : decode cX11_tablet 57 = .ok (.goto 4, 3) := by decide +kernel
theorem dX11_tablet_60 : decode cX11_tablet 60 = .ok (.iconst 0, 1) := by decide +kernel
theorem dX11_tablet_61 : decode cX11_tablet 61 = .ok (.istore_n 2, 1) := by decide +kernel
theorem dX11_tablet_62 : decode cX11_tablet 62 = .ok (.aload_n 0, 1) := by decide +kernel
theorem dX11_tablet_63 : decode cX11_tablet 63 = .ok (.getfield 14, 3) := by decide +kernel
theorem dX11_tablet_66 : decode cX11_tablet 66 = .ok (.invokevirtual 110, 3) := by decide +kernel
theorem dX11_tablet_69 : decode cX11_tablet 69 = .ok (.iload_n 1, 1) := by decide +kernel
theorem dX11_tablet_70 : decode cX11_tablet 70 = .ok (.ifCond .ne 7, 3) := by decide +kernel
theorem dX11_tablet_73 : decode cX11_tablet 73 = .ok (.sipush (-400), 3) := by decide +kernel
theorem dX11_tablet_76 : decode cX11_tablet 76 = .ok (.ireturn, 1) := by decide +kernel
theorem dX11_tablet_77 : decode cX11_tablet 77 = .ok (.aload_n 0, 1) := by decide +kernel
theorem dX11_tablet_78 : decode cX11_tablet 78 = .ok (.aload_n 0, 1) := by decide +kernel
theorem dX11_tablet_79 : decode cX11_tablet 79 = .ok (.getfield 34, 3) := by decide +kernel
theorem dX11_tablet_82 : decode cX11_tablet 82 = .ok (.getfield 169, 3) := by decide +kernel
theorem dX11_tablet_85 : decode cX11_tablet 85 = .ok (.getfield 117, 3) := by decide +kernel
theorem dX11_tablet_88 : decode cX11_tablet 88 = .ok (.putfield 97, 3) := by decide +kernel
theorem dX11_tablet_91 : decode cX11_tablet 91 = .ok (.iload_n 2, 1) := by decide +kernel
theorem dX11_tablet_92 : decode cX11_tablet 92 = .ok (.ifCond .ne 16, 3) := by decide +kernel
theorem dX11_tablet_95 : decode cX11_tablet 95 = .ok (.iconst (-1), 1) := by decide +kernel
theorem dX11_tablet_96 : decode cX11_tablet 96 = .ok (.aload_n 0, 1) := by decide +kernel
theorem dX11_tablet_97 : decode cX11_tablet 97 = .ok (.getfield 34, 3) := by decide +kernel
theorem dX11_tablet_100 : decode cX11_tablet 100 = .ok (.getfield 169, 3) := by decide +kernel
theorem dX11_tablet_103 : decode cX11_tablet 103 = .ok (.getfield 122, 3) := by decide +kernel
theorem dX11_tablet_106 : decode cX11_tablet 106 = .ok (.isub, 1) := by decide +kernel
theorem dX11_tablet_107 : decode cX11_tablet 107 = .ok (.ireturn, 1) := by decide +kernel
theorem dX11_tablet_108 : decode cX11_tablet 108 = .ok (.aload_n 0, 1) := by decide +kernel
theorem dX11_tablet_109 : decode cX11_tablet 109 = .ok (.dup, 1) := by decide +kernel
theorem dX11_tablet_110 : decode cX11_tablet 110 = .ok (.getfield 90, 3) := by decide +kernel
theorem dX11_tablet_113 : decode cX11_tablet 113 = .ok (.iconst 1, 1) := by decide +kernel
theorem dX11_tablet_114 : decode cX11_tablet 114 = .ok (.iadd, 1) := by decide +kernel
theorem dX11_tablet_115 : decode cX11_tablet 115 = .ok (.putfield 90, 3) := by decide +kernel
theorem dX11_tablet_118 : decode cX11_tablet 118 = .ok (.aload_n 0, 1) := by decide +kernel
theorem dX11_tablet_119 : decode cX11_tablet 119 = .ok (.getfield 90, 3) := by decide +kernel
theorem dX11_tablet_122 : decode cX11_tablet 122 = .ok (.iconst 1, 1) := by decide +kernel
theorem dX11_tablet_123 : decode cX11_tablet 123 = .ok (.isub, 1) := by decide +kernel
theorem dX11_tablet_124 : decode cX11_tablet 124 = .ok (.ireturn, 1) := by decide +kernel
set_option maxRecDepth 20000 in
theorem ggX11_line_X11_isLine : GoodIn wsX11_line wsX11_isLine := goodIn_r _ [13, 3, 14, 15, 16, 17, 12, 18, 19, 20, 21, 22, 23, 24, 25, 26, 27, 28, 29, 30, 31, 32, 33, 34, 35, 36, 37, 38, 39, 40, 41, 42] (by decide +kernel) (by decide +kernel)
set_option maxRecDepth 20000 in
theorem gX11_line_X11_isLine : GoodIn wsX11_line (wsV RX11 170 RX11 yX11_isLine wsX11_isLine) := goodIn_app (goodIn_of _ (by decide +kernel)) ggX11_line_X11_isLine
theorem dX11_line_0 : decode cX11_line 0 = .ok (.aload_n 0, 1) := by decide +kernel
theorem dX11_line_1 : decode cX11_line 1 = .ok (.iload_n 1, 1) := by decide +kernel
theorem dX11_line_2 : decode cX11_line 2 = .ok (.iload_n 2, 1) := by decide +kernel
theorem dX11_line_3 : decode cX11_line 3 = .ok (.invokevirtual 170, 3) := by decide +kernel
theorem dX11_line_6 : decode cX11_line 6 = .ok (.ifCond .eq 12, 3) := by decide +kernel
theorem dX11_line_9 : decode cX11_line 9 = .ok (.iload_n 3, 1) := by decide +kernel
theorem dX11_line_10 : decode cX11_line 10 = .ok (.ifCond .lt 8, 3) := by decide +kernel
theorem dX11_line_13 : decode cX11_line 13 = .ok (.iload_n 3, 1) := by decide +kernel
theorem dX11_line_14 : decode cX11_line 14 = .ok (.iconst 3, 1) := by decide +kernel
theorem dX11_line_15 : decode cX11_line 15 = .ok (.if_icmp .le 13, 3) := by decide +kernel
theorem dX11_line_18 : decode cX11_line 18 = .ok (.new 135, 3) := by decide +kernel
theorem dX11_line_21 : decode cX11_line 21 = .ok (.dup, 1) := by decide +kernel
theorem dX11_line_22 : decode cX11_line 22 = .ok (.ldc 173, 2) := by decide +kernel
theorem dX11_line_24 : decode cX11_line 24 = .ok (.invokespecial 139, 3) := by decide +kernel
theorem dX11_line_27 : decode cX11_line 27 = .ok (.athrow, 1) := by decide +kernel
theorem dX11_line_28 : decode cX11_line 28 = .ok (.aload_n 0, 1) := by decide +kernel
theorem dX11_line_29 : decode cX11_line 29 = .ok (.getfield 54, 3) := by decide +kernel
theorem dX11_line_32 : decode cX11_line 32 = .ok (.iload_n 1, 1) := by decide +kernel
theorem dX11_line_33 : decode cX11_line 33 = .ok (.aaload, 1) := by decide +kernel
theorem dX11_line_34 : decode cX11_line 34 = .ok (.getfield 175, 3) := by decide +kernel
theorem dX11_line_37 : decode cX11_line 37 = .ok (.iload_n 2, 1) := by decide +kernel
theorem dX11_line_38 : decode cX11_line 38 = .ok (.aaload, 1) := by decide +kernel
theorem dX11_line_39 : decode cX11_line 39 = .ok (.astore 4, 2) := by decide +kernel
theorem dX11_line_41 : decode cX11_line 41 = .ok (.iload_n 3, 1) := by decide +kernel
theorem dX11_line_42 : decode cX11_line 42 = .ok (.tableswitch 44 0 2 #[26, 32, 38], 26) := by decide +kernel
theorem dX11_line_68 : decode cX11_line 68 = .ok (.aload 4, 2) := by decide +kernel
theorem dX11_line_70 : decode cX11_line 70 = .ok (.getfield 179, 3) := by decide +kernel
theorem dX11_line_73 : decode cX11_line 73 = .ok (.ireturn, 1) := by decide +kernel
theorem dX11_line_74 : decode cX11_line 74 = .ok (.aload 4, 2) := by decide +kernel
theorem dX11_line_76 : decode cX11_line 76 = .ok (.getfield 184, 3) := by decide +kernel
theorem dX11_line_79 : decode cX11_line 79 = .ok (.ireturn, 1) := by decide +kernel
theorem dX11_line_80 : decode cX11_line 80 = .ok (.aload 4, 2) := by decide +kernel
theorem dX11_line_82 : decode cX11_line 82 = .ok (.getfield 187, 3) := by decide +kernel
theorem dX11_line_85 : decode cX11_line 85 = .ok (.ireturn, 1) := by decide +kernel
theorem dX11_line_86 : decode cX11_line 86 = .ok (.aload 4, 2) := by decide +kernel
theorem dX11_line_88 : decode cX11_line 88 = .ok (.getfield 187, 3) := by decide +kernel
theorem dX11_line_91 : decode cX11_line 91 = .ok (.ifCond .ne 11, 3) := by decide +kernel
theorem dX11_line_94 : decode cX11_line 94 = .ok (.aload 4, 2) := by decide +kernel
theorem dX11_line_96 : decode cX11_line 96 = .ok (.getfield 190, 3) := by decide +kernel
theorem dX11_line_99 : decode cX11_line 99 = .ok (.goto 4, 3) := by decide +kernel
theorem dX11_line_102 : decode cX11_line 102 = .ok (.iconst (-1), 1) := by decide +kernel
theorem dX11_line_103 : decode cX11_line 103 = .ok (.ireturn, 1) := by decide +kernel
set_option maxRecDepth 20000 in
theorem ggX11_lines_X11_isTablet : GoodIn wsX11_lines wsX11_isTablet := goodIn_r _ [7, 8, 9, 10, 11, 12, 13, 14, 15, 16, 17, 18, 19, 20, 21, 22, 23, 24] (by decide +kernel) (by decide +kernel)
set_option maxRecDepth 20000 in
theorem gX11_lines_X11_isTablet : GoodIn wsX11_lines (wsV RX11 193 RX11 yX11_isTablet wsX11_isTablet) := goodIn_app (goodIn_of _ (by decide +kernel)) ggX11_lines_X11_isTablet
theorem dX11_lines_0 : decode cX11_lines 0 = .ok (.aload_n 0, 1) := by decide +kernel
theorem dX11_lines_1 : decode cX11_lines 1 = .ok (.iload_n 1, 1) := by decide +kernel
theorem dX11_lines_2 : decode cX11_lines 2 = .ok (.invokevirtual 193, 3) := by decide +kernel
theorem dX11_lines_5 : decode cX11_lines 5 = .ok (.ifCond .eq 15, 3) := by decide +kernel
theorem dX11_lines_8 : decode cX11_lines 8 = .ok (.aload_n 0, 1) := by decide +kernel
theorem dX11_lines_9 : decode cX11_lines 9 = .ok (.getfield 54, 3) := by decide +kernel
theorem dX11_lines_12 : decode cX11_lines 12 = .ok (.iload_n 1, 1) := by decide +kernel
theorem dX11_lines_13 : decode cX11_lines 13 = .ok (.aaload, 1) := by decide +kernel
theorem dX11_lines_14 : decode cX11_lines 14 = .ok (.getfield 196, 3) := by decide +kernel
theorem dX11_lines_17 : decode cX11_lines 17 = .ok (.goto 4, 3) := by decide +kernel
theorem dX11_lines_20 : decode cX11_lines 20 = .ok (.iconst (-1), 1) := by decide +kernel
theorem dX11_lines_21 : decode cX11_lines 21 = .ok (.ireturn, 1) := by decide +kernel
set_option maxRecDepth 20000 in
theorem ggX11_readings_X11_isTablet : GoodIn wsX11_readings wsX11_isTablet := goodIn_r _ [6, 7, 105, 106, 107, 108, 109, 110, 111, 112, 113, 114, 115, 116, 117, 118, 119, 120] (by decide +kernel) (by decide +kernel)
set_option maxRecDepth 20000 in
theorem gX11_readings_X11_isTablet : GoodIn wsX11_readings (wsV RX11 193 RX11 yX11_isTablet wsX11_isTablet) := goodIn_app (goodIn_of _ (by decide +kernel)) ggX11_readings_X11_isTablet
theorem dX11_readings_0 : decode cX11_readings 0 = .ok (.aload_n 0, 1) := by decide +kernel
theorem dX11_readings_1 : decode cX11_readings 1 = .ok (.iload_n 1, 1) := by decide +kernel
theorem dX11_readings_2 : decode cX11_readings 2 = .ok (.invokevirtual 193, 3) := by decide +kernel
theorem dX11_readings_5 : decode cX11_readings 5 = .ok (.ifCond .eq 14, 3) := by decide +kernel
theorem dX11_readings_8 : decode cX11_readings 8 = .ok (.aload_n 0, 1) := by decide +kernel
theorem dX11_readings_9 : decode cX11_readings 9 = .ok (.iload_n 1, 1) := by decide +kernel
theorem dX11_readings_10 : decode cX11_readings 10 = .ok (.invokevirtual 199, 3) := by decide +kernel
theorem dX11_readings_13 : decode cX11_readings 13 = .ok (.getfield 203, 3) := by decide +kernel
theorem dX11_readings_16 : decode cX11_readings 16 = .ok (.goto 4, 3) := by decide +kernel
theorem dX11_readings_19 : decode cX11_readings 19 = .ok (.iconst (-1), 1) := by decide +kernel
theorem dX11_readings_20 : decode cX11_readings 20 = .ok (.ireturn, 1) := by decide +kernel
set_option maxRecDepth 20000 in
theorem ggX11_bound_X11_isLine : GoodIn wsX11_bound wsX11_isLine := goodIn_r _ [9, 10, 11, 12, 13, 14, 8, 15, 16, 119, 120, 121, 122, 123, 124, 125, 126, 127, 128, 129, 130, 131, 132, 133, 134, 112, 113, 114, 115, 116, 117, 118] (by decide +kernel) (by decide +kernel)
set_option maxRecDepth 20000 in
theorem gX11_bound_X11_isLine : GoodIn wsX11_bound (wsV RX11 170 RX11 yX11_isLine wsX11_isLine) := goodIn_app (goodIn_of _ (by decide +kernel)) ggX11_bound_X11_isLine
theorem dX11_bound_0 : decode cX11_bound 0 = .ok (.aload_n 0, 1) := by decide +kernel
theorem dX11_bound_1 : decode cX11_bound 1 = .ok (.iload_n 1, 1) := by decide +kernel
theorem dX11_bound_2 : decode cX11_bound 2 = .ok (.iload_n 2, 1) := by decide +kernel
theorem dX11_bound_3 : decode cX11_bound 3 = .ok (.invokevirtual 170, 3) := by decide +kernel
theorem dX11_bound_6 : decode cX11_bound 6 = .ok (.ifCond .ne 13, 3) := by decide +kernel
theorem dX11_bound_9 : decode cX11_bound 9 = .ok (.new 135, 3) := by decide +kernel
theorem dX11_bound_12 : decode cX11_bound 12 = .ok (.dup, 1) := by decide +kernel
theorem dX11_bound_13 : decode cX11_bound 13 = .ok (.ldc 206, 2) := by decide +kernel
theorem dX11_bound_15 : decode cX11_bound 15 = .ok (.invokespecial 139, 3) := by decide +kernel
theorem dX11_bound_18 : decode cX11_bound 18 = .ok (.athrow, 1) := by decide +kernel
theorem dX11_bound_19 : decode cX11_bound 19 = .ok (.aload_n 0, 1) := by decide +kernel
theorem dX11_bound_20 : decode cX11_bound 20 = .ok (.iload_n 1, 1) := by decide +kernel
theorem dX11_bound_21 : decode cX11_bound 21 = .ok (.invokevirtual 199, 3) := by decide +kernel
theorem dX11_bound_24 : decode cX11_bound 24 = .ok (.astore 4, 2) := by decide +kernel
theorem dX11_bound_26 : decode cX11_bound 26 = .ok (.aload 4, 2) := by decide +kernel
theorem dX11_bound_28 : decode cX11_bound 28 = .ok (.getfield 203, 3) := by decide +kernel
theorem dX11_bound_31 : decode cX11_bound 31 = .ok (.ifCond .ne 7, 3) := by decide +kernel
theorem dX11_bound_34 : decode cX11_bound 34 = .ok (.iconst (-1), 1) := by decide +kernel
theorem dX11_bound_35 : decode cX11_bound 35 = .ok (.goto 14, 3) := by decide +kernel
theorem dX11_bound_38 : decode cX11_bound 38 = .ok (.aload 4, 2) := by decide +kernel
theorem dX11_bound_40 : decode cX11_bound 40 = .ok (.getfield 175, 3) := by decide +kernel
theorem dX11_bound_43 : decode cX11_bound 43 = .ok (.iload_n 2, 1) := by decide +kernel
theorem dX11_bound_44 : decode cX11_bound 44 = .ok (.aaload, 1) := by decide +kernel
theorem dX11_bound_45 : decode cX11_bound 45 = .ok (.iload_n 3, 1) := by decide +kernel
theorem dX11_bound_46 : decode cX11_bound 46 = .ok (.invokevirtual 208, 3) := by decide +kernel
theorem dX11_bound_49 : decode cX11_bound 49 = .ok (.ireturn, 1) := by decide +kernel
set_option maxRecDepth 20000 in
theorem ggX11_digit_X11_isTablet : GoodIn wsX11_digit wsX11_isTablet := goodIn_r _ [12, 13, 103, 104, 105, 106, 107, 108, 109, 110, 111, 112, 113, 114, 115, 116, 117, 118] (by decide +kernel) (by decide +kernel)
set_option maxRecDepth 20000 in
theorem gX11_digit_X11_isTablet : GoodIn wsX11_digit (wsV RX11 193 RX11 yX11_isTablet wsX11_isTablet) := goodIn_app (goodIn_of _ (by decide +kernel)) ggX11_digit_X11_isTablet
theorem dX11_digit_0 : decode cX11_digit 0 = .ok (.aload_n 0, 1) := by decide +kernel
theorem dX11_digit_1 : decode cX11_digit 1 = .ok (.iload_n 1, 1) := by decide +kernel
theorem dX11_digit_2 : decode cX11_digit 2 = .ok (.invokevirtual 193, 3) := by decide +kernel
theorem dX11_digit_5 : decode cX11_digit 5 = .ok (.ifCond .eq 20, 3) := by decide +kernel
theorem dX11_digit_8 : decode cX11_digit 8 = .ok (.iload_n 2, 1) := by decide +kernel
theorem dX11_digit_9 : decode cX11_digit 9 = .ok (.ifCond .lt 16, 3) := by decide +kernel
theorem dX11_digit_12 : decode cX11_digit 12 = .ok (.iload_n 2, 1) := by decide +kernel
theorem dX11_digit_13 : decode cX11_digit 13 = .ok (.aload_n 0, 1) := by decide +kernel
theorem dX11_digit_14 : decode cX11_digit 14 = .ok (.getfield 54, 3) := by decide +kernel
theorem dX11_digit_17 : decode cX11_digit 17 = .ok (.iload_n 1, 1) := by decide +kernel
theorem dX11_digit_18 : decode cX11_digit 18 = .ok (.aaload, 1) := by decide +kernel
theorem dX11_digit_19 : decode cX11_digit 19 = .ok (.getfield 212, 3) := by decide +kernel
theorem dX11_digit_22 : decode cX11_digit 22 = .ok (.if_icmp .lt 13, 3) := by decide +kernel
theorem dX11_digit_25 : decode cX11_digit 25 = .ok (.new 135, 3) := by decide +kernel
theorem dX11_digit_28 : decode cX11_digit 28 = .ok (.dup, 1) := by decide +kernel
theorem dX11_digit_29 : decode cX11_digit 29 = .ok (.ldc 213, 2) := by decide +kernel
theorem dX11_digit_31 : decode cX11_digit 31 = .ok (.invokespecial 139, 3) := by decide +kernel
theorem dX11_digit_34 : decode cX11_digit 34 = .ok (.athrow, 1) := by decide +kernel
theorem dX11_digit_35 : decode cX11_digit 35 = .ok (.aload_n 0, 1) := by decide +kernel
theorem dX11_digit_36 : decode cX11_digit 36 = .ok (.iload_n 1, 1) := by decide +kernel
theorem dX11_digit_37 : decode cX11_digit 37 = .ok (.invokevirtual 199, 3) := by decide +kernel
theorem dX11_digit_40 : decode cX11_digit 40 = .ok (.astore_n 3, 1) := by decide +kernel
theorem dX11_digit_41 : decode cX11_digit 41 = .ok (.aload_n 3, 1) := by decide +kernel
theorem dX11_digit_42 : decode cX11_digit 42 = .ok (.getfield 203, 3) := by decide +kernel
theorem dX11_digit_45 : decode cX11_digit 45 = .ok (.ifCond .ne 7, 3) := by decide +kernel
theorem dX11_digit_48 : decode cX11_digit 48 = .ok (.iconst (-1), 1) := by decide +kernel
theorem dX11_digit_49 : decode cX11_digit 49 = .ok (.goto 12, 3) := by decide +kernel
theorem dX11_digit_52 : decode cX11_digit 52 = .ok (.aload_n 3, 1) := by decide +kernel
theorem dX11_digit_53 : decode cX11_digit 53 = .ok (.getfield 215, 3) := by decide +kernel
theorem dX11_digit_56 : decode cX11_digit 56 = .ok (.iload_n 2, 1) := by decide +kernel
theorem dX11_digit_57 : decode cX11_digit 57 = .ok (.aaload, 1) := by decide +kernel
theorem dX11_digit_58 : decode cX11_digit 58 = .ok (.getfield 219, 3) := by decide +kernel
theorem dX11_digit_61 : decode cX11_digit 61 = .ok (.ireturn, 1) := by decide +kernel
set_option maxRecDepth 20000 in
theorem ggX11_wrong_X11_isTablet : GoodIn wsX11_wrong wsX11_isTablet := goodIn_r _ [6, 7, 105, 106, 107, 108, 109, 110, 111, 112, 113, 114, 115, 116, 117, 118, 119, 120] (by decide +kernel) (by decide +kernel)
set_option maxRecDepth 20000 in
theorem gX11_wrong_X11_isTablet : GoodIn wsX11_wrong (wsV RX11 193 RX11 yX11_isTablet wsX11_isTablet) := goodIn_app (goodIn_of _ (by decide +kernel)) ggX11_wrong_X11_isTablet
theorem dX11_wrong_0 : decode cX11_wrong 0 = .ok (.aload_n 0, 1) := by decide +kernel
theorem dX11_wrong_1 : decode cX11_wrong 1 = .ok (.iload_n 1, 1) := by decide +kernel
theorem dX11_wrong_2 : decode cX11_wrong 2 = .ok (.invokevirtual 193, 3) := by decide +kernel
theorem dX11_wrong_5 : decode cX11_wrong 5 = .ok (.ifCond .eq 14, 3) := by decide +kernel
theorem dX11_wrong_8 : decode cX11_wrong 8 = .ok (.aload_n 0, 1) := by decide +kernel
theorem dX11_wrong_9 : decode cX11_wrong 9 = .ok (.iload_n 1, 1) := by decide +kernel
theorem dX11_wrong_10 : decode cX11_wrong 10 = .ok (.invokevirtual 199, 3) := by decide +kernel
theorem dX11_wrong_13 : decode cX11_wrong 13 = .ok (.getfield 224, 3) := by decide +kernel
theorem dX11_wrong_16 : decode cX11_wrong 16 = .ok (.goto 4, 3) := by decide +kernel
theorem dX11_wrong_19 : decode cX11_wrong 19 = .ok (.iconst (-1), 1) := by decide +kernel
theorem dX11_wrong_20 : decode cX11_wrong 20 = .ok (.ireturn, 1) := by decide +kernel
set_option maxRecDepth 20000 in
theorem ggX11_fragment_X11_isEdge : GoodIn wsX11_fragment wsX11_isEdge := goodIn_r _ [8, 9] (by decide +kernel) (by decide +kernel)
set_option maxRecDepth 20000 in
theorem gX11_fragment_X11_isEdge : GoodIn wsX11_fragment (va_wsS RX11 227 yX11_isEdge wsX11_isEdge) := goodIn_app (goodIn_of _ (by decide +kernel)) ggX11_fragment_X11_isEdge
set_option maxRecDepth 20000 in
theorem ggX11_fragment_X0_take : GoodIn wsX11_fragment wsX0_take := goodIn_r _ [14, 15, 16, 17, 18, 19, 20, 21, 22, 23, 24, 25, 26, 27, 28, 29, 30, 31, 32, 33, 34, 54, 55, 56, 57, 52, 53] (by decide +kernel) (by decide +kernel)
set_option maxRecDepth 20000 in
theorem gX11_fragment_X0_take : GoodIn wsX11_fragment (wsV RX11 230 RX0 yX0_take wsX0_take) := goodIn_app (goodIn_of _ (by decide +kernel)) ggX11_fragment_X0_take
set_option maxRecDepth 20000 in
theorem ggX11_fragment_X7_clear : GoodIn wsX11_fragment wsX7_clear := goodIn_r _ [24, 25, 52, 53] (by decide +kernel) (by decide +kernel)
set_option maxRecDepth 20000 in
theorem gX11_fragment_X7_clear : GoodIn wsX11_fragment (wsV RX11 110 RX7 yX7_clear wsX7_clear) := goodIn_app (goodIn_of _ (by decide +kernel)) ggX11_fragment_X7_clear
theorem dX11_fragment_0 : decode cX11_fragment 0 = .ok (.aload_n 0, 1) := by decide +kernel
theorem dX11_fragment_1 : decode cX11_fragment 1 = .ok (.getfield 94, 3) := by decide +kernel
theorem dX11_fragment_4 : decode cX11_fragment 4 = .ok (.bipush 12, 2) := by decide +kernel
theorem dX11_fragment_6 : decode cX11_fragment 6 = .ok (.if_icmp .ge 34, 3) := by decide +kernel
theorem dX11_fragment_9 : decode cX11_fragment 9 = .ok (.iload_n 1, 1) := by decide +kernel
theorem dX11_fragment_10 : decode cX11_fragment 10 = .ok (.invokestatic 227, 3) := by decide +kernel
theorem dX11_fragment_13 : decode cX11_fragment 13 = .ok (.ifCond .eq 27, 3) := by decide +kernel
theorem dX11_fragment_16 : decode cX11_fragment 16 = .ok (.iload_n 2, 1) := by decide +kernel
theorem dX11_fragment_17 : decode cX11_fragment 17 = .ok (.invokestatic 227, 3) := by decide +kernel
theorem dX11_fragment_20 : decode cX11_fragment 20 = .ok (.ifCond .eq 20, 3) := by decide +kernel
theorem dX11_fragment_23 : decode cX11_fragment 23 = .ok (.aload_n 0, 1) := by decide +kernel
theorem dX11_fragment_24 : decode cX11_fragment 24 = .ok (.getfield 14, 3) := by decide +kernel
theorem dX11_fragment_27 : decode cX11_fragment 27 = .ok (.getfield 100, 3) := by decide +kernel
theorem dX11_fragment_30 : decode cX11_fragment 30 = .ok (.sipush 200, 3) := by decide +kernel
theorem dX11_fragment_33 : decode cX11_fragment 33 = .ok (.if_icmp .gt 7, 3) := by decide +kernel
theorem dX11_fragment_36 : decode cX11_fragment 36 = .ok (.iconst 1, 1) := by decide +kernel
theorem dX11_fragment_37 : decode cX11_fragment 37 = .ok (.goto 4, 3) := by decide +kernel
theorem dX11_fragment_40 : decode cX11_fragment 40 = .ok (.iconst 0, 1) := by decide +kernel
theorem dX11_fragment_41 : decode cX11_fragment 41 = .ok (.istore_n 3, 1) := by decide +kernel
theorem dX11_fragment_42 : decode cX11_fragment 42 = .ok (.iload_n 3, 1) := by decide +kernel
theorem dX11_fragment_43 : decode cX11_fragment 43 = .ok (.ifCond .eq 31, 3) := by decide +kernel
theorem dX11_fragment_46 : decode cX11_fragment 46 = .ok (.aload_n 0, 1) := by decide +kernel
theorem dX11_fragment_47 : decode cX11_fragment 47 = .ok (.getfield 65, 3) := by decide +kernel
theorem dX11_fragment_50 : decode cX11_fragment 50 = .ok (.aload_n 0, 1) := by decide +kernel
theorem dX11_fragment_51 : decode cX11_fragment 51 = .ok (.getfield 94, 3) := by decide +kernel
theorem dX11_fragment_54 : decode cX11_fragment 54 = .ok (.aaload, 1) := by decide +kernel
theorem dX11_fragment_55 : decode cX11_fragment 55 = .ok (.aload_n 0, 1) := by decide +kernel
theorem dX11_fragment_56 : decode cX11_fragment 56 = .ok (.getfield 14, 3) := by decide +kernel
theorem dX11_fragment_59 : decode cX11_fragment 59 = .ok (.iload_n 1, 1) := by decide +kernel
theorem dX11_fragment_60 : decode cX11_fragment 60 = .ok (.iload_n 2, 1) := by decide +kernel
theorem dX11_fragment_61 : decode cX11_fragment 61 = .ok (.invokevirtual 230, 3) := by decide +kernel
theorem dX11_fragment_64 : decode cX11_fragment 64 = .ok (.aload_n 0, 1) := by decide +kernel
theorem dX11_fragment_65 : decode cX11_fragment 65 = .ok (.dup, 1) := by decide +kernel
theorem dX11_fragment_66 : decode cX11_fragment 66 = .ok (.getfield 94, 3) := by decide +kernel
theorem dX11_fragment_69 : decode cX11_fragment 69 = .ok (.iconst 1, 1) := by decide +kernel
theorem dX11_fragment_70 : decode cX11_fragment 70 = .ok (.iadd, 1) := by decide +kernel
theorem dX11_fragment_71 : decode cX11_fragment 71 = .ok (.putfield 94, 3) := by decide +kernel
theorem dX11_fragment_74 : decode cX11_fragment 74 = .ok (.aload_n 0, 1) := by decide +kernel
theorem dX11_fragment_75 : decode cX11_fragment 75 = .ok (.getfield 14, 3) := by decide +kernel
theorem dX11_fragment_78 : decode cX11_fragment 78 = .ok (.invokevirtual 110, 3) := by decide +kernel
theorem dX11_fragment_81 : decode cX11_fragment 81 = .ok (.iload_n 3, 1) := by decide +kernel
theorem dX11_fragment_82 : decode cX11_fragment 82 = .ok (.ifCond .eq 12, 3) := by decide +kernel
theorem dX11_fragment_85 : decode cX11_fragment 85 = .ok (.aload_n 0, 1) := by decide +kernel
theorem dX11_fragment_86 : decode cX11_fragment 86 = .ok (.getfield 94, 3) := by decide +kernel
theorem dX11_fragment_89 : decode cX11_fragment 89 = .ok (.iconst 1, 1) := by decide +kernel
theorem dX11_fragment_90 : decode cX11_fragment 90 = .ok (.isub, 1) := by decide +kernel
theorem dX11_fragment_91 : decode cX11_fragment 91 = .ok (.goto 4, 3) := by decide +kernel
theorem dX11_fragment_94 : decode cX11_fragment 94 = .ok (.iconst (-1), 1) := by decide +kernel
theorem dX11_fragment_95 : decode cX11_fragment 95 = .ok (.ireturn, 1) := by decide +kernel
set_option maxRecDepth 20000 in
theorem ggX11_rows_X11_isFragment : GoodIn wsX11_rows wsX11_isFragment := goodIn_r _ [7, 8, 9, 10, 11, 12, 13, 14, 15, 16, 17, 18, 19, 20, 21, 22, 23, 24] (by decide +kernel) (by decide +kernel)
set_option maxRecDepth 20000 in
theorem gX11_rows_X11_isFragment : GoodIn wsX11_rows (wsV RX11 233 RX11 yX11_isFragment wsX11_isFragment) := goodIn_app (goodIn_of _ (by decide +kernel)) ggX11_rows_X11_isFragment
theorem dX11_rows_0 : decode cX11_rows 0 = .ok (.aload_n 0, 1) := by decide +kernel
theorem dX11_rows_1 : decode cX11_rows 1 = .ok (.iload_n 1, 1) := by decide +kernel
theorem dX11_rows_2 : decode cX11_rows 2 = .ok (.invokevirtual 233, 3) := by decide +kernel
theorem dX11_rows_5 : decode cX11_rows 5 = .ok (.ifCond .eq 15, 3) := by decide +kernel
theorem dX11_rows_8 : decode cX11_rows 8 = .ok (.aload_n 0, 1) := by decide +kernel
theorem dX11_rows_9 : decode cX11_rows 9 = .ok (.getfield 65, 3) := by decide +kernel
theorem dX11_rows_12 : decode cX11_rows 12 = .ok (.iload_n 1, 1) := by decide +kernel
theorem dX11_rows_13 : decode cX11_rows 13 = .ok (.aaload, 1) := by decide +kernel
theorem dX11_rows_14 : decode cX11_rows 14 = .ok (.getfield 236, 3) := by decide +kernel
theorem dX11_rows_17 : decode cX11_rows 17 = .ok (.goto 4, 3) := by decide +kernel
theorem dX11_rows_20 : decode cX11_rows 20 = .ok (.iconst (-1), 1) := by decide +kernel
theorem dX11_rows_21 : decode cX11_rows 21 = .ok (.ireturn, 1) := by decide +kernel
set_option maxRecDepth 20000 in
theorem ggX11_join_X11_isFragment : GoodIn wsX11_join wsX11_isFragment := goodIn_r _ [5, 6, 322, 323, 324, 325, 326, 327, 328, 329, 330, 331, 332, 333, 334, 335, 336, 337] (by decide +kernel) (by decide +kernel)
set_option maxRecDepth 20000 in
theorem gX11_join_X11_isFragment : GoodIn wsX11_join (wsV RX11 233 RX11 yX11_isFragment wsX11_isFragment) := goodIn_app (goodIn_of _ (by decide +kernel)) ggX11_join_X11_isFragment
theorem dX11_join_0 : decode cX11_join 0 = .ok (.aload_n 0, 1) := by decide +kernel
theorem dX11_join_1 : decode cX11_join 1 = .ok (.iload_n 1, 1) := by decide +kernel
theorem dX11_join_2 : decode cX11_join 2 = .ok (.invokevirtual 233, 3) := by decide +kernel
theorem dX11_join_5 : decode cX11_join 5 = .ok (.ifCond .eq 16, 3) := by decide +kernel
theorem dX11_join_8 : decode cX11_join 8 = .ok (.aload_n 0, 1) := by decide +kernel
theorem dX11_join_9 : decode cX11_join 9 = .ok (.iload_n 2, 1) := by decide +kernel
theorem dX11_join_10 : decode cX11_join 10 = .ok (.invokevirtual 233, 3) := by decide +kernel
theorem dX11_join_13 : decode cX11_join 13 = .ok (.ifCond .eq 8, 3) := by decide +kernel
theorem dX11_join_16 : decode cX11_join 16 = .ok (.iload_n 1, 1) := by decide +kernel
theorem dX11_join_17 : decode cX11_join 17 = .ok (.iload_n 2, 1) := by decide +kernel
theorem dX11_join_18 : decode cX11_join 18 = .ok (.if_icmp .ne 5, 3) := by decide +kernel
theorem dX11_join_21 : decode cX11_join 21 = .ok (.iconst (-1), 1) := by decide +kernel
theorem dX11_join_22 : decode cX11_join 22 = .ok (.ireturn, 1) := by decide +kernel
theorem dX11_join_23 : decode cX11_join 23 = .ok (.aload_n 0, 1) := by decide +kernel
theorem dX11_join_24 : decode cX11_join 24 = .ok (.iload_n 1, 1) := by decide +kernel
theorem dX11_join_25 : decode cX11_join 25 = .ok (.iload_n 2, 1) := by decide +kernel
theorem dX11_join_26 : decode cX11_join 26 = .ok (.invokevirtual 239, 3) := by decide +kernel
theorem dX11_join_29 : decode cX11_join 29 = .ok (.ireturn, 1) := by decide +kernel
set_option maxRecDepth 20000 in
theorem ggX11_match_X3_pairUp : GoodIn wsX11_match wsX3_pairUp := goodIn_r _ [330, 331, 91, 5, 92, 332, 333, 334, 335, 324, 336, 337, 338, 339, 340, 341, 342, 343, 344, 345, 346, 347, 326, 348, 4, 6, 349, 350, 351, 352, 369, 370, 371, 372, 373] (by decide +kernel) (by decide +kernel)
set_option maxRecDepth 20000 in
theorem gX11_match_X3_pairUp : GoodIn wsX11_match (wsV RX11 251 RX3 yX3_pairUp wsX3_pairUp) := goodIn_app (goodIn_of _ (by decide +kernel)) ggX11_match_X3_pairUp
theorem dX11_match_0 : decode cX11_match 0 = .ok (.iconst 0, 1) := by decide +kernel
theorem dX11_match_1 : decode cX11_match 1 = .ok (.istore_n 1, 1) := by decide +kernel
theorem dX11_match_2 : decode cX11_match 2 = .ok (.iload_n 1, 1) := by decide +kernel
theorem dX11_match_3 : decode cX11_match 3 = .ok (.aload_n 0, 1) := by decide +kernel
theorem dX11_match_4 : decode cX11_match 4 = .ok (.getfield 94, 3) := by decide +kernel
theorem dX11_match_7 : decode cX11_match 7 = .ok (.if_icmp .ge 51, 3) := by decide +kernel
theorem dX11_match_10 : decode cX11_match 10 = .ok (.iload_n 1, 1) := by decide +kernel
theorem dX11_match_11 : decode cX11_match 11 = .ok (.iconst 1, 1) := by decide +kernel
theorem dX11_match_12 : decode cX11_match 12 = .ok (.iadd, 1) := by decide +kernel
theorem dX11_match_13 : decode cX11_match 13 = .ok (.istore_n 2, 1) := by decide +kernel
theorem dX11_match_14 : decode cX11_match 14 = .ok (.iload_n 2, 1) := by decide +kernel
theorem dX11_match_15 : decode cX11_match 15 = .ok (.aload_n 0, 1) := by decide +kernel
theorem dX11_match_16 : decode cX11_match 16 = .ok (.getfield 94, 3) := by decide +kernel
theorem dX11_match_19 : decode cX11_match 19 = .ok (.if_icmp .ge 33, 3) := by decide +kernel
theorem dX11_match_22 : decode cX11_match 22 = .ok (.aload_n 0, 1) := by decide +kernel
theorem dX11_match_23 : decode cX11_match 23 = .ok (.getfield 48, 3) := by decide +kernel
theorem dX11_match_26 : decode cX11_match 26 = .ok (.iload_n 1, 1) := by decide +kernel
theorem dX11_match_27 : decode cX11_match 27 = .ok (.iload_n 2, 1) := by decide +kernel
theorem dX11_match_28 : decode cX11_match 28 = .ok (.aload_n 0, 1) := by decide +kernel
theorem dX11_match_29 : decode cX11_match 29 = .ok (.iload_n 1, 1) := by decide +kernel
theorem dX11_match_30 : decode cX11_match 30 = .ok (.iload_n 2, 1) := by decide +kernel
theorem dX11_match_31 : decode cX11_match 31 = .ok (.invokevirtual 239, 3) := by decide +kernel
theorem dX11_match_34 : decode cX11_match 34 = .ok (.aload_n 0, 1) := by decide +kernel
theorem dX11_match_35 : decode cX11_match 35 = .ok (.iload_n 2, 1) := by decide +kernel
theorem dX11_match_36 : decode cX11_match 36 = .ok (.iload_n 1, 1) := by decide +kernel
theorem dX11_match_37 : decode cX11_match 37 = .ok (.invokevirtual 239, 3) := by decide +kernel
theorem dX11_match_40 : decode cX11_match 40 = .ok (.invokestatic 242, 3) := by decide +kernel
theorem dX11_match_43 : decode cX11_match 43 = .ok (.invokevirtual 247, 3) := by decide +kernel
theorem dX11_match_46 : decode cX11_match 46 = .ok (.iinc 2 1, 3) := by decide +kernel
theorem dX11_match_49 : decode cX11_match 49 = .ok (.goto (-35), 3) := by decide +kernel
theorem dX11_match_52 : decode cX11_match 52 = .ok (.iinc 1 1, 3) := by decide +kernel
theorem dX11_match_55 : decode cX11_match 55 = .ok (.goto (-53), 3) := by decide +kernel
theorem dX11_match_58 : decode cX11_match 58 = .ok (.aload_n 0, 1) := by decide +kernel
theorem dX11_match_59 : decode cX11_match 59 = .ok (.getfield 48, 3) := by decide +kernel
theorem dX11_match_62 : decode cX11_match 62 = .ok (.aload_n 0, 1) := by decide +kernel
theorem dX11_match_63 : decode cX11_match 63 = .ok (.getfield 94, 3) := by decide +kernel
theorem dX11_match_66 : decode cX11_match 66 = .ok (.invokevirtual 251, 3) := by decide +kernel
theorem dX11_match_69 : decode cX11_match 69 = .ok (.aload_n 0, 1) := by decide +kernel
theorem dX11_match_70 : decode cX11_match 70 = .ok (.getfield 48, 3) := by decide +kernel
theorem dX11_match_73 : decode cX11_match 73 = .ok (.getfield 254, 3) := by decide +kernel
theorem dX11_match_76 : decode cX11_match 76 = .ok (.ireturn, 1) := by decide +kernel
set_option maxRecDepth 20000 in
theorem ggX11_matched_X11_isFragment : GoodIn wsX11_matched wsX11_isFragment := goodIn_r _ [7, 8, 9, 10, 11, 12, 13, 14, 15, 16, 17, 18, 19, 20, 21, 22, 23, 24] (by decide +kernel) (by decide +kernel)
set_option maxRecDepth 20000 in
theorem gX11_matched_X11_isFragment : GoodIn wsX11_matched (wsV RX11 233 RX11 yX11_isFragment wsX11_isFragment) := goodIn_app (goodIn_of _ (by decide +kernel)) ggX11_matched_X11_isFragment
theorem dX11_matched_0 : decode cX11_matched 0 = .ok (.aload_n 0, 1) := by decide +kernel
theorem dX11_matched_1 : decode cX11_matched 1 = .ok (.iload_n 1, 1) := by decide +kernel
theorem dX11_matched_2 : decode cX11_matched 2 = .ok (.invokevirtual 233, 3) := by decide +kernel
theorem dX11_matched_5 : decode cX11_matched 5 = .ok (.ifCond .eq 15, 3) := by decide +kernel
theorem dX11_matched_8 : decode cX11_matched 8 = .ok (.aload_n 0, 1) := by decide +kernel
theorem dX11_matched_9 : decode cX11_matched 9 = .ok (.getfield 48, 3) := by decide +kernel
theorem dX11_matched_12 : decode cX11_matched 12 = .ok (.getfield 257, 3) := by decide +kernel
theorem dX11_matched_15 : decode cX11_matched 15 = .ok (.iload_n 1, 1) := by decide +kernel
theorem dX11_matched_16 : decode cX11_matched 16 = .ok (.iaload, 1) := by decide +kernel
theorem dX11_matched_17 : decode cX11_matched 17 = .ok (.goto 4, 3) := by decide +kernel
theorem dX11_matched_20 : decode cX11_matched 20 = .ok (.iconst (-1), 1) := by decide +kernel
theorem dX11_matched_21 : decode cX11_matched 21 = .ok (.ireturn, 1) := by decide +kernel
theorem dX11_count_0 : decode cX11_count 0 = .ok (.iload_n 1, 1) := by decide +kernel
theorem dX11_count_1 : decode cX11_count 1 = .ok (.tableswitch 81 0 5 #[39, 47, 52, 57, 65, 73], 39) := by decide +kernel
theorem dX11_count_40 : decode cX11_count 40 = .ok (.aload_n 0, 1) := by decide +kernel
theorem dX11_count_41 : decode cX11_count 41 = .ok (.getfield 76, 3) := by decide +kernel
theorem dX11_count_44 : decode cX11_count 44 = .ok (.getfield 128, 3) := by decide +kernel
theorem dX11_count_47 : decode cX11_count 47 = .ok (.ireturn, 1) := by decide +kernel
theorem dX11_count_48 : decode cX11_count 48 = .ok (.aload_n 0, 1) := by decide +kernel
theorem dX11_count_49 : decode cX11_count 49 = .ok (.getfield 90, 3) := by decide +kernel
theorem dX11_count_52 : decode cX11_count 52 = .ok (.ireturn, 1) := by decide +kernel
theorem dX11_count_53 : decode cX11_count 53 = .ok (.aload_n 0, 1) := by decide +kernel
theorem dX11_count_54 : decode cX11_count 54 = .ok (.getfield 94, 3) := by decide +kernel
theorem dX11_count_57 : decode cX11_count 57 = .ok (.ireturn, 1) := by decide +kernel
theorem dX11_count_58 : decode cX11_count 58 = .ok (.aload_n 0, 1) := by decide +kernel
theorem dX11_count_59 : decode cX11_count 59 = .ok (.getfield 48, 3) := by decide +kernel
theorem dX11_count_62 : decode cX11_count 62 = .ok (.getfield 260, 3) := by decide +kernel
theorem dX11_count_65 : decode cX11_count 65 = .ok (.ireturn, 1) := by decide +kernel
theorem dX11_count_66 : decode cX11_count 66 = .ok (.aload_n 0, 1) := by decide +kernel
theorem dX11_count_67 : decode cX11_count 67 = .ok (.getfield 14, 3) := by decide +kernel
theorem dX11_count_70 : decode cX11_count 70 = .ok (.getfield 100, 3) := by decide +kernel
theorem dX11_count_73 : decode cX11_count 73 = .ok (.ireturn, 1) := by decide +kernel
theorem dX11_count_74 : decode cX11_count 74 = .ok (.aload_n 0, 1) := by decide +kernel
theorem dX11_count_75 : decode cX11_count 75 = .ok (.getfield 18, 3) := by decide +kernel
theorem dX11_count_78 : decode cX11_count 78 = .ok (.getfield 100, 3) := by decide +kernel
theorem dX11_count_81 : decode cX11_count 81 = .ok (.ireturn, 1) := by decide +kernel
theorem dX11_count_82 : decode cX11_count 82 = .ok (.iconst (-1), 1) := by decide +kernel
theorem dX11_count_83 : decode cX11_count 83 = .ok (.ireturn, 1) := by decide +kernel
theorem dX11_isSystem_0 : decode cX11_isSystem 0 = .ok (.iload_n 1, 1) := by decide +kernel
theorem dX11_isSystem_1 : decode cX11_isSystem 1 = .ok (.ifCond .lt 18, 3) := by decide +kernel
theorem dX11_isSystem_4 : decode cX11_isSystem 4 = .ok (.iload_n 1, 1) := by decide +kernel
theorem dX11_isSystem_5 : decode cX11_isSystem 5 = .ok (.aload_n 0, 1) := by decide +kernel
theorem dX11_isSystem_6 : decode cX11_isSystem 6 = .ok (.getfield 76, 3) := by decide +kernel
theorem dX11_isSystem_9 : decode cX11_isSystem 9 = .ok (.getfield 128, 3) := by decide +kernel
theorem dX11_isSystem_12 : decode cX11_isSystem 12 = .ok (.if_icmp .ge 7, 3) := by decide +kernel
theorem dX11_isSystem_15 : decode cX11_isSystem 15 = .ok (.iconst 1, 1) := by decide +kernel
theorem dX11_isSystem_16 : decode cX11_isSystem 16 = .ok (.goto 4, 3) := by decide +kernel
theorem dX11_isSystem_19 : decode cX11_isSystem 19 = .ok (.iconst 0, 1) := by decide +kernel
theorem dX11_isSystem_20 : decode cX11_isSystem 20 = .ok (.ireturn, 1) := by decide +kernel
theorem dX11_isTablet_0 : decode cX11_isTablet 0 = .ok (.iload_n 1, 1) := by decide +kernel
theorem dX11_isTablet_1 : decode cX11_isTablet 1 = .ok (.ifCond .lt 15, 3) := by decide +kernel
theorem dX11_isTablet_4 : decode cX11_isTablet 4 = .ok (.iload_n 1, 1) := by decide +kernel
theorem dX11_isTablet_5 : decode cX11_isTablet 5 = .ok (.aload_n 0, 1) := by decide +kernel
theorem dX11_isTablet_6 : decode cX11_isTablet 6 = .ok (.getfield 90, 3) := by decide +kernel
theorem dX11_isTablet_9 : decode cX11_isTablet 9 = .ok (.if_icmp .ge 7, 3) := by decide +kernel
theorem dX11_isTablet_12 : decode cX11_isTablet 12 = .ok (.iconst 1, 1) := by decide +kernel
theorem dX11_isTablet_13 : decode cX11_isTablet 13 = .ok (.goto 4, 3) := by decide +kernel
theorem dX11_isTablet_16 : decode cX11_isTablet 16 = .ok (.iconst 0, 1) := by decide +kernel
theorem dX11_isTablet_17 : decode cX11_isTablet 17 = .ok (.ireturn, 1) := by decide +kernel
set_option maxRecDepth 20000 in
theorem ggX11_isLine_X11_isTablet : GoodIn wsX11_isLine wsX11_isTablet := goodIn_r _ [7, 8, 9, 10, 11, 12, 13, 14, 15, 16, 17, 18, 19, 20, 21, 22, 23, 24] (by decide +kernel) (by decide +kernel)
set_option maxRecDepth 20000 in
theorem gX11_isLine_X11_isTablet : GoodIn wsX11_isLine (wsV RX11 193 RX11 yX11_isTablet wsX11_isTablet) := goodIn_app (goodIn_of _ (by decide +kernel)) ggX11_isLine_X11_isTablet
theorem dX11_isLine_0 : decode cX11_isLine 0 = .ok (.aload_n 0, 1) := by decide +kernel
theorem dX11_isLine_1 : decode cX11_isLine 1 = .ok (.iload_n 1, 1) := by decide +kernel
theorem dX11_isLine_2 : decode cX11_isLine 2 = .ok (.invokevirtual 193, 3) := by decide +kernel
theorem dX11_isLine_5 : decode cX11_isLine 5 = .ok (.ifCond .eq 24, 3) := by decide +kernel
theorem dX11_isLine_8 : decode cX11_isLine 8 = .ok (.iload_n 2, 1) := by decide +kernel
theorem dX11_isLine_9 : decode cX11_isLine 9 = .ok (.ifCond .lt 20, 3) := by decide +kernel
theorem dX11_isLine_12 : decode cX11_isLine 12 = .ok (.iload_n 2, 1) := by decide +kernel
theorem dX11_isLine_13 : decode cX11_isLine 13 = .ok (.aload_n 0, 1) := by decide +kernel
theorem dX11_isLine_14 : decode cX11_isLine 14 = .ok (.getfield 54, 3) := by decide +kernel
theorem dX11_isLine_17 : decode cX11_isLine 17 = .ok (.iload_n 1, 1) := by decide +kernel
theorem dX11_isLine_18 : decode cX11_isLine 18 = .ok (.aaload, 1) := by decide +kernel
theorem dX11_isLine_19 : decode cX11_isLine 19 = .ok (.getfield 196, 3) := by decide +kernel
theorem dX11_isLine_22 : decode cX11_isLine 22 = .ok (.if_icmp .ge 7, 3) := by decide +kernel
theorem dX11_isLine_25 : decode cX11_isLine 25 = .ok (.iconst 1, 1) := by decide +kernel
theorem dX11_isLine_26 : decode cX11_isLine 26 = .ok (.goto 4, 3) := by decide +kernel
theorem dX11_isLine_29 : decode cX11_isLine 29 = .ok (.iconst 0, 1) := by decide +kernel
theorem dX11_isLine_30 : decode cX11_isLine 30 = .ok (.ireturn, 1) := by decide +kernel
theorem dX11_isFragment_0 : decode cX11_isFragment 0 = .ok (.iload_n 1, 1) := by decide +kernel
theorem dX11_isFragment_1 : decode cX11_isFragment 1 = .ok (.ifCond .lt 15, 3) := by decide +kernel
theorem dX11_isFragment_4 : decode cX11_isFragment 4 = .ok (.iload_n 1, 1) := by decide +kernel
theorem dX11_isFragment_5 : decode cX11_isFragment 5 = .ok (.aload_n 0, 1) := by decide +kernel
theorem dX11_isFragment_6 : decode cX11_isFragment 6 = .ok (.getfield 94, 3) := by decide +kernel
theorem dX11_isFragment_9 : decode cX11_isFragment 9 = .ok (.if_icmp .ge 7, 3) := by decide +kernel
theorem dX11_isFragment_12 : decode cX11_isFragment 12 = .ok (.iconst 1, 1) := by decide +kernel
theorem dX11_isFragment_13 : decode cX11_isFragment 13 = .ok (.goto 4, 3) := by decide +kernel
theorem dX11_isFragment_16 : decode cX11_isFragment 16 = .ok (.iconst 0, 1) := by decide +kernel
theorem dX11_isFragment_17 : decode cX11_isFragment 17 = .ok (.ireturn, 1) := by decide +kernel
theorem dX11_isEdge_0 : decode cX11_isEdge 0 = .ok (.iload_n 0, 1) := by decide +kernel
theorem dX11_isEdge_1 : decode cX11_isEdge 1 = .ok (.ifCond .lt 14, 3) := by decide +kernel
theorem dX11_isEdge_4 : decode cX11_isEdge 4 = .ok (.iload_n 0, 1) := by decide +kernel
theorem dX11_isEdge_5 : decode cX11_isEdge 5 = .ok (.ldc_w 263, 3) := by decide +kernel
theorem dX11_isEdge_8 : decode cX11_isEdge 8 = .ok (.if_icmp .gt 7, 3) := by decide +kernel
theorem dX11_isEdge_11 : decode cX11_isEdge 11 = .ok (.iconst 1, 1) := by decide +kernel
theorem dX11_isEdge_12 : decode cX11_isEdge 12 = .ok (.goto 4, 3) := by decide +kernel
theorem dX11_isEdge_15 : decode cX11_isEdge 15 = .ok (.iconst 0, 1) := by decide +kernel
theorem dX11_isEdge_16 : decode cX11_isEdge 16 = .ok (.ireturn, 1) := by decide +kernel
theorem dJ7_fill_d0a16_0 : decode cJ7_fill_d0a16 0 = .ok (.iconst 0, 1) := by decide +kernel
theorem dJ7_fill_d0a16_1 : decode cJ7_fill_d0a16 1 = .ok (.istore_n 3, 1) := by decide +kernel
theorem dJ7_fill_d0a16_2 : decode cJ7_fill_d0a16 2 = .ok (.aload_n 0, 1) := by decide +kernel
theorem dJ7_fill_d0a16_3 : decode cJ7_fill_d0a16 3 = .ok (.arraylength, 1) := by decide +kernel
theorem dJ7_fill_d0a16_4 : decode cJ7_fill_d0a16 4 = .ok (.istore 4, 2) := by decide +kernel
theorem dJ7_fill_d0a16_6 : decode cJ7_fill_d0a16 6 = .ok (.iload_n 3, 1) := by decide +kernel
theorem dJ7_fill_d0a16_7 : decode cJ7_fill_d0a16 7 = .ok (.iload 4, 2) := by decide +kernel
theorem dJ7_fill_d0a16_9 : decode cJ7_fill_d0a16 9 = .ok (.if_icmp .ge 13, 3) := by decide +kernel
theorem dJ7_fill_d0a16_12 : decode cJ7_fill_d0a16 12 = .ok (.aload_n 0, 1) := by decide +kernel
theorem dJ7_fill_d0a16_13 : decode cJ7_fill_d0a16 13 = .ok (.iload_n 3, 1) := by decide +kernel
theorem dJ7_fill_d0a16_14 : decode cJ7_fill_d0a16 14 = .ok (.lload_n 1, 1) := by decide +kernel
theorem dJ7_fill_d0a16_15 : decode cJ7_fill_d0a16 15 = .ok (.lastore, 1) := by decide +kernel
theorem dJ7_fill_d0a16_16 : decode cJ7_fill_d0a16 16 = .ok (.iinc 3 1, 3) := by decide +kernel
theorem dJ7_fill_d0a16_19 : decode cJ7_fill_d0a16 19 = .ok (.goto (-13), 3) := by decide +kernel
theorem dJ7_fill_d0a16_22 : decode cJ7_fill_d0a16 22 = .ok (.return_, 1) := by decide +kernel
theorem dJ7_fill_53178_0 : decode cJ7_fill_53178 0 = .ok (.iconst 0, 1) := by decide +kernel
theorem dJ7_fill_53178_1 : decode cJ7_fill_53178 1 = .ok (.istore_n 2, 1) := by decide +kernel
theorem dJ7_fill_53178_2 : decode cJ7_fill_53178 2 = .ok (.aload_n 0, 1) := by decide +kernel
theorem dJ7_fill_53178_3 : decode cJ7_fill_53178 3 = .ok (.arraylength, 1) := by decide +kernel
theorem dJ7_fill_53178_4 : decode cJ7_fill_53178 4 = .ok (.istore_n 3, 1) := by decide +kernel
theorem dJ7_fill_53178_5 : decode cJ7_fill_53178 5 = .ok (.iload_n 2, 1) := by decide +kernel
theorem dJ7_fill_53178_6 : decode cJ7_fill_53178 6 = .ok (.iload_n 3, 1) := by decide +kernel
theorem dJ7_fill_53178_7 : decode cJ7_fill_53178 7 = .ok (.if_icmp .ge 13, 3) := by decide +kernel
theorem dJ7_fill_53178_10 : decode cJ7_fill_53178 10 = .ok (.aload_n 0, 1) := by decide +kernel
theorem dJ7_fill_53178_11 : decode cJ7_fill_53178 11 = .ok (.iload_n 2, 1) := by decide +kernel
theorem dJ7_fill_53178_12 : decode cJ7_fill_53178 12 = .ok (.iload_n 1, 1) := by decide +kernel
theorem dJ7_fill_53178_13 : decode cJ7_fill_53178 13 = .ok (.iastore, 1) := by decide +kernel
theorem dJ7_fill_53178_14 : decode cJ7_fill_53178 14 = .ok (.iinc 2 1, 3) := by decide +kernel
theorem dJ7_fill_53178_17 : decode cJ7_fill_53178 17 = .ok (.goto (-12), 3) := by decide +kernel
theorem dJ7_fill_53178_20 : decode cJ7_fill_53178 20 = .ok (.return_, 1) := by decide +kernel
end
section
theorem dX12_init_0 : decode cX12_init 0 = .ok (.aload_n 0, 1) := by decide +kernel
theorem dX12_init_1 : decode cX12_init 1 = .ok (.invokespecial 1, 3) := by decide +kernel
theorem dX12_init_4 : decode cX12_init 4 = .ok (.aload_n 0, 1) := by decide +kernel
theorem dX12_init_5 : decode cX12_init 5 = .ok (.sipush 440, 3) := by decide +kernel
theorem dX12_init_8 : decode cX12_init 8 = .ok (.newarray .int, 2) := by decide +kernel
theorem dX12_init_10 : decode cX12_init 10 = .ok (.putfield 7, 3) := by decide +kernel
theorem dX12_init_13 : decode cX12_init 13 = .ok (.aload_n 0, 1) := by decide +kernel
theorem dX12_init_14 : decode cX12_init 14 = .ok (.sipush 500, 3) := by decide +kernel
theorem dX12_init_17 : decode cX12_init 17 = .ok (.newarray .int, 2) := by decide +kernel
theorem dX12_init_19 : decode cX12_init 19 = .ok (.putfield 13, 3) := by decide +kernel
theorem dX12_init_22 : decode cX12_init 22 = .ok (.aload_n 0, 1) := by decide +kernel
theorem dX12_init_23 : decode cX12_init 23 = .ok (.bipush 6, 2) := by decide +kernel
theorem dX12_init_25 : decode cX12_init 25 = .ok (.newarray .long, 2) := by decide +kernel
theorem dX12_init_27 : decode cX12_init 27 = .ok (.putfield 16, 3) := by decide +kernel
theorem dX12_init_30 : decode cX12_init 30 = .ok (.aload_n 0, 1) := by decide +kernel
theorem dX12_init_31 : decode cX12_init 31 = .ok (.bipush 30, 2) := by decide +kernel
theorem dX12_init_33 : decode cX12_init 33 = .ok (.newarray .long, 2) := by decide +kernel
theorem dX12_init_35 : decode cX12_init 35 = .ok (.putfield 20, 3) := by decide +kernel
theorem dX12_init_38 : decode cX12_init 38 = .ok (.aload_n 0, 1) := by decide +kernel
theorem dX12_init_39 : decode cX12_init 39 = .ok (.bipush 6, 2) := by decide +kernel
theorem dX12_init_41 : decode cX12_init 41 = .ok (.newarray .int, 2) := by decide +kernel
theorem dX12_init_43 : decode cX12_init 43 = .ok (.putfield 23, 3) := by decide +kernel
theorem dX12_init_46 : decode cX12_init 46 = .ok (.aload_n 0, 1) := by decide +kernel
theorem dX12_init_47 : decode cX12_init 47 = .ok (.bipush 30, 2) := by decide +kernel
theorem dX12_init_49 : decode cX12_init 49 = .ok (.newarray .int, 2) := by decide +kernel
theorem dX12_init_51 : decode cX12_init 51 = .ok (.putfield 26, 3) := by decide +kernel
theorem dX12_init_54 : decode cX12_init 54 = .ok (.aload_n 0, 1) := by decide +kernel
theorem dX12_init_55 : decode cX12_init 55 = .ok (.bipush 80, 2) := by decide +kernel
theorem dX12_init_57 : decode cX12_init 57 = .ok (.newarray .int, 2) := by decide +kernel
theorem dX12_init_59 : decode cX12_init 59 = .ok (.putfield 29, 3) := by decide +kernel
theorem dX12_init_62 : decode cX12_init 62 = .ok (.aload_n 0, 1) := by decide +kernel
theorem dX12_init_63 : decode cX12_init 63 = .ok (.bipush 9, 2) := by decide +kernel
theorem dX12_init_65 : decode cX12_init 65 = .ok (.newarray .int, 2) := by decide +kernel
theorem dX12_init_67 : decode cX12_init 67 = .ok (.putfield 32, 3) := by decide +kernel
theorem dX12_init_70 : decode cX12_init 70 = .ok (.aload_n 0, 1) := by decide +kernel
theorem dX12_init_71 : decode cX12_init 71 = .ok (.bipush 108, 2) := by decide +kernel
theorem dX12_init_73 : decode cX12_init 73 = .ok (.newarray .int, 2) := by decide +kernel
theorem dX12_init_75 : decode cX12_init 75 = .ok (.putfield 35, 3) := by decide +kernel
theorem dX12_init_78 : decode cX12_init 78 = .ok (.aload_n 0, 1) := by decide +kernel
theorem dX12_init_79 : decode cX12_init 79 = .ok (.bipush 108, 2) := by decide +kernel
theorem dX12_init_81 : decode cX12_init 81 = .ok (.newarray .int, 2) := by decide +kernel
theorem dX12_init_83 : decode cX12_init 83 = .ok (.putfield 38, 3) := by decide +kernel
theorem dX12_init_86 : decode cX12_init 86 = .ok (.aload_n 0, 1) := by decide +kernel
theorem dX12_init_87 : decode cX12_init 87 = .ok (.bipush 108, 2) := by decide +kernel
theorem dX12_init_89 : decode cX12_init 89 = .ok (.newarray .int, 2) := by decide +kernel
theorem dX12_init_91 : decode cX12_init 91 = .ok (.putfield 41, 3) := by decide +kernel
theorem dX12_init_94 : decode cX12_init 94 = .ok (.aload_n 0, 1) := by decide +kernel
theorem dX12_init_95 : decode cX12_init 95 = .ok (.bipush 9, 2) := by decide +kernel
theorem dX12_init_97 : decode cX12_init 97 = .ok (.newarray .int, 2) := by decide +kernel
theorem dX12_init_99 : decode cX12_init 99 = .ok (.putfield 44, 3) := by decide +kernel
theorem dX12_init_102 : decode cX12_init 102 = .ok (.aload_n 0, 1) := by decide +kernel
theorem dX12_init_103 : decode cX12_init 103 = .ok (.sipush 540, 3) := by decide +kernel
theorem dX12_init_106 : decode cX12_init 106 = .ok (.newarray .int, 2) := by decide +kernel
theorem dX12_init_108 : decode cX12_init 108 = .ok (.putfield 47, 3) := by decide +kernel
theorem dX12_init_111 : decode cX12_init 111 = .ok (.aload_n 0, 1) := by decide +kernel
theorem dX12_init_112 : decode cX12_init 112 = .ok (.sipush 540, 3) := by decide +kernel
theorem dX12_init_115 : decode cX12_init 115 = .ok (.newarray .int, 2) := by decide +kernel
theorem dX12_init_117 : decode cX12_init 117 = .ok (.putfield 50, 3) := by decide +kernel
theorem dX12_init_120 : decode cX12_init 120 = .ok (.aload_n 0, 1) := by decide +kernel
theorem dX12_init_121 : decode cX12_init 121 = .ok (.sipush 540, 3) := by decide +kernel
theorem dX12_init_124 : decode cX12_init 124 = .ok (.newarray .int, 2) := by decide +kernel
theorem dX12_init_126 : decode cX12_init 126 = .ok (.putfield 53, 3) := by decide +kernel
theorem dX12_init_129 : decode cX12_init 129 = .ok (.aload_n 0, 1) := by decide +kernel
theorem dX12_init_130 : decode cX12_init 130 = .ok (.iconst 4, 1) := by decide +kernel
theorem dX12_init_131 : decode cX12_init 131 = .ok (.newarray .int, 2) := by decide +kernel
theorem dX12_init_133 : decode cX12_init 133 = .ok (.putfield 56, 3) := by decide +kernel
theorem dX12_init_136 : decode cX12_init 136 = .ok (.aload_n 0, 1) := by decide +kernel
theorem dX12_init_137 : decode cX12_init 137 = .ok (.bipush 12, 2) := by decide +kernel
theorem dX12_init_139 : decode cX12_init 139 = .ok (.newarray .long, 2) := by decide +kernel
theorem dX12_init_141 : decode cX12_init 141 = .ok (.putfield 59, 3) := by decide +kernel
theorem dX12_init_144 : decode cX12_init 144 = .ok (.aload_n 0, 1) := by decide +kernel
theorem dX12_init_145 : decode cX12_init 145 = .ok (.sipush 2400, 3) := by decide +kernel
theorem dX12_init_148 : decode cX12_init 148 = .ok (.newarray .int, 2) := by decide +kernel
theorem dX12_init_150 : decode cX12_init 150 = .ok (.putfield 62, 3) := by decide +kernel
theorem dX12_init_153 : decode cX12_init 153 = .ok (.aload_n 0, 1) := by decide +kernel
theorem dX12_init_154 : decode cX12_init 154 = .ok (.bipush 12, 2) := by decide +kernel
theorem dX12_init_156 : decode cX12_init 156 = .ok (.newarray .int, 2) := by decide +kernel
theorem dX12_init_158 : decode cX12_init 158 = .ok (.putfield 65, 3) := by decide +kernel
theorem dX12_init_161 : decode cX12_init 161 = .ok (.aload_n 0, 1) := by decide +kernel
theorem dX12_init_162 : decode cX12_init 162 = .ok (.bipush 12, 2) := by decide +kernel
theorem dX12_init_164 : decode cX12_init 164 = .ok (.newarray .int, 2) := by decide +kernel
theorem dX12_init_166 : decode cX12_init 166 = .ok (.putfield 68, 3) := by decide +kernel
theorem dX12_init_169 : decode cX12_init 169 = .ok (.aload_n 0, 1) := by decide +kernel
theorem dX12_init_170 : decode cX12_init 170 = .ok (.bipush 12, 2) := by decide +kernel
theorem dX12_init_172 : decode cX12_init 172 = .ok (.newarray .int, 2) := by decide +kernel
theorem dX12_init_174 : decode cX12_init 174 = .ok (.putfield 71, 3) := by decide +kernel
theorem dX12_init_177 : decode cX12_init 177 = .ok (.aload_n 0, 1) := by decide +kernel
theorem dX12_init_178 : decode cX12_init 178 = .ok (.bipush 12, 2) := by decide +kernel
theorem dX12_init_180 : decode cX12_init 180 = .ok (.newarray .int, 2) := by decide +kernel
theorem dX12_init_182 : decode cX12_init 182 = .ok (.putfield 74, 3) := by decide +kernel
theorem dX12_init_185 : decode cX12_init 185 = .ok (.aload_n 0, 1) := by decide +kernel
theorem dX12_init_186 : decode cX12_init 186 = .ok (.sipush 144, 3) := by decide +kernel
theorem dX12_init_189 : decode cX12_init 189 = .ok (.newarray .int, 2) := by decide +kernel
theorem dX12_init_191 : decode cX12_init 191 = .ok (.putfield 77, 3) := by decide +kernel
theorem dX12_init_194 : decode cX12_init 194 = .ok (.aload_n 0, 1) := by decide +kernel
theorem dX12_init_195 : decode cX12_init 195 = .ok (.sipush 4096, 3) := by decide +kernel
theorem dX12_init_198 : decode cX12_init 198 = .ok (.newarray .int, 2) := by decide +kernel
theorem dX12_init_200 : decode cX12_init 200 = .ok (.putfield 80, 3) := by decide +kernel
theorem dX12_init_203 : decode cX12_init 203 = .ok (.aload_n 0, 1) := by decide +kernel
theorem dX12_init_204 : decode cX12_init 204 = .ok (.bipush 12, 2) := by decide +kernel
theorem dX12_init_206 : decode cX12_init 206 = .ok (.newarray .int, 2) := by decide +kernel
theorem dX12_init_208 : decode cX12_init 208 = .ok (.putfield 83, 3) := by decide +kernel
theorem dX12_init_211 : decode cX12_init 211 = .ok (.return_, 1) := by decide +kernel
theorem dX12_thrown_0 : decode cX12_thrown 0 = .ok (.aload_n 0, 1) := by decide +kernel
theorem dX12_thrown_1 : decode cX12_thrown 1 = .ok (.getfield 86, 3) := by decide +kernel
theorem dX12_thrown_4 : decode cX12_thrown 4 = .ok (.ireturn, 1) := by decide +kernel
theorem dX12_refuse_0 : decode cX12_refuse 0 = .ok (.aload_n 0, 1) := by decide +kernel
theorem dX12_refuse_1 : decode cX12_refuse 1 = .ok (.iconst 1, 1) := by decide +kernel
theorem dX12_refuse_2 : decode cX12_refuse 2 = .ok (.putfield 86, 3) := by decide +kernel
theorem dX12_refuse_5 : decode cX12_refuse 5 = .ok (.iconst 0, 1) := by decide +kernel
theorem dX12_refuse_6 : decode cX12_refuse 6 = .ok (.ireturn, 1) := by decide +kernel
theorem dX12_come_0 : decode cX12_come 0 = .ok (.bipush 24, 2) := by decide +kernel
theorem dX12_come_2 : decode cX12_come 2 = .ok (.istore_n 2, 1) := by decide +kernel
theorem dX12_come_3 : decode cX12_come 3 = .ok (.iload_n 2, 1) := by decide +kernel
theorem dX12_come_4 : decode cX12_come 4 = .ok (.ifCond .lt 35, 3) := by decide +kernel
theorem dX12_come_7 : decode cX12_come 7 = .ok (.aload_n 0, 1) := by decide +kernel
theorem dX12_come_8 : decode cX12_come 8 = .ok (.getfield 7, 3) := by decide +kernel
theorem dX12_come_11 : decode cX12_come 11 = .ok (.aload_n 0, 1) := by decide +kernel
theorem dX12_come_12 : decode cX12_come 12 = .ok (.getfield 90, 3) := by decide +kernel
theorem dX12_come_15 : decode cX12_come 15 = .ok (.iload_n 1, 1) := by decide +kernel
theorem dX12_come_16 : decode cX12_come 16 = .ok (.iload_n 2, 1) := by decide +kernel
theorem dX12_come_17 : decode cX12_come 17 = .ok (.iushr, 1) := by decide +kernel
theorem dX12_come_18 : decode cX12_come 18 = .ok (.sipush 255, 3) := by decide +kernel
theorem dX12_come_21 : decode cX12_come 21 = .ok (.iand, 1) := by decide +kernel
theorem dX12_come_22 : decode cX12_come 22 = .ok (.iastore, 1) := by decide +kernel
theorem dX12_come_23 : decode cX12_come 23 = .ok (.aload_n 0, 1) := by decide +kernel
theorem dX12_come_24 : decode cX12_come 24 = .ok (.dup, 1) := by decide +kernel
theorem dX12_come_25 : decode cX12_come 25 = .ok (.getfield 90, 3) := by decide +kernel
theorem dX12_come_28 : decode cX12_come 28 = .ok (.iconst 1, 1) := by decide +kernel
theorem dX12_come_29 : decode cX12_come 29 = .ok (.iadd, 1) := by decide +kernel
theorem dX12_come_30 : decode cX12_come 30 = .ok (.putfield 90, 3) := by decide +kernel
theorem dX12_come_33 : decode cX12_come 33 = .ok (.iinc 2 (-8), 3) := by decide +kernel
theorem dX12_come_36 : decode cX12_come 36 = .ok (.goto (-33), 3) := by decide +kernel
theorem dX12_come_39 : decode cX12_come 39 = .ok (.return_, 1) := by decide +kernel
set_option maxRecDepth 20000 in
theorem ggX12_feed_X12_come : GoodIn wsX12_feed wsX12_come := goodIn_r _ [7, 8, 2, 9, 10, 11, 12, 13, 14, 15, 16, 17, 18, 19, 20, 21, 22, 23, 24, 25, 26, 27, 28, 29, 30, 31, 32, 33, 34, 35, 36, 37, 38, 39, 40, 41, 42, 43, 44, 45, 46, 47, 48, 49, 50, 51, 52, 53, 54, 55, 56, 57, 58, 59] (by decide +kernel) (by decide +kernel)
set_option maxRecDepth 20000 in
theorem gX12_feed_X12_come : GoodIn wsX12_feed (wsV RX12 93 RX12 yX12_come wsX12_come) := goodIn_app (goodIn_of _ (by decide +kernel)) ggX12_feed_X12_come
theorem dX12_feed_0 : decode cX12_feed 0 = .ok (.aload_n 0, 1) := by decide +kernel
theorem dX12_feed_1 : decode cX12_feed 1 = .ok (.iconst 0, 1) := by decide +kernel
theorem dX12_feed_2 : decode cX12_feed 2 = .ok (.putfield 86, 3) := by decide +kernel
theorem dX12_feed_5 : decode cX12_feed 5 = .ok (.aload_n 0, 1) := by decide +kernel
theorem dX12_feed_6 : decode cX12_feed 6 = .ok (.getfield 90, 3) := by decide +kernel
theorem dX12_feed_9 : decode cX12_feed 9 = .ok (.bipush 20, 2) := by decide +kernel
theorem dX12_feed_11 : decode cX12_feed 11 = .ok (.iadd, 1) := by decide +kernel
theorem dX12_feed_12 : decode cX12_feed 12 = .ok (.sipush 440, 3) := by decide +kernel
theorem dX12_feed_15 : decode cX12_feed 15 = .ok (.if_icmp .le 5, 3) := by decide +kernel
theorem dX12_feed_18 : decode cX12_feed 18 = .ok (.iconst (-1), 1) := by decide +kernel
theorem dX12_feed_19 : decode cX12_feed 19 = .ok (.ireturn, 1) := by decide +kernel
theorem dX12_feed_20 : decode cX12_feed 20 = .ok (.aload_n 0, 1) := by decide +kernel
theorem dX12_feed_21 : decode cX12_feed 21 = .ok (.iload_n 1, 1) := by decide +kernel
theorem dX12_feed_22 : decode cX12_feed 22 = .ok (.invokevirtual 93, 3) := by decide +kernel
theorem dX12_feed_25 : decode cX12_feed 25 = .ok (.aload_n 0, 1) := by decide +kernel
theorem dX12_feed_26 : decode cX12_feed 26 = .ok (.iload_n 2, 1) := by decide +kernel
theorem dX12_feed_27 : decode cX12_feed 27 = .ok (.invokevirtual 93, 3) := by decide +kernel
theorem dX12_feed_30 : decode cX12_feed 30 = .ok (.aload_n 0, 1) := by decide +kernel
theorem dX12_feed_31 : decode cX12_feed 31 = .ok (.iload_n 3, 1) := by decide +kernel
theorem dX12_feed_32 : decode cX12_feed 32 = .ok (.invokevirtual 93, 3) := by decide +kernel
theorem dX12_feed_35 : decode cX12_feed 35 = .ok (.aload_n 0, 1) := by decide +kernel
theorem dX12_feed_36 : decode cX12_feed 36 = .ok (.iload 4, 2) := by decide +kernel
theorem dX12_feed_38 : decode cX12_feed 38 = .ok (.invokevirtual 93, 3) := by decide +kernel
theorem dX12_feed_41 : decode cX12_feed 41 = .ok (.aload_n 0, 1) := by decide +kernel
theorem dX12_feed_42 : decode cX12_feed 42 = .ok (.iload 5, 2) := by decide +kernel
theorem dX12_feed_44 : decode cX12_feed 44 = .ok (.invokevirtual 93, 3) := by decide +kernel
theorem dX12_feed_47 : decode cX12_feed 47 = .ok (.aload_n 0, 1) := by decide +kernel
theorem dX12_feed_48 : decode cX12_feed 48 = .ok (.getfield 90, 3) := by decide +kernel
theorem dX12_feed_51 : decode cX12_feed 51 = .ok (.ireturn, 1) := by decide +kernel
theorem dX12_end_0 : decode cX12_end 0 = .ok (.aload_n 0, 1) := by decide +kernel
theorem dX12_end_1 : decode cX12_end 1 = .ok (.iconst 0, 1) := by decide +kernel
theorem dX12_end_2 : decode cX12_end 2 = .ok (.putfield 86, 3) := by decide +kernel
theorem dX12_end_5 : decode cX12_end 5 = .ok (.iload_n 1, 1) := by decide +kernel
theorem dX12_end_6 : decode cX12_end 6 = .ok (.ifCond .lt 11, 3) := by decide +kernel
theorem dX12_end_9 : decode cX12_end 9 = .ok (.iload_n 1, 1) := by decide +kernel
theorem dX12_end_10 : decode cX12_end 10 = .ok (.aload_n 0, 1) := by decide +kernel
theorem dX12_end_11 : decode cX12_end 11 = .ok (.getfield 90, 3) := by decide +kernel
theorem dX12_end_14 : decode cX12_end 14 = .ok (.if_icmp .le 5, 3) := by decide +kernel
theorem dX12_end_17 : decode cX12_end 17 = .ok (.iconst 0, 1) := by decide +kernel
theorem dX12_end_18 : decode cX12_end 18 = .ok (.ireturn, 1) := by decide +kernel
theorem dX12_end_19 : decode cX12_end 19 = .ok (.aload_n 0, 1) := by decide +kernel
theorem dX12_end_20 : decode cX12_end 20 = .ok (.iload_n 1, 1) := by decide +kernel
theorem dX12_end_21 : decode cX12_end 21 = .ok (.putfield 90, 3) := by decide +kernel
theorem dX12_end_24 : decode cX12_end 24 = .ok (.iconst 1, 1) := by decide +kernel
theorem dX12_end_25 : decode cX12_end 25 = .ok (.ireturn, 1) := by decide +kernel
theorem dX12_go_0 : decode cX12_go 0 = .ok (.aload_n 0, 1) := by decide +kernel
theorem dX12_go_1 : decode cX12_go 1 = .ok (.getfield 108, 3) := by decide +kernel
theorem dX12_go_4 : decode cX12_go 4 = .ok (.aload_n 0, 1) := by decide +kernel
theorem dX12_go_5 : decode cX12_go 5 = .ok (.getfield 97, 3) := by decide +kernel
theorem dX12_go_8 : decode cX12_go 8 = .ok (.if_icmp .ge 44, 3) := by decide +kernel
theorem dX12_go_11 : decode cX12_go 11 = .ok (.aload_n 0, 1) := by decide +kernel
theorem dX12_go_12 : decode cX12_go 12 = .ok (.getfield 13, 3) := by decide +kernel
theorem dX12_go_15 : decode cX12_go 15 = .ok (.aload_n 0, 1) := by decide +kernel
theorem dX12_go_16 : decode cX12_go 16 = .ok (.getfield 108, 3) := by decide +kernel
theorem dX12_go_19 : decode cX12_go 19 = .ok (.iaload, 1) := by decide +kernel
theorem dX12_go_20 : decode cX12_go 20 = .ok (.bipush 32, 2) := by decide +kernel
theorem dX12_go_22 : decode cX12_go 22 = .ok (.if_icmp .eq 17, 3) := by decide +kernel
theorem dX12_go_25 : decode cX12_go 25 = .ok (.aload_n 0, 1) := by decide +kernel
theorem dX12_go_26 : decode cX12_go 26 = .ok (.getfield 13, 3) := by decide +kernel
theorem dX12_go_29 : decode cX12_go 29 = .ok (.aload_n 0, 1) := by decide +kernel
theorem dX12_go_30 : decode cX12_go 30 = .ok (.getfield 108, 3) := by decide +kernel
theorem dX12_go_33 : decode cX12_go 33 = .ok (.iaload, 1) := by decide +kernel
theorem dX12_go_34 : decode cX12_go 34 = .ok (.bipush 10, 2) := by decide +kernel
theorem dX12_go_36 : decode cX12_go 36 = .ok (.if_icmp .ne 16, 3) := by decide +kernel
theorem dX12_go_39 : decode cX12_go 39 = .ok (.aload_n 0, 1) := by decide +kernel
theorem dX12_go_40 : decode cX12_go 40 = .ok (.dup, 1) := by decide +kernel
theorem dX12_go_41 : decode cX12_go 41 = .ok (.getfield 108, 3) := by decide +kernel
theorem dX12_go_44 : decode cX12_go 44 = .ok (.iconst 1, 1) := by decide +kernel
theorem dX12_go_45 : decode cX12_go 45 = .ok (.iadd, 1) := by decide +kernel
theorem dX12_go_46 : decode cX12_go 46 = .ok (.putfield 108, 3) := by decide +kernel
theorem dX12_go_49 : decode cX12_go 49 = .ok (.goto (-49), 3) := by decide +kernel
theorem dX12_go_52 : decode cX12_go 52 = .ok (.aload_n 0, 1) := by decide +kernel
theorem dX12_go_53 : decode cX12_go 53 = .ok (.aload_n 0, 1) := by decide +kernel
theorem dX12_go_54 : decode cX12_go 54 = .ok (.getfield 108, 3) := by decide +kernel
theorem dX12_go_57 : decode cX12_go 57 = .ok (.putfield 111, 3) := by decide +kernel
theorem dX12_go_60 : decode cX12_go 60 = .ok (.aload_n 0, 1) := by decide +kernel
theorem dX12_go_61 : decode cX12_go 61 = .ok (.getfield 97, 3) := by decide +kernel
theorem dX12_go_64 : decode cX12_go 64 = .ok (.aload_n 0, 1) := by decide +kernel
theorem dX12_go_65 : decode cX12_go 65 = .ok (.getfield 114, 3) := by decide +kernel
theorem dX12_go_68 : decode cX12_go 68 = .ok (.if_icmp .le 28, 3) := by decide +kernel
theorem dX12_go_71 : decode cX12_go 71 = .ok (.aload_n 0, 1) := by decide +kernel
theorem dX12_go_72 : decode cX12_go 72 = .ok (.getfield 111, 3) := by decide +kernel
theorem dX12_go_75 : decode cX12_go 75 = .ok (.aload_n 0, 1) := by decide +kernel
theorem dX12_go_76 : decode cX12_go 76 = .ok (.getfield 114, 3) := by decide +kernel
theorem dX12_go_79 : decode cX12_go 79 = .ok (.if_icmp .lt 17, 3) := by decide +kernel
theorem dX12_go_82 : decode cX12_go 82 = .ok (.aload_n 0, 1) := by decide +kernel
theorem dX12_go_83 : decode cX12_go 83 = .ok (.aload_n 0, 1) := by decide +kernel
theorem dX12_go_84 : decode cX12_go 84 = .ok (.getfield 114, 3) := by decide +kernel
theorem dX12_go_87 : decode cX12_go 87 = .ok (.putfield 111, 3) := by decide +kernel
theorem dX12_go_90 : decode cX12_go 90 = .ok (.aload_n 0, 1) := by decide +kernel
theorem dX12_go_91 : decode cX12_go 91 = .ok (.iconst 1, 1) := by decide +kernel
theorem dX12_go_92 : decode cX12_go 92 = .ok (.putfield 117, 3) := by decide +kernel
theorem dX12_go_95 : decode cX12_go 95 = .ok (.return_, 1) := by decide +kernel
theorem dX12_go_96 : decode cX12_go 96 = .ok (.aload_n 0, 1) := by decide +kernel
theorem dX12_go_97 : decode cX12_go 97 = .ok (.getfield 108, 3) := by decide +kernel
theorem dX12_go_100 : decode cX12_go 100 = .ok (.aload_n 0, 1) := by decide +kernel
theorem dX12_go_101 : decode cX12_go 101 = .ok (.getfield 97, 3) := by decide +kernel
theorem dX12_go_104 : decode cX12_go 104 = .ok (.if_icmp .lt 9, 3) := by decide +kernel
theorem dX12_go_107 : decode cX12_go 107 = .ok (.aload_n 0, 1) := by decide +kernel
theorem dX12_go_108 : decode cX12_go 108 = .ok (.iconst 0, 1) := by decide +kernel
theorem dX12_go_109 : decode cX12_go 109 = .ok (.putfield 117, 3) := by decide +kernel
theorem dX12_go_112 : decode cX12_go 112 = .ok (.return_, 1) := by decide +kernel
theorem dX12_go_113 : decode cX12_go 113 = .ok (.aload_n 0, 1) := by decide +kernel
theorem dX12_go_114 : decode cX12_go 114 = .ok (.getfield 13, 3) := by decide +kernel
theorem dX12_go_117 : decode cX12_go 117 = .ok (.aload_n 0, 1) := by decide +kernel
theorem dX12_go_118 : decode cX12_go 118 = .ok (.getfield 108, 3) := by decide +kernel
theorem dX12_go_121 : decode cX12_go 121 = .ok (.iaload, 1) := by decide +kernel
theorem dX12_go_122 : decode cX12_go 122 = .ok (.istore_n 1, 1) := by decide +kernel
theorem dX12_go_123 : decode cX12_go 123 = .ok (.iload_n 1, 1) := by decide +kernel
theorem dX12_go_124 : decode cX12_go 124 = .ok (.invokestatic 120, 3) := by decide +kernel
theorem dX12_go_127 : decode cX12_go 127 = .ok (.ifCond .ne 48, 3) := by decide +kernel
theorem dX12_go_130 : decode cX12_go 130 = .ok (.aload_n 0, 1) := by decide +kernel
theorem dX12_go_131 : decode cX12_go 131 = .ok (.iload_n 1, 1) := by decide +kernel
theorem dX12_go_132 : decode cX12_go 132 = .ok (.invokevirtual 123, 3) := by decide +kernel
theorem dX12_go_135 : decode cX12_go 135 = .ok (.ifCond .ne 40, 3) := by decide +kernel
theorem dX12_go_138 : decode cX12_go 138 = .ok (.aload_n 0, 1) := by decide +kernel
theorem dX12_go_139 : decode cX12_go 139 = .ok (.iload_n 1, 1) := by decide +kernel
theorem dX12_go_140 : decode cX12_go 140 = .ok (.bipush 58, 2) := by decide +kernel
theorem dX12_go_142 : decode cX12_go 142 = .ok (.if_icmp .eq 9, 3) := by decide +kernel
theorem dX12_go_145 : decode cX12_go 145 = .ok (.iload_n 1, 1) := by decide +kernel
theorem dX12_go_146 : decode cX12_go 146 = .ok (.bipush 59, 2) := by decide +kernel
theorem dX12_go_148 : decode cX12_go 148 = .ok (.if_icmp .ne 7, 3) := by decide +kernel
theorem dX12_go_151 : decode cX12_go 151 = .ok (.iconst 4, 1) := by decide +kernel
theorem dX12_go_152 : decode cX12_go 152 = .ok (.goto 4, 3) := by decide +kernel
theorem dX12_go_155 : decode cX12_go 155 = .ok (.iconst 1, 1) := by decide +kernel
theorem dX12_go_156 : decode cX12_go 156 = .ok (.putfield 117, 3) := by decide +kernel
theorem dX12_go_159 : decode cX12_go 159 = .ok (.aload_n 0, 1) := by decide +kernel
theorem dX12_go_160 : decode cX12_go 160 = .ok (.iload_n 1, 1) := by decide +kernel
theorem dX12_go_161 : decode cX12_go 161 = .ok (.putfield 126, 3) := by decide +kernel
theorem dX12_go_164 : decode cX12_go 164 = .ok (.aload_n 0, 1) := by decide +kernel
theorem dX12_go_165 : decode cX12_go 165 = .ok (.dup, 1) := by decide +kernel
theorem dX12_go_166 : decode cX12_go 166 = .ok (.getfield 108, 3) := by decide +kernel
theorem dX12_go_169 : decode cX12_go 169 = .ok (.iconst 1, 1) := by decide +kernel
theorem dX12_go_170 : decode cX12_go 170 = .ok (.iadd, 1) := by decide +kernel
theorem dX12_go_171 : decode cX12_go 171 = .ok (.putfield 108, 3) := by decide +kernel
theorem dX12_go_174 : decode cX12_go 174 = .ok (.return_, 1) := by decide +kernel
theorem dX12_go_175 : decode cX12_go 175 = .ok (.iload_n 1, 1) := by decide +kernel
theorem dX12_go_176 : decode cX12_go 176 = .ok (.invokestatic 120, 3) := by decide +kernel
theorem dX12_go_179 : decode cX12_go 179 = .ok (.istore_n 2, 1) := by decide +kernel
theorem dX12_go_180 : decode cX12_go 180 = .ok (.iconst 1, 1) := by decide +kernel
theorem dX12_go_181 : decode cX12_go 181 = .ok (.istore_n 3, 1) := by decide +kernel
theorem dX12_go_182 : decode cX12_go 182 = .ok (.aload_n 0, 1) := by decide +kernel
theorem dX12_go_183 : decode cX12_go 183 = .ok (.lconst 0, 1) := by decide +kernel
theorem dX12_go_184 : decode cX12_go 184 = .ok (.putfield 129, 3) := by decide +kernel
theorem dX12_go_187 : decode cX12_go 187 = .ok (.aload_n 0, 1) := by decide +kernel
theorem dX12_go_188 : decode cX12_go 188 = .ok (.aload_n 0, 1) := by decide +kernel
theorem dX12_go_189 : decode cX12_go 189 = .ok (.getfield 108, 3) := by decide +kernel
theorem dX12_go_192 : decode cX12_go 192 = .ok (.invokevirtual 133, 3) := by decide +kernel
theorem dX12_go_195 : decode cX12_go 195 = .ok (.invokestatic 120, 3) := by decide +kernel
theorem dX12_go_198 : decode cX12_go 198 = .ok (.ifCond .ne 18, 3) := by decide +kernel
theorem dX12_go_201 : decode cX12_go 201 = .ok (.aload_n 0, 1) := by decide +kernel
theorem dX12_go_202 : decode cX12_go 202 = .ok (.aload_n 0, 1) := by decide +kernel
theorem dX12_go_203 : decode cX12_go 203 = .ok (.aload_n 0, 1) := by decide +kernel
theorem dX12_go_204 : decode cX12_go 204 = .ok (.getfield 108, 3) := by decide +kernel
theorem dX12_go_207 : decode cX12_go 207 = .ok (.invokevirtual 133, 3) := by decide +kernel
theorem dX12_go_210 : decode cX12_go 210 = .ok (.invokevirtual 123, 3) := by decide +kernel
theorem dX12_go_213 : decode cX12_go 213 = .ok (.ifCond .eq 80, 3) := by decide +kernel
theorem dX12_go_216 : decode cX12_go 216 = .ok (.aload_n 0, 1) := by decide +kernel
theorem dX12_go_217 : decode cX12_go 217 = .ok (.getfield 13, 3) := by decide +kernel
theorem dX12_go_220 : decode cX12_go 220 = .ok (.aload_n 0, 1) := by decide +kernel
theorem dX12_go_221 : decode cX12_go 221 = .ok (.getfield 108, 3) := by decide +kernel
theorem dX12_go_224 : decode cX12_go 224 = .ok (.iaload, 1) := by decide +kernel
theorem dX12_go_225 : decode cX12_go 225 = .ok (.istore 4, 2) := by decide +kernel
theorem dX12_go_227 : decode cX12_go 227 = .ok (.iload_n 3, 1) := by decide +kernel
theorem dX12_go_228 : decode cX12_go 228 = .ok (.ifCond .eq 16, 3) := by decide +kernel
theorem dX12_go_231 : decode cX12_go 231 = .ok (.iload 4, 2) := by decide +kernel
theorem dX12_go_233 : decode cX12_go 233 = .ok (.invokestatic 120, 3) := by decide +kernel
theorem dX12_go_236 : decode cX12_go 236 = .ok (.iload_n 2, 1) := by decide +kernel
theorem dX12_go_237 : decode cX12_go 237 = .ok (.if_icmp .ne 7, 3) := by decide +kernel
theorem dX12_go_240 : decode cX12_go 240 = .ok (.iconst 1, 1) := by decide +kernel
theorem dX12_go_241 : decode cX12_go 241 = .ok (.goto 4, 3) := by decide +kernel
theorem dX12_go_244 : decode cX12_go 244 = .ok (.iconst 0, 1) := by decide +kernel
theorem dX12_go_245 : decode cX12_go 245 = .ok (.istore_n 3, 1) := by decide +kernel
theorem dX12_go_246 : decode cX12_go 246 = .ok (.aload_n 0, 1) := by decide +kernel
theorem dX12_go_247 : decode cX12_go 247 = .ok (.getfield 108, 3) := by decide +kernel
theorem dX12_go_250 : decode cX12_go 250 = .ok (.aload_n 0, 1) := by decide +kernel
theorem dX12_go_251 : decode cX12_go 251 = .ok (.getfield 111, 3) := by decide +kernel
theorem dX12_go_254 : decode cX12_go 254 = .ok (.isub, 1) := by decide +kernel
theorem dX12_go_255 : decode cX12_go 255 = .ok (.bipush 8, 2) := by decide +kernel
theorem dX12_go_257 : decode cX12_go 257 = .ok (.if_icmp .ge 23, 3) := by decide +kernel
theorem dX12_go_260 : decode cX12_go 260 = .ok (.aload_n 0, 1) := by decide +kernel
theorem dX12_go_261 : decode cX12_go 261 = .ok (.ldc2_w 137, 3) := by decide +kernel
theorem dX12_go_264 : decode cX12_go 264 = .ok (.aload_n 0, 1) := by decide +kernel
theorem dX12_go_265 : decode cX12_go 265 = .ok (.getfield 129, 3) := by decide +kernel
theorem dX12_go_268 : decode cX12_go 268 = .ok (.lmul, 1) := by decide +kernel
theorem dX12_go_269 : decode cX12_go 269 = .ok (.iload 4, 2) := by decide +kernel
theorem dX12_go_271 : decode cX12_go 271 = .ok (.i2l, 1) := by decide +kernel
theorem dX12_go_272 : decode cX12_go 272 = .ok (.ladd, 1) := by decide +kernel
theorem dX12_go_273 : decode cX12_go 273 = .ok (.ldc2_w 139, 3) := by decide +kernel
theorem dX12_go_276 : decode cX12_go 276 = .ok (.lsub, 1) := by decide +kernel
theorem dX12_go_277 : decode cX12_go 277 = .ok (.putfield 129, 3) := by decide +kernel
theorem dX12_go_280 : decode cX12_go 280 = .ok (.aload_n 0, 1) := by decide +kernel
theorem dX12_go_281 : decode cX12_go 281 = .ok (.dup, 1) := by decide +kernel
theorem dX12_go_282 : decode cX12_go 282 = .ok (.getfield 108, 3) := by decide +kernel
theorem dX12_go_285 : decode cX12_go 285 = .ok (.iconst 1, 1) := by decide +kernel
theorem dX12_go_286 : decode cX12_go 286 = .ok (.iadd, 1) := by decide +kernel
theorem dX12_go_287 : decode cX12_go 287 = .ok (.putfield 108, 3) := by decide +kernel
theorem dX12_go_290 : decode cX12_go 290 = .ok (.goto (-103), 3) := by decide +kernel
theorem dX12_go_293 : decode cX12_go 293 = .ok (.aload_n 0, 1) := by decide +kernel
theorem dX12_go_294 : decode cX12_go 294 = .ok (.getfield 108, 3) := by decide +kernel
theorem dX12_go_297 : decode cX12_go 297 = .ok (.aload_n 0, 1) := by decide +kernel
theorem dX12_go_298 : decode cX12_go 298 = .ok (.getfield 111, 3) := by decide +kernel
theorem dX12_go_301 : decode cX12_go 301 = .ok (.isub, 1) := by decide +kernel
theorem dX12_go_302 : decode cX12_go 302 = .ok (.istore 4, 2) := by decide +kernel
theorem dX12_go_304 : decode cX12_go 304 = .ok (.aload_n 0, 1) := by decide +kernel
theorem dX12_go_305 : decode cX12_go 305 = .ok (.aload_n 0, 1) := by decide +kernel
theorem dX12_go_306 : decode cX12_go 306 = .ok (.getfield 13, 3) := by decide +kernel
theorem dX12_go_309 : decode cX12_go 309 = .ok (.aload_n 0, 1) := by decide +kernel
theorem dX12_go_310 : decode cX12_go 310 = .ok (.getfield 111, 3) := by decide +kernel
theorem dX12_go_313 : decode cX12_go 313 = .ok (.iaload, 1) := by decide +kernel
theorem dX12_go_314 : decode cX12_go 314 = .ok (.invokestatic 141, 3) := by decide +kernel
theorem dX12_go_317 : decode cX12_go 317 = .ok (.putfield 144, 3) := by decide +kernel
theorem dX12_go_320 : decode cX12_go 320 = .ok (.aload_n 0, 1) := by decide +kernel
theorem dX12_go_321 : decode cX12_go 321 = .ok (.iload 4, 2) := by decide +kernel
theorem dX12_go_323 : decode cX12_go 323 = .ok (.iconst 1, 1) := by decide +kernel
theorem dX12_go_324 : decode cX12_go 324 = .ok (.if_icmp .le 20, 3) := by decide +kernel
theorem dX12_go_327 : decode cX12_go 327 = .ok (.aload_n 0, 1) := by decide +kernel
theorem dX12_go_328 : decode cX12_go 328 = .ok (.getfield 13, 3) := by decide +kernel
theorem dX12_go_331 : decode cX12_go 331 = .ok (.aload_n 0, 1) := by decide +kernel
theorem dX12_go_332 : decode cX12_go 332 = .ok (.getfield 111, 3) := by decide +kernel
theorem dX12_go_335 : decode cX12_go 335 = .ok (.iconst 1, 1) := by decide +kernel
theorem dX12_go_336 : decode cX12_go 336 = .ok (.iadd, 1) := by decide +kernel
theorem dX12_go_337 : decode cX12_go 337 = .ok (.iaload, 1) := by decide +kernel
theorem dX12_go_338 : decode cX12_go 338 = .ok (.invokestatic 141, 3) := by decide +kernel
theorem dX12_go_341 : decode cX12_go 341 = .ok (.goto 4, 3) := by decide +kernel
theorem dX12_go_344 : decode cX12_go 344 = .ok (.iconst (-1), 1) := by decide +kernel
theorem dX12_go_345 : decode cX12_go 345 = .ok (.putfield 147, 3) := by decide +kernel
theorem dX12_go_348 : decode cX12_go 348 = .ok (.aload_n 0, 1) := by decide +kernel
theorem dX12_go_349 : decode cX12_go 349 = .ok (.iload_n 3, 1) := by decide +kernel
theorem dX12_go_350 : decode cX12_go 350 = .ok (.ifCond .eq 18, 3) := by decide +kernel
theorem dX12_go_353 : decode cX12_go 353 = .ok (.iload 4, 2) := by decide +kernel
theorem dX12_go_355 : decode cX12_go 355 = .ok (.iload_n 2, 1) := by decide +kernel
theorem dX12_go_356 : decode cX12_go 356 = .ok (.ifCond .eq 8, 3) := by decide +kernel
theorem dX12_go_359 : decode cX12_go 359 = .ok (.bipush 8, 2) := by decide +kernel
theorem dX12_go_361 : decode cX12_go 361 = .ok (.goto 4, 3) := by decide +kernel
theorem dX12_go_364 : decode cX12_go 364 = .ok (.iconst 2, 1) := by decide +kernel
theorem dX12_go_365 : decode cX12_go 365 = .ok (.if_icmp .le 7, 3) := by decide +kernel
theorem dX12_go_368 : decode cX12_go 368 = .ok (.iconst 1, 1) := by decide +kernel
theorem dX12_go_369 : decode cX12_go 369 = .ok (.goto 12, 3) := by decide +kernel
theorem dX12_go_372 : decode cX12_go 372 = .ok (.iload_n 2, 1) := by decide +kernel
theorem dX12_go_373 : decode cX12_go 373 = .ok (.ifCond .eq 7, 3) := by decide +kernel
theorem dX12_go_376 : decode cX12_go 376 = .ok (.iconst 2, 1) := by decide +kernel
theorem dX12_go_377 : decode cX12_go 377 = .ok (.goto 4, 3) := by decide +kernel
theorem dX12_go_380 : decode cX12_go 380 = .ok (.iconst 3, 1) := by decide +kernel
theorem dX12_go_381 : decode cX12_go 381 = .ok (.putfield 117, 3) := by decide +kernel
theorem dX12_go_384 : decode cX12_go 384 = .ok (.return_, 1) := by decide +kernel
theorem dX12_bad_0 : decode cX12_bad 0 = .ok (.aload_n 0, 1) := by decide +kernel
theorem dX12_bad_1 : decode cX12_bad 1 = .ok (.aload_n 0, 1) := by decide +kernel
theorem dX12_bad_2 : decode cX12_bad 2 = .ok (.getfield 117, 3) := by decide +kernel
theorem dX12_bad_5 : decode cX12_bad 5 = .ok (.iconst 1, 1) := by decide +kernel
theorem dX12_bad_6 : decode cX12_bad 6 = .ok (.if_icmp .ne 7, 3) := by decide +kernel
theorem dX12_bad_9 : decode cX12_bad 9 = .ok (.iconst 1, 1) := by decide +kernel
theorem dX12_bad_10 : decode cX12_bad 10 = .ok (.goto 4, 3) := by decide +kernel
theorem dX12_bad_13 : decode cX12_bad 13 = .ok (.iload_n 1, 1) := by decide +kernel
theorem dX12_bad_14 : decode cX12_bad 14 = .ok (.putfield 150, 3) := by decide +kernel
theorem dX12_bad_17 : decode cX12_bad 17 = .ok (.aload_n 0, 1) := by decide +kernel
theorem dX12_bad_18 : decode cX12_bad 18 = .ok (.aload_n 0, 1) := by decide +kernel
theorem dX12_bad_19 : decode cX12_bad 19 = .ok (.getfield 111, 3) := by decide +kernel
theorem dX12_bad_22 : decode cX12_bad 22 = .ok (.putfield 153, 3) := by decide +kernel
theorem dX12_bad_25 : decode cX12_bad 25 = .ok (.iconst 0, 1) := by decide +kernel
theorem dX12_bad_26 : decode cX12_bad 26 = .ok (.ireturn, 1) := by decide +kernel
theorem dX12_isKey_0 : decode cX12_isKey 0 = .ok (.aload_n 0, 1) := by decide +kernel
theorem dX12_isKey_1 : decode cX12_isKey 1 = .ok (.getfield 117, 3) := by decide +kernel
theorem dX12_isKey_4 : decode cX12_isKey 4 = .ok (.iconst 2, 1) := by decide +kernel
theorem dX12_isKey_5 : decode cX12_isKey 5 = .ok (.if_icmp .ne 16, 3) := by decide +kernel
theorem dX12_isKey_8 : decode cX12_isKey 8 = .ok (.aload_n 0, 1) := by decide +kernel
theorem dX12_isKey_9 : decode cX12_isKey 9 = .ok (.getfield 129, 3) := by decide +kernel
theorem dX12_isKey_12 : decode cX12_isKey 12 = .ok (.lload_n 1, 1) := by decide +kernel
theorem dX12_isKey_13 : decode cX12_isKey 13 = .ok (.lcmp, 1) := by decide +kernel
theorem dX12_isKey_14 : decode cX12_isKey 14 = .ok (.ifCond .ne 7, 3) := by decide +kernel
theorem dX12_isKey_17 : decode cX12_isKey 17 = .ok (.iconst 1, 1) := by decide +kernel
theorem dX12_isKey_18 : decode cX12_isKey 18 = .ok (.goto 4, 3) := by decide +kernel
theorem dX12_isKey_21 : decode cX12_isKey 21 = .ok (.iconst 0, 1) := by decide +kernel
theorem dX12_isKey_22 : decode cX12_isKey 22 = .ok (.ireturn, 1) := by decide +kernel
set_option maxRecDepth 20000 in
theorem ggX12_takes_X12_begins : GoodIn wsX12_takes wsX12_begins := goodIn_r _ [9, 10, 11, 12, 13, 14, 15, 8, 16, 2, 3, 17, 18, 19, 20, 21, 22, 23, 24, 25, 26, 27, 28, 29, 30, 31, 32, 33, 34, 35, 36, 37, 38, 39, 40, 41, 42, 43, 44, 45, 46, 47, 48, 49, 50, 51, 52, 53, 54, 55, 56, 57, 58, 59, 60, 61, 62, 63, 64, 65, 66, 67, 68, 69, 70, 71, 72, 73, 74, 75, 76, 77, 78, 79, 80, 81, 82, 83, 84, 85, 86, 87, 88, 89, 90, 91, 92] (by decide +kernel) (by decide +kernel)
set_option maxRecDepth 20000 in
theorem gX12_takes_X12_begins : GoodIn wsX12_takes (wsV RX12 165 RX12 yX12_begins wsX12_begins) := goodIn_app (goodIn_of _ (by decide +kernel)) ggX12_takes_X12_begins
theorem dX12_takes_0 : decode cX12_takes 0 = .ok (.aload_n 0, 1) := by decide +kernel
theorem dX12_takes_1 : decode cX12_takes 1 = .ok (.aload_n 0, 1) := by decide +kernel
theorem dX12_takes_2 : decode cX12_takes 2 = .ok (.getfield 90, 3) := by decide +kernel
theorem dX12_takes_5 : decode cX12_takes 5 = .ok (.putfield 97, 3) := by decide +kernel
theorem dX12_takes_8 : decode cX12_takes 8 = .ok (.aload_n 0, 1) := by decide +kernel
theorem dX12_takes_9 : decode cX12_takes 9 = .ok (.iconst 0, 1) := by decide +kernel
theorem dX12_takes_10 : decode cX12_takes 10 = .ok (.putfield 90, 3) := by decide +kernel
theorem dX12_takes_13 : decode cX12_takes 13 = .ok (.iconst 0, 1) := by decide +kernel
theorem dX12_takes_14 : decode cX12_takes 14 = .ok (.istore_n 3, 1) := by decide +kernel
theorem dX12_takes_15 : decode cX12_takes 15 = .ok (.iload_n 3, 1) := by decide +kernel
theorem dX12_takes_16 : decode cX12_takes 16 = .ok (.aload_n 0, 1) := by decide +kernel
theorem dX12_takes_17 : decode cX12_takes 17 = .ok (.getfield 97, 3) := by decide +kernel
theorem dX12_takes_20 : decode cX12_takes 20 = .ok (.if_icmp .ge 21, 3) := by decide +kernel
theorem dX12_takes_23 : decode cX12_takes 23 = .ok (.aload_n 0, 1) := by decide +kernel
theorem dX12_takes_24 : decode cX12_takes 24 = .ok (.getfield 13, 3) := by decide +kernel
theorem dX12_takes_27 : decode cX12_takes 27 = .ok (.iload_n 3, 1) := by decide +kernel
theorem dX12_takes_28 : decode cX12_takes 28 = .ok (.aload_n 0, 1) := by decide +kernel
theorem dX12_takes_29 : decode cX12_takes 29 = .ok (.getfield 7, 3) := by decide +kernel
theorem dX12_takes_32 : decode cX12_takes 32 = .ok (.iload_n 3, 1) := by decide +kernel
theorem dX12_takes_33 : decode cX12_takes 33 = .ok (.iaload, 1) := by decide +kernel
theorem dX12_takes_34 : decode cX12_takes 34 = .ok (.iastore, 1) := by decide +kernel
theorem dX12_takes_35 : decode cX12_takes 35 = .ok (.iinc 3 1, 3) := by decide +kernel
theorem dX12_takes_38 : decode cX12_takes 38 = .ok (.goto (-23), 3) := by decide +kernel
theorem dX12_takes_41 : decode cX12_takes 41 = .ok (.aload_n 0, 1) := by decide +kernel
theorem dX12_takes_42 : decode cX12_takes 42 = .ok (.iload_n 1, 1) := by decide +kernel
theorem dX12_takes_43 : decode cX12_takes 43 = .ok (.iload_n 2, 1) := by decide +kernel
theorem dX12_takes_44 : decode cX12_takes 44 = .ok (.invokevirtual 165, 3) := by decide +kernel
theorem dX12_takes_47 : decode cX12_takes 47 = .ok (.return_, 1) := by decide +kernel
set_option maxRecDepth 20000 in
theorem ggX12_begins_X12_go : GoodIn wsX12_begins wsX12_go := goodIn_r _ [8, 3, 9, 10, 11, 1, 12, 13, 14, 15, 16, 17, 18, 19, 20, 7, 21, 22, 23, 24, 25, 2, 26, 27, 28, 29, 30, 31, 32, 33, 34, 35, 36, 37, 38, 39, 40, 41, 42, 43, 44, 45, 46, 47, 48, 49, 50, 51, 52, 53, 54, 55, 56, 57, 58, 59, 60, 61, 62, 63, 64, 65, 66, 67, 68, 69, 70, 71, 72, 73, 74, 75, 76, 77, 78, 79, 80, 81, 82, 83, 84, 85, 86] (by decide +kernel) (by decide +kernel)
set_option maxRecDepth 20000 in
theorem gX12_begins_X12_go : GoodIn wsX12_begins (wsV RX12 169 RX12 yX12_go wsX12_go) := goodIn_app (goodIn_of _ (by decide +kernel)) ggX12_begins_X12_go
theorem dX12_begins_0 : decode cX12_begins 0 = .ok (.aload_n 0, 1) := by decide +kernel
theorem dX12_begins_1 : decode cX12_begins 1 = .ok (.iload_n 1, 1) := by decide +kernel
theorem dX12_begins_2 : decode cX12_begins 2 = .ok (.putfield 114, 3) := by decide +kernel
theorem dX12_begins_5 : decode cX12_begins 5 = .ok (.aload_n 0, 1) := by decide +kernel
theorem dX12_begins_6 : decode cX12_begins 6 = .ok (.iload_n 2, 1) := by decide +kernel
theorem dX12_begins_7 : decode cX12_begins 7 = .ok (.putfield 104, 3) := by decide +kernel
theorem dX12_begins_10 : decode cX12_begins 10 = .ok (.aload_n 0, 1) := by decide +kernel
theorem dX12_begins_11 : decode cX12_begins 11 = .ok (.iconst 0, 1) := by decide +kernel
theorem dX12_begins_12 : decode cX12_begins 12 = .ok (.putfield 108, 3) := by decide +kernel
theorem dX12_begins_15 : decode cX12_begins 15 = .ok (.aload_n 0, 1) := by decide +kernel
theorem dX12_begins_16 : decode cX12_begins 16 = .ok (.invokevirtual 169, 3) := by decide +kernel
theorem dX12_begins_19 : decode cX12_begins 19 = .ok (.return_, 1) := by decide +kernel
set_option maxRecDepth 20000 in
theorem ggX12_systems_X12_takes : GoodIn wsX12_systems wsX12_takes := goodIn_r _ [15, 16, 17, 18, 19, 20, 21, 22, 14, 23, 24, 25, 26, 27, 28, 29, 30, 31, 5, 32, 33, 34, 35, 36, 37, 38, 39, 40, 41, 42, 43, 44, 45, 46, 47, 48, 49, 50, 51, 52, 53, 54, 96, 97, 98, 99, 100, 101, 102, 103, 104, 105, 106, 107, 108, 109, 110, 111, 112, 113, 114, 115, 116, 117, 118, 119, 120, 121, 122, 123, 124, 125, 126, 127, 128, 129, 130, 131, 132, 133, 134, 135, 136, 137, 138, 139, 140, 141, 142, 143, 144, 145, 146] (by decide +kernel) (by decide +kernel)
set_option maxRecDepth 20000 in
theorem gX12_systems_X12_takes : GoodIn wsX12_systems (wsV RX12 191 RX12 yX12_takes wsX12_takes) := goodIn_app (goodIn_of _ (by decide +kernel)) ggX12_systems_X12_takes
set_option maxRecDepth 20000 in
theorem ggX12_systems_X12_isKey : GoodIn wsX12_systems wsX12_isKey := goodIn_r _ [58, 5, 33, 96, 97, 98, 99, 100, 101, 102, 103, 104, 105, 106, 107, 108, 109, 110, 111, 112, 113, 114, 115, 116, 117, 118, 119, 120, 121, 122, 123, 124, 125, 126, 127, 128, 129, 130, 131, 132, 133, 134, 135, 136, 137, 138, 139, 140, 141, 142, 143, 144, 145, 146] (by decide +kernel) (by decide +kernel)
set_option maxRecDepth 20000 in
theorem gX12_systems_X12_isKey : GoodIn wsX12_systems (wsV RX12 194 RX12 yX12_isKey wsX12_isKey) := goodIn_app (goodIn_of _ (by decide +kernel)) ggX12_systems_X12_isKey
set_option maxRecDepth 20000 in
theorem ggX12_systems_X12_bad : GoodIn wsX12_systems wsX12_bad := goodIn_r _ [62, 5, 2, 31, 4, 96, 97, 98, 99, 100, 101, 102, 103, 104, 105, 106, 107, 108, 109, 110, 111, 112, 113, 114, 115, 116, 117, 118, 119, 120, 121, 122, 123, 124, 125, 126, 127, 128, 129, 130, 131, 132, 133, 134, 135, 136, 137, 138, 139, 140, 141, 142, 143, 144, 145, 146] (by decide +kernel) (by decide +kernel)
set_option maxRecDepth 20000 in
theorem gX12_systems_X12_bad : GoodIn wsX12_systems (wsV RX12 176 RX12 yX12_bad wsX12_bad) := goodIn_app (goodIn_of _ (by decide +kernel)) ggX12_systems_X12_bad
set_option maxRecDepth 20000 in
theorem ggX12_systems_X12_go : GoodIn wsX12_systems wsX12_go := goodIn_r _ [30, 26, 17, 18, 31, 24, 5, 32, 33, 34, 35, 36, 37, 38, 39, 14, 40, 41, 42, 43, 44, 25, 45, 46, 47, 48, 49, 50, 51, 52, 53, 54, 96, 97, 98, 99, 100, 101, 102, 103, 104, 105, 106, 107, 108, 109, 110, 111, 112, 113, 114, 115, 116, 117, 118, 119, 120, 121, 122, 123, 124, 125, 126, 127, 128, 129, 130, 131, 132, 133, 134, 135, 136, 137, 138, 139, 140, 141, 142, 143, 144, 145, 146] (by decide +kernel) (by decide +kernel)
set_option maxRecDepth 20000 in
theorem gX12_systems_X12_go : GoodIn wsX12_systems (wsV RX12 169 RX12 yX12_go wsX12_go) := goodIn_app (goodIn_of _ (by decide +kernel)) ggX12_systems_X12_go
theorem dX12_systems_0 : decode cX12_systems 0 = .ok (.aload_n 0, 1) := by decide +kernel
theorem dX12_systems_1 : decode cX12_systems 1 = .ok (.iconst 0, 1) := by decide +kernel
theorem dX12_systems_2 : decode cX12_systems 2 = .ok (.putfield 86, 3) := by decide +kernel
theorem dX12_systems_5 : decode cX12_systems 5 = .ok (.aload_n 0, 1) := by decide +kernel
theorem dX12_systems_6 : decode cX12_systems 6 = .ok (.iconst 0, 1) := by decide +kernel
theorem dX12_systems_7 : decode cX12_systems 7 = .ok (.putfield 150, 3) := by decide +kernel
theorem dX12_systems_10 : decode cX12_systems 10 = .ok (.aload_n 0, 1) := by decide +kernel
theorem dX12_systems_11 : decode cX12_systems 11 = .ok (.sipush 400, 3) := by decide +kernel
theorem dX12_systems_14 : decode cX12_systems 14 = .ok (.iconst 0, 1) := by decide +kernel
theorem dX12_systems_15 : decode cX12_systems 15 = .ok (.invokevirtual 191, 3) := by decide +kernel
theorem dX12_systems_18 : decode cX12_systems 18 = .ok (.iconst 0, 1) := by decide +kernel
theorem dX12_systems_19 : decode cX12_systems 19 = .ok (.istore_n 1, 1) := by decide +kernel
theorem dX12_systems_20 : decode cX12_systems 20 = .ok (.aload_n 0, 1) := by decide +kernel
theorem dX12_systems_21 : decode cX12_systems 21 = .ok (.getstatic 156, 3) := by decide +kernel
theorem dX12_systems_24 : decode cX12_systems 24 = .ok (.invokevirtual 194, 3) := by decide +kernel
theorem dX12_systems_27 : decode cX12_systems 27 = .ok (.ifCond .ne 16, 3) := by decide +kernel
theorem dX12_systems_30 : decode cX12_systems 30 = .ok (.aload_n 0, 1) := by decide +kernel
theorem dX12_systems_31 : decode cX12_systems 31 = .ok (.iconst 1, 1) := by decide +kernel
theorem dX12_systems_32 : decode cX12_systems 32 = .ok (.invokevirtual 176, 3) := by decide +kernel
theorem dX12_systems_35 : decode cX12_systems 35 = .ok (.pop, 1) := by decide +kernel
theorem dX12_systems_36 : decode cX12_systems 36 = .ok (.iconst (-1), 1) := by decide +kernel
theorem dX12_systems_37 : decode cX12_systems 37 = .ok (.aload_n 0, 1) := by decide +kernel
theorem dX12_systems_38 : decode cX12_systems 38 = .ok (.getfield 153, 3) := by decide +kernel
theorem dX12_systems_41 : decode cX12_systems 41 = .ok (.isub, 1) := by decide +kernel
theorem dX12_systems_42 : decode cX12_systems 42 = .ok (.ireturn, 1) := by decide +kernel
theorem dX12_systems_43 : decode cX12_systems 43 = .ok (.iload_n 1, 1) := by decide +kernel
theorem dX12_systems_44 : decode cX12_systems 44 = .ok (.iconst 3, 1) := by decide +kernel
theorem dX12_systems_45 : decode cX12_systems 45 = .ok (.if_icmp .ne 16, 3) := by decide +kernel
theorem dX12_systems_48 : decode cX12_systems 48 = .ok (.aload_n 0, 1) := by decide +kernel
theorem dX12_systems_49 : decode cX12_systems 49 = .ok (.iconst 4, 1) := by decide +kernel
theorem dX12_systems_50 : decode cX12_systems 50 = .ok (.invokevirtual 176, 3) := by decide +kernel
theorem dX12_systems_53 : decode cX12_systems 53 = .ok (.pop, 1) := by decide +kernel
theorem dX12_systems_54 : decode cX12_systems 54 = .ok (.iconst (-1), 1) := by decide +kernel
theorem dX12_systems_55 : decode cX12_systems 55 = .ok (.aload_n 0, 1) := by decide +kernel
theorem dX12_systems_56 : decode cX12_systems 56 = .ok (.getfield 153, 3) := by decide +kernel
theorem dX12_systems_59 : decode cX12_systems 59 = .ok (.isub, 1) := by decide +kernel
theorem dX12_systems_60 : decode cX12_systems 60 = .ok (.ireturn, 1) := by decide +kernel
theorem dX12_systems_61 : decode cX12_systems 61 = .ok (.aload_n 0, 1) := by decide +kernel
theorem dX12_systems_62 : decode cX12_systems 62 = .ok (.invokevirtual 169, 3) := by decide +kernel
theorem dX12_systems_65 : decode cX12_systems 65 = .ok (.aload_n 0, 1) := by decide +kernel
theorem dX12_systems_66 : decode cX12_systems 66 = .ok (.iload_n 1, 1) := by decide +kernel
theorem dX12_systems_67 : decode cX12_systems 67 = .ok (.invokevirtual 198, 3) := by decide +kernel
theorem dX12_systems_70 : decode cX12_systems 70 = .ok (.ifCond .ne 10, 3) := by decide +kernel
theorem dX12_systems_73 : decode cX12_systems 73 = .ok (.iconst (-1), 1) := by decide +kernel
theorem dX12_systems_74 : decode cX12_systems 74 = .ok (.aload_n 0, 1) := by decide +kernel
theorem dX12_systems_75 : decode cX12_systems 75 = .ok (.getfield 153, 3) := by decide +kernel
theorem dX12_systems_78 : decode cX12_systems 78 = .ok (.isub, 1) := by decide +kernel
theorem dX12_systems_79 : decode cX12_systems 79 = .ok (.ireturn, 1) := by decide +kernel
theorem dX12_systems_80 : decode cX12_systems 80 = .ok (.iinc 1 1, 3) := by decide +kernel
theorem dX12_systems_83 : decode cX12_systems 83 = .ok (.aload_n 0, 1) := by decide +kernel
theorem dX12_systems_84 : decode cX12_systems 84 = .ok (.getfield 117, 3) := by decide +kernel
theorem dX12_systems_87 : decode cX12_systems 87 = .ok (.ifCond .ne (-67), 3) := by decide +kernel
theorem dX12_systems_90 : decode cX12_systems 90 = .ok (.aload_n 0, 1) := by decide +kernel
theorem dX12_systems_91 : decode cX12_systems 91 = .ok (.iload_n 1, 1) := by decide +kernel
theorem dX12_systems_92 : decode cX12_systems 92 = .ok (.putfield 201, 3) := by decide +kernel
theorem dX12_systems_95 : decode cX12_systems 95 = .ok (.iconst 0, 1) := by decide +kernel
theorem dX12_systems_96 : decode cX12_systems 96 = .ok (.istore_n 2, 1) := by decide +kernel
theorem dX12_systems_97 : decode cX12_systems 97 = .ok (.iload_n 2, 1) := by decide +kernel
theorem dX12_systems_98 : decode cX12_systems 98 = .ok (.iload_n 1, 1) := by decide +kernel
theorem dX12_systems_99 : decode cX12_systems 99 = .ok (.if_icmp .ge 80, 3) := by decide +kernel
theorem dX12_systems_102 : decode cX12_systems 102 = .ok (.aload_n 0, 1) := by decide +kernel
theorem dX12_systems_103 : decode cX12_systems 103 = .ok (.getfield 23, 3) := by decide +kernel
theorem dX12_systems_106 : decode cX12_systems 106 = .ok (.iload_n 2, 1) := by decide +kernel
theorem dX12_systems_107 : decode cX12_systems 107 = .ok (.aload_n 0, 1) := by decide +kernel
theorem dX12_systems_108 : decode cX12_systems 108 = .ok (.getfield 23, 3) := by decide +kernel
theorem dX12_systems_111 : decode cX12_systems 111 = .ok (.iconst 3, 1) := by decide +kernel
theorem dX12_systems_112 : decode cX12_systems 112 = .ok (.iload_n 2, 1) := by decide +kernel
theorem dX12_systems_113 : decode cX12_systems 113 = .ok (.iadd, 1) := by decide +kernel
theorem dX12_systems_114 : decode cX12_systems 114 = .ok (.iaload, 1) := by decide +kernel
theorem dX12_systems_115 : decode cX12_systems 115 = .ok (.iastore, 1) := by decide +kernel
theorem dX12_systems_116 : decode cX12_systems 116 = .ok (.iconst 0, 1) := by decide +kernel
theorem dX12_systems_117 : decode cX12_systems 117 = .ok (.istore_n 3, 1) := by decide +kernel
theorem dX12_systems_118 : decode cX12_systems 118 = .ok (.iload_n 3, 1) := by decide +kernel
theorem dX12_systems_119 : decode cX12_systems 119 = .ok (.iconst 5, 1) := by decide +kernel
theorem dX12_systems_120 : decode cX12_systems 120 = .ok (.if_icmp .ge 53, 3) := by decide +kernel
theorem dX12_systems_123 : decode cX12_systems 123 = .ok (.aload_n 0, 1) := by decide +kernel
theorem dX12_systems_124 : decode cX12_systems 124 = .ok (.getfield 20, 3) := by decide +kernel
theorem dX12_systems_127 : decode cX12_systems 127 = .ok (.iconst 5, 1) := by decide +kernel
theorem dX12_systems_128 : decode cX12_systems 128 = .ok (.iload_n 2, 1) := by decide +kernel
theorem dX12_systems_129 : decode cX12_systems 129 = .ok (.imul, 1) := by decide +kernel
theorem dX12_systems_130 : decode cX12_systems 130 = .ok (.iload_n 3, 1) := by decide +kernel
theorem dX12_systems_131 : decode cX12_systems 131 = .ok (.iadd, 1) := by decide +kernel
theorem dX12_systems_132 : decode cX12_systems 132 = .ok (.aload_n 0, 1) := by decide +kernel
theorem dX12_systems_133 : decode cX12_systems 133 = .ok (.getfield 20, 3) := by decide +kernel
theorem dX12_systems_136 : decode cX12_systems 136 = .ok (.iconst 5, 1) := by decide +kernel
theorem dX12_systems_137 : decode cX12_systems 137 = .ok (.iconst 3, 1) := by decide +kernel
theorem dX12_systems_138 : decode cX12_systems 138 = .ok (.iload_n 2, 1) := by decide +kernel
theorem dX12_systems_139 : decode cX12_systems 139 = .ok (.iadd, 1) := by decide +kernel
theorem dX12_systems_140 : decode cX12_systems 140 = .ok (.imul, 1) := by decide +kernel
theorem dX12_systems_141 : decode cX12_systems 141 = .ok (.iload_n 3, 1) := by decide +kernel
theorem dX12_systems_142 : decode cX12_systems 142 = .ok (.iadd, 1) := by decide +kernel
theorem dX12_systems_143 : decode cX12_systems 143 = .ok (.laload, 1) := by decide +kernel
theorem dX12_systems_144 : decode cX12_systems 144 = .ok (.lastore, 1) := by decide +kernel
theorem dX12_systems_145 : decode cX12_systems 145 = .ok (.aload_n 0, 1) := by decide +kernel
theorem dX12_systems_146 : decode cX12_systems 146 = .ok (.getfield 26, 3) := by decide +kernel
theorem dX12_systems_149 : decode cX12_systems 149 = .ok (.iconst 5, 1) := by decide +kernel
theorem dX12_systems_150 : decode cX12_systems 150 = .ok (.iload_n 2, 1) := by decide +kernel
theorem dX12_systems_151 : decode cX12_systems 151 = .ok (.imul, 1) := by decide +kernel
theorem dX12_systems_152 : decode cX12_systems 152 = .ok (.iload_n 3, 1) := by decide +kernel
theorem dX12_systems_153 : decode cX12_systems 153 = .ok (.iadd, 1) := by decide +kernel
theorem dX12_systems_154 : decode cX12_systems 154 = .ok (.aload_n 0, 1) := by decide +kernel
theorem dX12_systems_155 : decode cX12_systems 155 = .ok (.getfield 26, 3) := by decide +kernel
theorem dX12_systems_158 : decode cX12_systems 158 = .ok (.iconst 5, 1) := by decide +kernel
theorem dX12_systems_159 : decode cX12_systems 159 = .ok (.iconst 3, 1) := by decide +kernel
theorem dX12_systems_160 : decode cX12_systems 160 = .ok (.iload_n 2, 1) := by decide +kernel
theorem dX12_systems_161 : decode cX12_systems 161 = .ok (.iadd, 1) := by decide +kernel
theorem dX12_systems_162 : decode cX12_systems 162 = .ok (.imul, 1) := by decide +kernel
theorem dX12_systems_163 : decode cX12_systems 163 = .ok (.iload_n 3, 1) := by decide +kernel
theorem dX12_systems_164 : decode cX12_systems 164 = .ok (.iadd, 1) := by decide +kernel
theorem dX12_systems_165 : decode cX12_systems 165 = .ok (.iaload, 1) := by decide +kernel
theorem dX12_systems_166 : decode cX12_systems 166 = .ok (.iastore, 1) := by decide +kernel
theorem dX12_systems_167 : decode cX12_systems 167 = .ok (.iinc 3 1, 3) := by decide +kernel
theorem dX12_systems_170 : decode cX12_systems 170 = .ok (.goto (-52), 3) := by decide +kernel
theorem dX12_systems_173 : decode cX12_systems 173 = .ok (.iinc 2 1, 3) := by decide +kernel
theorem dX12_systems_176 : decode cX12_systems 176 = .ok (.goto (-79), 3) := by decide +kernel
theorem dX12_systems_179 : decode cX12_systems 179 = .ok (.aload_n 0, 1) := by decide +kernel
theorem dX12_systems_180 : decode cX12_systems 180 = .ok (.iconst 0, 1) := by decide +kernel
theorem dX12_systems_181 : decode cX12_systems 181 = .ok (.putfield 204, 3) := by decide +kernel
theorem dX12_systems_184 : decode cX12_systems 184 = .ok (.aload_n 0, 1) := by decide +kernel
theorem dX12_systems_185 : decode cX12_systems 185 = .ok (.invokevirtual 207, 3) := by decide +kernel
theorem dX12_systems_188 : decode cX12_systems 188 = .ok (.iload_n 1, 1) := by decide +kernel
theorem dX12_systems_189 : decode cX12_systems 189 = .ok (.ireturn, 1) := by decide +kernel
theorem dX12_fault_0 : decode cX12_fault 0 = .ok (.aload_n 0, 1) := by decide +kernel
theorem dX12_fault_1 : decode cX12_fault 1 = .ok (.iconst 0, 1) := by decide +kernel
theorem dX12_fault_2 : decode cX12_fault 2 = .ok (.putfield 86, 3) := by decide +kernel
theorem dX12_fault_5 : decode cX12_fault 5 = .ok (.aload_n 0, 1) := by decide +kernel
theorem dX12_fault_6 : decode cX12_fault 6 = .ok (.getfield 150, 3) := by decide +kernel
theorem dX12_fault_9 : decode cX12_fault 9 = .ok (.ireturn, 1) := by decide +kernel
set_option maxRecDepth 20000 in
theorem ggX12_system_X12_refuse : GoodIn wsX12_system wsX12_refuse := goodIn_r _ [9, 2, 10, 11, 12, 13, 14, 15, 16, 17, 18, 19, 20, 21, 22, 23, 24, 25, 26, 27, 28, 29, 30, 31, 32, 33, 34, 35, 36, 37, 38, 39, 40, 41, 42, 43, 44, 45, 46, 47, 48, 49, 50, 51, 52, 53, 54, 55, 56, 57, 58, 59, 60] (by decide +kernel) (by decide +kernel)
set_option maxRecDepth 20000 in
theorem gX12_system_X12_refuse : GoodIn wsX12_system (wsV RX12 210 RX12 yX12_refuse wsX12_refuse) := goodIn_app (goodIn_of _ (by decide +kernel)) ggX12_system_X12_refuse
theorem dX12_system_0 : decode cX12_system 0 = .ok (.iload_n 1, 1) := by decide +kernel
theorem dX12_system_1 : decode cX12_system 1 = .ok (.ifCond .lt 20, 3) := by decide +kernel
theorem dX12_system_4 : decode cX12_system 4 = .ok (.iload_n 1, 1) := by decide +kernel
theorem dX12_system_5 : decode cX12_system 5 = .ok (.aload_n 0, 1) := by decide +kernel
theorem dX12_system_6 : decode cX12_system 6 = .ok (.getfield 201, 3) := by decide +kernel
theorem dX12_system_9 : decode cX12_system 9 = .ok (.if_icmp .ge 12, 3) := by decide +kernel
theorem dX12_system_12 : decode cX12_system 12 = .ok (.iload_n 2, 1) := by decide +kernel
theorem dX12_system_13 : decode cX12_system 13 = .ok (.ifCond .lt 8, 3) := by decide +kernel
theorem dX12_system_16 : decode cX12_system 16 = .ok (.iload_n 2, 1) := by decide +kernel
theorem dX12_system_17 : decode cX12_system 17 = .ok (.iconst 4, 1) := by decide +kernel
theorem dX12_system_18 : decode cX12_system 18 = .ok (.if_icmp .le 8, 3) := by decide +kernel
theorem dX12_system_21 : decode cX12_system 21 = .ok (.aload_n 0, 1) := by decide +kernel
theorem dX12_system_22 : decode cX12_system 22 = .ok (.invokevirtual 210, 3) := by decide +kernel
theorem dX12_system_25 : decode cX12_system 25 = .ok (.ireturn, 1) := by decide +kernel
theorem dX12_system_26 : decode cX12_system 26 = .ok (.aload_n 0, 1) := by decide +kernel
theorem dX12_system_27 : decode cX12_system 27 = .ok (.iconst 0, 1) := by decide +kernel
theorem dX12_system_28 : decode cX12_system 28 = .ok (.putfield 86, 3) := by decide +kernel
theorem dX12_system_31 : decode cX12_system 31 = .ok (.iload_n 2, 1) := by decide +kernel
theorem dX12_system_32 : decode cX12_system 32 = .ok (.ifCond .ne 12, 3) := by decide +kernel
theorem dX12_system_35 : decode cX12_system 35 = .ok (.aload_n 0, 1) := by decide +kernel
theorem dX12_system_36 : decode cX12_system 36 = .ok (.getfield 23, 3) := by decide +kernel
theorem dX12_system_39 : decode cX12_system 39 = .ok (.iload_n 1, 1) := by decide +kernel
theorem dX12_system_40 : decode cX12_system 40 = .ok (.iaload, 1) := by decide +kernel
theorem dX12_system_41 : decode cX12_system 41 = .ok (.goto 27, 3) := by decide +kernel
theorem dX12_system_44 : decode cX12_system 44 = .ok (.iload_n 2, 1) := by decide +kernel
theorem dX12_system_45 : decode cX12_system 45 = .ok (.aload_n 0, 1) := by decide +kernel
theorem dX12_system_46 : decode cX12_system 46 = .ok (.getfield 23, 3) := by decide +kernel
theorem dX12_system_49 : decode cX12_system 49 = .ok (.iload_n 1, 1) := by decide +kernel
theorem dX12_system_50 : decode cX12_system 50 = .ok (.iaload, 1) := by decide +kernel
theorem dX12_system_51 : decode cX12_system 51 = .ok (.if_icmp .ge 16, 3) := by decide +kernel
theorem dX12_system_54 : decode cX12_system 54 = .ok (.aload_n 0, 1) := by decide +kernel
theorem dX12_system_55 : decode cX12_system 55 = .ok (.getfield 26, 3) := by decide +kernel
theorem dX12_system_58 : decode cX12_system 58 = .ok (.iconst 5, 1) := by decide +kernel
theorem dX12_system_59 : decode cX12_system 59 = .ok (.iload_n 1, 1) := by decide +kernel
theorem dX12_system_60 : decode cX12_system 60 = .ok (.imul, 1) := by decide +kernel
theorem dX12_system_61 : decode cX12_system 61 = .ok (.iload_n 2, 1) := by decide +kernel
theorem dX12_system_62 : decode cX12_system 62 = .ok (.iadd, 1) := by decide +kernel
theorem dX12_system_63 : decode cX12_system 63 = .ok (.iaload, 1) := by decide +kernel
theorem dX12_system_64 : decode cX12_system 64 = .ok (.goto 4, 3) := by decide +kernel
theorem dX12_system_67 : decode cX12_system 67 = .ok (.iconst (-1), 1) := by decide +kernel
theorem dX12_system_68 : decode cX12_system 68 = .ok (.ireturn, 1) := by decide +kernel
theorem dX12_write_0 : decode cX12_write 0 = .ok (.aload_n 0, 1) := by decide +kernel
theorem dX12_write_1 : decode cX12_write 1 = .ok (.iconst 0, 1) := by decide +kernel
theorem dX12_write_2 : decode cX12_write 2 = .ok (.putfield 86, 3) := by decide +kernel
theorem dX12_write_5 : decode cX12_write 5 = .ok (.iload_n 1, 1) := by decide +kernel
theorem dX12_write_6 : decode cX12_write 6 = .ok (.ifCond .lt 36, 3) := by decide +kernel
theorem dX12_write_9 : decode cX12_write 9 = .ok (.iload_n 1, 1) := by decide +kernel
theorem dX12_write_10 : decode cX12_write 10 = .ok (.aload_n 0, 1) := by decide +kernel
theorem dX12_write_11 : decode cX12_write 11 = .ok (.getfield 201, 3) := by decide +kernel
theorem dX12_write_14 : decode cX12_write 14 = .ok (.if_icmp .ge 28, 3) := by decide +kernel
theorem dX12_write_17 : decode cX12_write 17 = .ok (.iload_n 2, 1) := by decide +kernel
theorem dX12_write_18 : decode cX12_write 18 = .ok (.iconst 1, 1) := by decide +kernel
theorem dX12_write_19 : decode cX12_write 19 = .ok (.if_icmp .lt 23, 3) := by decide +kernel
theorem dX12_write_22 : decode cX12_write 22 = .ok (.iload_n 2, 1) := by decide +kernel
theorem dX12_write_23 : decode cX12_write 23 = .ok (.aload_n 0, 1) := by decide +kernel
theorem dX12_write_24 : decode cX12_write 24 = .ok (.iload_n 1, 1) := by decide +kernel
theorem dX12_write_25 : decode cX12_write 25 = .ok (.aload_n 0, 1) := by decide +kernel
theorem dX12_write_26 : decode cX12_write 26 = .ok (.getfield 23, 3) := by decide +kernel
theorem dX12_write_29 : decode cX12_write 29 = .ok (.iload_n 1, 1) := by decide +kernel
theorem dX12_write_30 : decode cX12_write 30 = .ok (.iaload, 1) := by decide +kernel
theorem dX12_write_31 : decode cX12_write 31 = .ok (.iconst 1, 1) := by decide +kernel
theorem dX12_write_32 : decode cX12_write 32 = .ok (.isub, 1) := by decide +kernel
theorem dX12_write_33 : decode cX12_write 33 = .ok (.invokevirtual 220, 3) := by decide +kernel
theorem dX12_write_36 : decode cX12_write 36 = .ok (.idiv, 1) := by decide +kernel
theorem dX12_write_37 : decode cX12_write 37 = .ok (.bipush 99, 2) := by decide +kernel
theorem dX12_write_39 : decode cX12_write 39 = .ok (.if_icmp .le 5, 3) := by decide +kernel
theorem dX12_write_42 : decode cX12_write 42 = .ok (.iconst (-1), 1) := by decide +kernel
theorem dX12_write_43 : decode cX12_write 43 = .ok (.ireturn, 1) := by decide +kernel
theorem dX12_write_44 : decode cX12_write 44 = .ok (.aload_n 0, 1) := by decide +kernel
theorem dX12_write_45 : decode cX12_write 45 = .ok (.iconst 0, 1) := by decide +kernel
theorem dX12_write_46 : decode cX12_write 46 = .ok (.putfield 214, 3) := by decide +kernel
theorem dX12_write_49 : decode cX12_write 49 = .ok (.iload_n 2, 1) := by decide +kernel
theorem dX12_write_50 : decode cX12_write 50 = .ok (.istore_n 3, 1) := by decide +kernel
theorem dX12_write_51 : decode cX12_write 51 = .ok (.aload_n 0, 1) := by decide +kernel
theorem dX12_write_52 : decode cX12_write 52 = .ok (.getfield 23, 3) := by decide +kernel
theorem dX12_write_55 : decode cX12_write 55 = .ok (.iload_n 1, 1) := by decide +kernel
theorem dX12_write_56 : decode cX12_write 56 = .ok (.iaload, 1) := by decide +kernel
theorem dX12_write_57 : decode cX12_write 57 = .ok (.iconst 1, 1) := by decide +kernel
theorem dX12_write_58 : decode cX12_write 58 = .ok (.isub, 1) := by decide +kernel
theorem dX12_write_59 : decode cX12_write 59 = .ok (.istore 4, 2) := by decide +kernel
theorem dX12_write_61 : decode cX12_write 61 = .ok (.iload 4, 2) := by decide +kernel
theorem dX12_write_63 : decode cX12_write 63 = .ok (.ifCond .lt 103, 3) := by decide +kernel
theorem dX12_write_66 : decode cX12_write 66 = .ok (.iload_n 3, 1) := by decide +kernel
theorem dX12_write_67 : decode cX12_write 67 = .ok (.aload_n 0, 1) := by decide +kernel
theorem dX12_write_68 : decode cX12_write 68 = .ok (.iload_n 1, 1) := by decide +kernel
theorem dX12_write_69 : decode cX12_write 69 = .ok (.iload 4, 2) := by decide +kernel
theorem dX12_write_71 : decode cX12_write 71 = .ok (.invokevirtual 220, 3) := by decide +kernel
theorem dX12_write_74 : decode cX12_write 74 = .ok (.idiv, 1) := by decide +kernel
theorem dX12_write_75 : decode cX12_write 75 = .ok (.istore 5, 2) := by decide +kernel
theorem dX12_write_77 : decode cX12_write 77 = .ok (.iload_n 3, 1) := by decide +kernel
theorem dX12_write_78 : decode cX12_write 78 = .ok (.aload_n 0, 1) := by decide +kernel
theorem dX12_write_79 : decode cX12_write 79 = .ok (.iload_n 1, 1) := by decide +kernel
theorem dX12_write_80 : decode cX12_write 80 = .ok (.iload 4, 2) := by decide +kernel
theorem dX12_write_82 : decode cX12_write 82 = .ok (.invokevirtual 220, 3) := by decide +kernel
theorem dX12_write_85 : decode cX12_write 85 = .ok (.irem, 1) := by decide +kernel
theorem dX12_write_86 : decode cX12_write 86 = .ok (.istore_n 3, 1) := by decide +kernel
theorem dX12_write_87 : decode cX12_write 87 = .ok (.iload 5, 2) := by decide +kernel
theorem dX12_write_89 : decode cX12_write 89 = .ok (.ifCond .ne 6, 3) := by decide +kernel
theorem dX12_write_92 : decode cX12_write 92 = .ok (.goto 68, 3) := by decide +kernel
theorem dX12_write_95 : decode cX12_write 95 = .ok (.aload_n 0, 1) := by decide +kernel
theorem dX12_write_96 : decode cX12_write 96 = .ok (.getfield 214, 3) := by decide +kernel
theorem dX12_write_99 : decode cX12_write 99 = .ok (.ifCond .le 9, 3) := by decide +kernel
theorem dX12_write_102 : decode cX12_write 102 = .ok (.aload_n 0, 1) := by decide +kernel
theorem dX12_write_103 : decode cX12_write 103 = .ok (.bipush 32, 2) := by decide +kernel
theorem dX12_write_105 : decode cX12_write 105 = .ok (.invokevirtual 217, 3) := by decide +kernel
theorem dX12_write_108 : decode cX12_write 108 = .ok (.iload 5, 2) := by decide +kernel
theorem dX12_write_110 : decode cX12_write 110 = .ok (.bipush 9, 2) := by decide +kernel
theorem dX12_write_112 : decode cX12_write 112 = .ok (.if_icmp .le 15, 3) := by decide +kernel
theorem dX12_write_115 : decode cX12_write 115 = .ok (.aload_n 0, 1) := by decide +kernel
theorem dX12_write_116 : decode cX12_write 116 = .ok (.bipush 48, 2) := by decide +kernel
theorem dX12_write_118 : decode cX12_write 118 = .ok (.iload 5, 2) := by decide +kernel
theorem dX12_write_120 : decode cX12_write 120 = .ok (.bipush 10, 2) := by decide +kernel
theorem dX12_write_122 : decode cX12_write 122 = .ok (.idiv, 1) := by decide +kernel
theorem dX12_write_123 : decode cX12_write 123 = .ok (.iadd, 1) := by decide +kernel
theorem dX12_write_124 : decode cX12_write 124 = .ok (.invokevirtual 217, 3) := by decide +kernel
theorem dX12_write_127 : decode cX12_write 127 = .ok (.aload_n 0, 1) := by decide +kernel
theorem dX12_write_128 : decode cX12_write 128 = .ok (.bipush 48, 2) := by decide +kernel
theorem dX12_write_130 : decode cX12_write 130 = .ok (.iload 5, 2) := by decide +kernel
theorem dX12_write_132 : decode cX12_write 132 = .ok (.bipush 10, 2) := by decide +kernel
theorem dX12_write_134 : decode cX12_write 134 = .ok (.irem, 1) := by decide +kernel
theorem dX12_write_135 : decode cX12_write 135 = .ok (.iadd, 1) := by decide +kernel
theorem dX12_write_136 : decode cX12_write 136 = .ok (.invokevirtual 217, 3) := by decide +kernel
theorem dX12_write_139 : decode cX12_write 139 = .ok (.aload_n 0, 1) := by decide +kernel
theorem dX12_write_140 : decode cX12_write 140 = .ok (.bipush 32, 2) := by decide +kernel
theorem dX12_write_142 : decode cX12_write 142 = .ok (.invokevirtual 217, 3) := by decide +kernel
theorem dX12_write_145 : decode cX12_write 145 = .ok (.aload_n 0, 1) := by decide +kernel
theorem dX12_write_146 : decode cX12_write 146 = .ok (.aload_n 0, 1) := by decide +kernel
theorem dX12_write_147 : decode cX12_write 147 = .ok (.getfield 20, 3) := by decide +kernel
theorem dX12_write_150 : decode cX12_write 150 = .ok (.iconst 5, 1) := by decide +kernel
theorem dX12_write_151 : decode cX12_write 151 = .ok (.iload_n 1, 1) := by decide +kernel
theorem dX12_write_152 : decode cX12_write 152 = .ok (.imul, 1) := by decide +kernel
theorem dX12_write_153 : decode cX12_write 153 = .ok (.iload 4, 2) := by decide +kernel
theorem dX12_write_155 : decode cX12_write 155 = .ok (.iadd, 1) := by decide +kernel
theorem dX12_write_156 : decode cX12_write 156 = .ok (.laload, 1) := by decide +kernel
theorem dX12_write_157 : decode cX12_write 157 = .ok (.invokevirtual 224, 3) := by decide +kernel
theorem dX12_write_160 : decode cX12_write 160 = .ok (.iinc 4 (-1), 3) := by decide +kernel
theorem dX12_write_163 : decode cX12_write 163 = .ok (.goto (-102), 3) := by decide +kernel
theorem dX12_write_166 : decode cX12_write 166 = .ok (.aload_n 0, 1) := by decide +kernel
theorem dX12_write_167 : decode cX12_write 167 = .ok (.getfield 214, 3) := by decide +kernel
theorem dX12_write_170 : decode cX12_write 170 = .ok (.ireturn, 1) := by decide +kernel
set_option maxRecDepth 20000 in
theorem ggX12_octet_X12_refuse : GoodIn wsX12_octet wsX12_refuse := goodIn_r _ [8, 2, 9, 10, 11, 12, 13, 14, 15, 16, 17, 18, 19, 20, 21, 22, 23, 24, 25, 26, 27, 28, 29, 30, 31, 32, 33, 34, 35, 36, 37, 38, 39, 40, 41, 42, 43, 44, 45, 46, 47, 48, 49, 50, 51, 52, 53, 54, 55, 56, 57, 58, 59] (by decide +kernel) (by decide +kernel)
set_option maxRecDepth 20000 in
theorem gX12_octet_X12_refuse : GoodIn wsX12_octet (wsV RX12 210 RX12 yX12_refuse wsX12_refuse) := goodIn_app (goodIn_of _ (by decide +kernel)) ggX12_octet_X12_refuse
theorem dX12_octet_0 : decode cX12_octet 0 = .ok (.iload_n 1, 1) := by decide +kernel
theorem dX12_octet_1 : decode cX12_octet 1 = .ok (.ifCond .lt 11, 3) := by decide +kernel
theorem dX12_octet_4 : decode cX12_octet 4 = .ok (.iload_n 1, 1) := by decide +kernel
theorem dX12_octet_5 : decode cX12_octet 5 = .ok (.aload_n 0, 1) := by decide +kernel
theorem dX12_octet_6 : decode cX12_octet 6 = .ok (.getfield 214, 3) := by decide +kernel
theorem dX12_octet_9 : decode cX12_octet 9 = .ok (.if_icmp .lt 8, 3) := by decide +kernel
theorem dX12_octet_12 : decode cX12_octet 12 = .ok (.aload_n 0, 1) := by decide +kernel
theorem dX12_octet_13 : decode cX12_octet 13 = .ok (.invokevirtual 210, 3) := by decide +kernel
theorem dX12_octet_16 : decode cX12_octet 16 = .ok (.ireturn, 1) := by decide +kernel
theorem dX12_octet_17 : decode cX12_octet 17 = .ok (.aload_n 0, 1) := by decide +kernel
theorem dX12_octet_18 : decode cX12_octet 18 = .ok (.iconst 0, 1) := by decide +kernel
theorem dX12_octet_19 : decode cX12_octet 19 = .ok (.putfield 86, 3) := by decide +kernel
theorem dX12_octet_22 : decode cX12_octet 22 = .ok (.aload_n 0, 1) := by decide +kernel
theorem dX12_octet_23 : decode cX12_octet 23 = .ok (.getfield 29, 3) := by decide +kernel
theorem dX12_octet_26 : decode cX12_octet 26 = .ok (.iload_n 1, 1) := by decide +kernel
theorem dX12_octet_27 : decode cX12_octet 27 = .ok (.iaload, 1) := by decide +kernel
theorem dX12_octet_28 : decode cX12_octet 28 = .ok (.ireturn, 1) := by decide +kernel
set_option maxRecDepth 20000 in
theorem ggX12_tablet_X12_takes : GoodIn wsX12_tablet wsX12_takes := goodIn_r _ [11, 4, 12, 13, 14, 15, 16, 17, 10, 18, 19, 20, 21, 22, 23, 24, 25, 26, 27, 28, 29, 30, 31, 32, 33, 34, 35, 36, 37, 38, 39, 40, 41, 42, 43, 44, 45, 46, 47, 48, 49, 50, 111, 112, 113, 114, 115, 116, 117, 118, 119, 120, 121, 122, 123, 124, 125, 126, 127, 128, 129, 130, 131, 132, 133, 134, 135, 136, 137, 138, 139, 140, 141, 142, 143, 144, 145, 146, 147, 148, 149, 150, 151, 152, 153, 154, 155, 156, 157, 158, 159, 160, 161] (by decide +kernel) (by decide +kernel)
set_option maxRecDepth 20000 in
theorem gX12_tablet_X12_takes : GoodIn wsX12_tablet (wsV RX12 191 RX12 yX12_takes wsX12_takes) := goodIn_app (goodIn_of _ (by decide +kernel)) ggX12_tablet_X12_takes
theorem dX12_tablet_0 : decode cX12_tablet 0 = .ok (.aload_n 0, 1) := by decide +kernel
theorem dX12_tablet_1 : decode cX12_tablet 1 = .ok (.iconst 0, 1) := by decide +kernel
theorem dX12_tablet_2 : decode cX12_tablet 2 = .ok (.putfield 86, 3) := by decide +kernel
theorem dX12_tablet_5 : decode cX12_tablet 5 = .ok (.aload_n 0, 1) := by decide +kernel
theorem dX12_tablet_6 : decode cX12_tablet 6 = .ok (.getfield 204, 3) := by decide +kernel
theorem dX12_tablet_9 : decode cX12_tablet 9 = .ok (.bipush 8, 2) := by decide +kernel
theorem dX12_tablet_11 : decode cX12_tablet 11 = .ok (.if_icmp .eq 10, 3) := by decide +kernel
theorem dX12_tablet_14 : decode cX12_tablet 14 = .ok (.aload_n 0, 1) := by decide +kernel
theorem dX12_tablet_15 : decode cX12_tablet 15 = .ok (.getfield 201, 3) := by decide +kernel
theorem dX12_tablet_18 : decode cX12_tablet 18 = .ok (.ifCond .ne 12, 3) := by decide +kernel
theorem dX12_tablet_21 : decode cX12_tablet 21 = .ok (.aload_n 0, 1) := by decide +kernel
theorem dX12_tablet_22 : decode cX12_tablet 22 = .ok (.iconst 0, 1) := by decide +kernel
theorem dX12_tablet_23 : decode cX12_tablet 23 = .ok (.putfield 90, 3) := by decide +kernel
theorem dX12_tablet_26 : decode cX12_tablet 26 = .ok (.sipush (-400), 3) := by decide +kernel
theorem dX12_tablet_29 : decode cX12_tablet 29 = .ok (.ireturn, 1) := by decide +kernel
theorem dX12_tablet_30 : decode cX12_tablet 30 = .ok (.aload_n 0, 1) := by decide +kernel
theorem dX12_tablet_31 : decode cX12_tablet 31 = .ok (.iconst 0, 1) := by decide +kernel
theorem dX12_tablet_32 : decode cX12_tablet 32 = .ok (.putfield 150, 3) := by decide +kernel
theorem dX12_tablet_35 : decode cX12_tablet 35 = .ok (.aload_n 0, 1) := by decide +kernel
theorem dX12_tablet_36 : decode cX12_tablet 36 = .ok (.sipush 300, 3) := by decide +kernel
theorem dX12_tablet_39 : decode cX12_tablet 39 = .ok (.iconst 1, 1) := by decide +kernel
theorem dX12_tablet_40 : decode cX12_tablet 40 = .ok (.invokevirtual 191, 3) := by decide +kernel
theorem dX12_tablet_43 : decode cX12_tablet 43 = .ok (.aload_n 0, 1) := by decide +kernel
theorem dX12_tablet_44 : decode cX12_tablet 44 = .ok (.aload_n 0, 1) := by decide +kernel
theorem dX12_tablet_45 : decode cX12_tablet 45 = .ok (.getfield 204, 3) := by decide +kernel
theorem dX12_tablet_48 : decode cX12_tablet 48 = .ok (.invokevirtual 254, 3) := by decide +kernel
theorem dX12_tablet_51 : decode cX12_tablet 51 = .ok (.ifCond .ne 10, 3) := by decide +kernel
theorem dX12_tablet_54 : decode cX12_tablet 54 = .ok (.iconst (-1), 1) := by decide +kernel
theorem dX12_tablet_55 : decode cX12_tablet 55 = .ok (.aload_n 0, 1) := by decide +kernel
theorem dX12_tablet_56 : decode cX12_tablet 56 = .ok (.getfield 153, 3) := by decide +kernel
theorem dX12_tablet_59 : decode cX12_tablet 59 = .ok (.isub, 1) := by decide +kernel
theorem dX12_tablet_60 : decode cX12_tablet 60 = .ok (.ireturn, 1) := by decide +kernel
theorem dX12_tablet_61 : decode cX12_tablet 61 = .ok (.aload_n 0, 1) := by decide +kernel
theorem dX12_tablet_62 : decode cX12_tablet 62 = .ok (.dup, 1) := by decide +kernel
theorem dX12_tablet_63 : decode cX12_tablet 63 = .ok (.getfield 204, 3) := by decide +kernel
theorem dX12_tablet_66 : decode cX12_tablet 66 = .ok (.iconst 1, 1) := by decide +kernel
theorem dX12_tablet_67 : decode cX12_tablet 67 = .ok (.iadd, 1) := by decide +kernel
theorem dX12_tablet_68 : decode cX12_tablet 68 = .ok (.putfield 204, 3) := by decide +kernel
theorem dX12_tablet_71 : decode cX12_tablet 71 = .ok (.aload_n 0, 1) := by decide +kernel
theorem dX12_tablet_72 : decode cX12_tablet 72 = .ok (.getfield 204, 3) := by decide +kernel
theorem dX12_tablet_75 : decode cX12_tablet 75 = .ok (.iconst 1, 1) := by decide +kernel
theorem dX12_tablet_76 : decode cX12_tablet 76 = .ok (.isub, 1) := by decide +kernel
theorem dX12_tablet_77 : decode cX12_tablet 77 = .ok (.ireturn, 1) := by decide +kernel
theorem dX12_isTablet_0 : decode cX12_isTablet 0 = .ok (.iload_n 1, 1) := by decide +kernel
theorem dX12_isTablet_1 : decode cX12_isTablet 1 = .ok (.ifCond .lt 15, 3) := by decide +kernel
theorem dX12_isTablet_4 : decode cX12_isTablet 4 = .ok (.iload_n 1, 1) := by decide +kernel
theorem dX12_isTablet_5 : decode cX12_isTablet 5 = .ok (.aload_n 0, 1) := by decide +kernel
theorem dX12_isTablet_6 : decode cX12_isTablet 6 = .ok (.getfield 204, 3) := by decide +kernel
theorem dX12_isTablet_9 : decode cX12_isTablet 9 = .ok (.if_icmp .ge 7, 3) := by decide +kernel
theorem dX12_isTablet_12 : decode cX12_isTablet 12 = .ok (.iconst 1, 1) := by decide +kernel
theorem dX12_isTablet_13 : decode cX12_isTablet 13 = .ok (.goto 4, 3) := by decide +kernel
theorem dX12_isTablet_16 : decode cX12_isTablet 16 = .ok (.iconst 0, 1) := by decide +kernel
theorem dX12_isTablet_17 : decode cX12_isTablet 17 = .ok (.ireturn, 1) := by decide +kernel
set_option maxRecDepth 20000 in
theorem ggX12_isLine_X12_isTablet : GoodIn wsX12_isLine wsX12_isTablet := goodIn_r _ [6, 7, 8, 9, 10, 11, 12, 13, 14, 15, 16, 17, 18, 19, 20, 21, 22, 23, 24, 25, 26, 27, 28, 29, 30, 31, 32, 33, 34, 35, 36, 37, 38, 39, 40, 41, 42, 43, 44, 45, 46, 47, 48, 49, 50, 51, 52, 53, 54, 55, 56, 57, 58] (by decide +kernel) (by decide +kernel)
set_option maxRecDepth 20000 in
theorem gX12_isLine_X12_isTablet : GoodIn wsX12_isLine (wsV RX12 257 RX12 yX12_isTablet wsX12_isTablet) := goodIn_app (goodIn_of _ (by decide +kernel)) ggX12_isLine_X12_isTablet
theorem dX12_isLine_0 : decode cX12_isLine 0 = .ok (.aload_n 0, 1) := by decide +kernel
theorem dX12_isLine_1 : decode cX12_isLine 1 = .ok (.iload_n 1, 1) := by decide +kernel
theorem dX12_isLine_2 : decode cX12_isLine 2 = .ok (.invokevirtual 257, 3) := by decide +kernel
theorem dX12_isLine_5 : decode cX12_isLine 5 = .ok (.ifCond .eq 21, 3) := by decide +kernel
theorem dX12_isLine_8 : decode cX12_isLine 8 = .ok (.iload_n 2, 1) := by decide +kernel
theorem dX12_isLine_9 : decode cX12_isLine 9 = .ok (.ifCond .lt 17, 3) := by decide +kernel
theorem dX12_isLine_12 : decode cX12_isLine 12 = .ok (.iload_n 2, 1) := by decide +kernel
theorem dX12_isLine_13 : decode cX12_isLine 13 = .ok (.aload_n 0, 1) := by decide +kernel
theorem dX12_isLine_14 : decode cX12_isLine 14 = .ok (.getfield 32, 3) := by decide +kernel
theorem dX12_isLine_17 : decode cX12_isLine 17 = .ok (.iload_n 1, 1) := by decide +kernel
theorem dX12_isLine_18 : decode cX12_isLine 18 = .ok (.iaload, 1) := by decide +kernel
theorem dX12_isLine_19 : decode cX12_isLine 19 = .ok (.if_icmp .ge 7, 3) := by decide +kernel
theorem dX12_isLine_22 : decode cX12_isLine 22 = .ok (.iconst 1, 1) := by decide +kernel
theorem dX12_isLine_23 : decode cX12_isLine 23 = .ok (.goto 4, 3) := by decide +kernel
theorem dX12_isLine_26 : decode cX12_isLine 26 = .ok (.iconst 0, 1) := by decide +kernel
theorem dX12_isLine_27 : decode cX12_isLine 27 = .ok (.ireturn, 1) := by decide +kernel
set_option maxRecDepth 20000 in
theorem ggX12_line_X12_isLine : GoodIn wsX12_line wsX12_isLine := goodIn_r _ [12, 13, 14, 15, 16, 11, 17, 18, 28, 29, 30, 31, 32, 33, 34, 35, 36, 37, 38, 39, 40, 41, 42, 43, 44, 45, 46, 47, 48, 49, 50, 51, 52, 53, 54, 55, 56, 57, 58, 59, 60, 61, 62, 63, 64, 65, 66, 67, 68, 69, 70, 71, 72, 73, 74, 75, 76, 77, 78] (by decide +kernel) (by decide +kernel)
set_option maxRecDepth 20000 in
theorem gX12_line_X12_isLine : GoodIn wsX12_line (wsV RX12 281 RX12 yX12_isLine wsX12_isLine) := goodIn_app (goodIn_of _ (by decide +kernel)) ggX12_line_X12_isLine
set_option maxRecDepth 20000 in
theorem ggX12_line_X12_refuse : GoodIn wsX12_line wsX12_refuse := goodIn_r _ [22, 1, 28, 29, 30, 31, 32, 33, 34, 35, 36, 37, 38, 39, 40, 41, 42, 43, 44, 45, 46, 47, 48, 49, 50, 51, 52, 53, 54, 55, 56, 57, 58, 59, 60, 61, 62, 63, 64, 65, 66, 67, 68, 69, 70, 71, 72, 73, 74, 75, 76, 77, 78] (by decide +kernel) (by decide +kernel)
set_option maxRecDepth 20000 in
theorem gX12_line_X12_refuse : GoodIn wsX12_line (wsV RX12 210 RX12 yX12_refuse wsX12_refuse) := goodIn_app (goodIn_of _ (by decide +kernel)) ggX12_line_X12_refuse
theorem dX12_line_0 : decode cX12_line 0 = .ok (.aload_n 0, 1) := by decide +kernel
theorem dX12_line_1 : decode cX12_line 1 = .ok (.iload_n 1, 1) := by decide +kernel
theorem dX12_line_2 : decode cX12_line 2 = .ok (.iload_n 2, 1) := by decide +kernel
theorem dX12_line_3 : decode cX12_line 3 = .ok (.invokevirtual 281, 3) := by decide +kernel
theorem dX12_line_6 : decode cX12_line 6 = .ok (.ifCond .eq 12, 3) := by decide +kernel
theorem dX12_line_9 : decode cX12_line 9 = .ok (.iload_n 3, 1) := by decide +kernel
theorem dX12_line_10 : decode cX12_line 10 = .ok (.ifCond .lt 8, 3) := by decide +kernel
theorem dX12_line_13 : decode cX12_line 13 = .ok (.iload_n 3, 1) := by decide +kernel
theorem dX12_line_14 : decode cX12_line 14 = .ok (.iconst 3, 1) := by decide +kernel
theorem dX12_line_15 : decode cX12_line 15 = .ok (.if_icmp .le 8, 3) := by decide +kernel
theorem dX12_line_18 : decode cX12_line 18 = .ok (.aload_n 0, 1) := by decide +kernel
theorem dX12_line_19 : decode cX12_line 19 = .ok (.invokevirtual 210, 3) := by decide +kernel
theorem dX12_line_22 : decode cX12_line 22 = .ok (.ireturn, 1) := by decide +kernel
theorem dX12_line_23 : decode cX12_line 23 = .ok (.aload_n 0, 1) := by decide +kernel
theorem dX12_line_24 : decode cX12_line 24 = .ok (.iconst 0, 1) := by decide +kernel
theorem dX12_line_25 : decode cX12_line 25 = .ok (.putfield 86, 3) := by decide +kernel
theorem dX12_line_28 : decode cX12_line 28 = .ok (.bipush 12, 2) := by decide +kernel
theorem dX12_line_30 : decode cX12_line 30 = .ok (.iload_n 1, 1) := by decide +kernel
theorem dX12_line_31 : decode cX12_line 31 = .ok (.imul, 1) := by decide +kernel
theorem dX12_line_32 : decode cX12_line 32 = .ok (.iload_n 2, 1) := by decide +kernel
theorem dX12_line_33 : decode cX12_line 33 = .ok (.iadd, 1) := by decide +kernel
theorem dX12_line_34 : decode cX12_line 34 = .ok (.istore 4, 2) := by decide +kernel
theorem dX12_line_36 : decode cX12_line 36 = .ok (.iconst 0, 1) := by decide +kernel
theorem dX12_line_37 : decode cX12_line 37 = .ok (.istore 5, 2) := by decide +kernel
theorem dX12_line_39 : decode cX12_line 39 = .ok (.iconst 0, 1) := by decide +kernel
theorem dX12_line_40 : decode cX12_line 40 = .ok (.istore 6, 2) := by decide +kernel
theorem dX12_line_42 : decode cX12_line 42 = .ok (.iload 6, 2) := by decide +kernel
theorem dX12_line_44 : decode cX12_line 44 = .ok (.aload_n 0, 1) := by decide +kernel
theorem dX12_line_45 : decode cX12_line 45 = .ok (.getfield 41, 3) := by decide +kernel
theorem dX12_line_48 : decode cX12_line 48 = .ok (.iload 4, 2) := by decide +kernel
theorem dX12_line_50 : decode cX12_line 50 = .ok (.iaload, 1) := by decide +kernel
theorem dX12_line_51 : decode cX12_line 51 = .ok (.if_icmp .ge 59, 3) := by decide +kernel
theorem dX12_line_54 : decode cX12_line 54 = .ok (.iload 5, 2) := by decide +kernel
theorem dX12_line_56 : decode cX12_line 56 = .ok (.aload_n 0, 1) := by decide +kernel
theorem dX12_line_57 : decode cX12_line 57 = .ok (.getfield 47, 3) := by decide +kernel
theorem dX12_line_60 : decode cX12_line 60 = .ok (.iconst 5, 1) := by decide +kernel
theorem dX12_line_61 : decode cX12_line 61 = .ok (.iload 4, 2) := by decide +kernel
theorem dX12_line_63 : decode cX12_line 63 = .ok (.imul, 1) := by decide +kernel
theorem dX12_line_64 : decode cX12_line 64 = .ok (.iload 6, 2) := by decide +kernel
theorem dX12_line_66 : decode cX12_line 66 = .ok (.iadd, 1) := by decide +kernel
theorem dX12_line_67 : decode cX12_line 67 = .ok (.iaload, 1) := by decide +kernel
theorem dX12_line_68 : decode cX12_line 68 = .ok (.bipush 10, 2) := by decide +kernel
theorem dX12_line_70 : decode cX12_line 70 = .ok (.if_icmp .ne 7, 3) := by decide +kernel
theorem dX12_line_73 : decode cX12_line 73 = .ok (.iconst 1, 1) := by decide +kernel
theorem dX12_line_74 : decode cX12_line 74 = .ok (.goto 4, 3) := by decide +kernel
theorem dX12_line_77 : decode cX12_line 77 = .ok (.iconst 0, 1) := by decide +kernel
theorem dX12_line_78 : decode cX12_line 78 = .ok (.aload_n 0, 1) := by decide +kernel
theorem dX12_line_79 : decode cX12_line 79 = .ok (.getfield 50, 3) := by decide +kernel
theorem dX12_line_82 : decode cX12_line 82 = .ok (.iconst 5, 1) := by decide +kernel
theorem dX12_line_83 : decode cX12_line 83 = .ok (.iload 4, 2) := by decide +kernel
theorem dX12_line_85 : decode cX12_line 85 = .ok (.imul, 1) := by decide +kernel
theorem dX12_line_86 : decode cX12_line 86 = .ok (.iload 6, 2) := by decide +kernel
theorem dX12_line_88 : decode cX12_line 88 = .ok (.iadd, 1) := by decide +kernel
theorem dX12_line_89 : decode cX12_line 89 = .ok (.iaload, 1) := by decide +kernel
theorem dX12_line_90 : decode cX12_line 90 = .ok (.bipush 10, 2) := by decide +kernel
theorem dX12_line_92 : decode cX12_line 92 = .ok (.if_icmp .ne 7, 3) := by decide +kernel
theorem dX12_line_95 : decode cX12_line 95 = .ok (.iconst 1, 1) := by decide +kernel
theorem dX12_line_96 : decode cX12_line 96 = .ok (.goto 4, 3) := by decide +kernel
theorem dX12_line_99 : decode cX12_line 99 = .ok (.iconst 0, 1) := by decide +kernel
theorem dX12_line_100 : decode cX12_line 100 = .ok (.iadd, 1) := by decide +kernel
theorem dX12_line_101 : decode cX12_line 101 = .ok (.iadd, 1) := by decide +kernel
theorem dX12_line_102 : decode cX12_line 102 = .ok (.istore 5, 2) := by decide +kernel
theorem dX12_line_104 : decode cX12_line 104 = .ok (.iinc 6 1, 3) := by decide +kernel
theorem dX12_line_107 : decode cX12_line 107 = .ok (.goto (-65), 3) := by decide +kernel
theorem dX12_line_110 : decode cX12_line 110 = .ok (.iload_n 3, 1) := by decide +kernel
theorem dX12_line_111 : decode cX12_line 111 = .ok (.iconst 3, 1) := by decide +kernel
theorem dX12_line_112 : decode cX12_line 112 = .ok (.if_icmp .ge 35, 3) := by decide +kernel
theorem dX12_line_115 : decode cX12_line 115 = .ok (.iload_n 3, 1) := by decide +kernel
theorem dX12_line_116 : decode cX12_line 116 = .ok (.ifCond .ne 13, 3) := by decide +kernel
theorem dX12_line_119 : decode cX12_line 119 = .ok (.aload_n 0, 1) := by decide +kernel
theorem dX12_line_120 : decode cX12_line 120 = .ok (.getfield 35, 3) := by decide +kernel
theorem dX12_line_123 : decode cX12_line 123 = .ok (.iload 4, 2) := by decide +kernel
theorem dX12_line_125 : decode cX12_line 125 = .ok (.iaload, 1) := by decide +kernel
theorem dX12_line_126 : decode cX12_line 126 = .ok (.goto 20, 3) := by decide +kernel
theorem dX12_line_129 : decode cX12_line 129 = .ok (.iload_n 3, 1) := by decide +kernel
theorem dX12_line_130 : decode cX12_line 130 = .ok (.iconst 1, 1) := by decide +kernel
theorem dX12_line_131 : decode cX12_line 131 = .ok (.if_icmp .ne 13, 3) := by decide +kernel
theorem dX12_line_134 : decode cX12_line 134 = .ok (.aload_n 0, 1) := by decide +kernel
theorem dX12_line_135 : decode cX12_line 135 = .ok (.getfield 38, 3) := by decide +kernel
theorem dX12_line_138 : decode cX12_line 138 = .ok (.iload 4, 2) := by decide +kernel
theorem dX12_line_140 : decode cX12_line 140 = .ok (.iaload, 1) := by decide +kernel
theorem dX12_line_141 : decode cX12_line 141 = .ok (.goto 5, 3) := by decide +kernel
theorem dX12_line_144 : decode cX12_line 144 = .ok (.iload 5, 2) := by decide +kernel
theorem dX12_line_146 : decode cX12_line 146 = .ok (.ireturn, 1) := by decide +kernel
theorem dX12_line_147 : decode cX12_line 147 = .ok (.iload 5, 2) := by decide +kernel
theorem dX12_line_149 : decode cX12_line 149 = .ok (.ifCond .le 5, 3) := by decide +kernel
theorem dX12_line_152 : decode cX12_line 152 = .ok (.iconst (-1), 1) := by decide +kernel
theorem dX12_line_153 : decode cX12_line 153 = .ok (.ireturn, 1) := by decide +kernel
theorem dX12_line_154 : decode cX12_line 154 = .ok (.iconst 0, 1) := by decide +kernel
theorem dX12_line_155 : decode cX12_line 155 = .ok (.istore 6, 2) := by decide +kernel
theorem dX12_line_157 : decode cX12_line 157 = .ok (.iconst 0, 1) := by decide +kernel
theorem dX12_line_158 : decode cX12_line 158 = .ok (.istore 7, 2) := by decide +kernel
theorem dX12_line_160 : decode cX12_line 160 = .ok (.iload 7, 2) := by decide +kernel
theorem dX12_line_162 : decode cX12_line 162 = .ok (.aload_n 0, 1) := by decide +kernel
theorem dX12_line_163 : decode cX12_line 163 = .ok (.getfield 41, 3) := by decide +kernel
theorem dX12_line_166 : decode cX12_line 166 = .ok (.iload 4, 2) := by decide +kernel
theorem dX12_line_168 : decode cX12_line 168 = .ok (.iaload, 1) := by decide +kernel
theorem dX12_line_169 : decode cX12_line 169 = .ok (.if_icmp .ge 81, 3) := by decide +kernel
theorem dX12_line_172 : decode cX12_line 172 = .ok (.iconst 5, 1) := by decide +kernel
theorem dX12_line_173 : decode cX12_line 173 = .ok (.iload 4, 2) := by decide +kernel
theorem dX12_line_175 : decode cX12_line 175 = .ok (.imul, 1) := by decide +kernel
theorem dX12_line_176 : decode cX12_line 176 = .ok (.iload 7, 2) := by decide +kernel
theorem dX12_line_178 : decode cX12_line 178 = .ok (.iadd, 1) := by decide +kernel
theorem dX12_line_179 : decode cX12_line 179 = .ok (.istore 8, 2) := by decide +kernel
theorem dX12_line_181 : decode cX12_line 181 = .ok (.iload 6, 2) := by decide +kernel
theorem dX12_line_183 : decode cX12_line 183 = .ok (.aload_n 0, 1) := by decide +kernel
theorem dX12_line_184 : decode cX12_line 184 = .ok (.getfield 50, 3) := by decide +kernel
theorem dX12_line_187 : decode cX12_line 187 = .ok (.iload 8, 2) := by decide +kernel
theorem dX12_line_189 : decode cX12_line 189 = .ok (.iaload, 1) := by decide +kernel
theorem dX12_line_190 : decode cX12_line 190 = .ok (.iconst (-1), 1) := by decide +kernel
theorem dX12_line_191 : decode cX12_line 191 = .ok (.if_icmp .ne 13, 3) := by decide +kernel
theorem dX12_line_194 : decode cX12_line 194 = .ok (.aload_n 0, 1) := by decide +kernel
theorem dX12_line_195 : decode cX12_line 195 = .ok (.getfield 47, 3) := by decide +kernel
theorem dX12_line_198 : decode cX12_line 198 = .ok (.iload 8, 2) := by decide +kernel
theorem dX12_line_200 : decode cX12_line 200 = .ok (.iaload, 1) := by decide +kernel
theorem dX12_line_201 : decode cX12_line 201 = .ok (.goto 21, 3) := by decide +kernel
theorem dX12_line_204 : decode cX12_line 204 = .ok (.bipush 10, 2) := by decide +kernel
theorem dX12_line_206 : decode cX12_line 206 = .ok (.aload_n 0, 1) := by decide +kernel
theorem dX12_line_207 : decode cX12_line 207 = .ok (.getfield 47, 3) := by decide +kernel
theorem dX12_line_210 : decode cX12_line 210 = .ok (.iload 8, 2) := by decide +kernel
theorem dX12_line_212 : decode cX12_line 212 = .ok (.iaload, 1) := by decide +kernel
theorem dX12_line_213 : decode cX12_line 213 = .ok (.imul, 1) := by decide +kernel
theorem dX12_line_214 : decode cX12_line 214 = .ok (.aload_n 0, 1) := by decide +kernel
theorem dX12_line_215 : decode cX12_line 215 = .ok (.getfield 50, 3) := by decide +kernel
theorem dX12_line_218 : decode cX12_line 218 = .ok (.iload 8, 2) := by decide +kernel
theorem dX12_line_220 : decode cX12_line 220 = .ok (.iaload, 1) := by decide +kernel
theorem dX12_line_221 : decode cX12_line 221 = .ok (.iadd, 1) := by decide +kernel
theorem dX12_line_222 : decode cX12_line 222 = .ok (.aload_n 0, 1) := by decide +kernel
theorem dX12_line_223 : decode cX12_line 223 = .ok (.aload_n 0, 1) := by decide +kernel
theorem dX12_line_224 : decode cX12_line 224 = .ok (.getfield 38, 3) := by decide +kernel
theorem dX12_line_227 : decode cX12_line 227 = .ok (.iload 4, 2) := by decide +kernel
theorem dX12_line_229 : decode cX12_line 229 = .ok (.iaload, 1) := by decide +kernel
theorem dX12_line_230 : decode cX12_line 230 = .ok (.aload_n 0, 1) := by decide +kernel
theorem dX12_line_231 : decode cX12_line 231 = .ok (.getfield 53, 3) := by decide +kernel
theorem dX12_line_234 : decode cX12_line 234 = .ok (.iload 8, 2) := by decide +kernel
theorem dX12_line_236 : decode cX12_line 236 = .ok (.iaload, 1) := by decide +kernel
theorem dX12_line_237 : decode cX12_line 237 = .ok (.invokevirtual 220, 3) := by decide +kernel
theorem dX12_line_240 : decode cX12_line 240 = .ok (.imul, 1) := by decide +kernel
theorem dX12_line_241 : decode cX12_line 241 = .ok (.iadd, 1) := by decide +kernel
theorem dX12_line_242 : decode cX12_line 242 = .ok (.istore 6, 2) := by decide +kernel
theorem dX12_line_244 : decode cX12_line 244 = .ok (.iinc 7 1, 3) := by decide +kernel
theorem dX12_line_247 : decode cX12_line 247 = .ok (.goto (-87), 3) := by decide +kernel
theorem dX12_line_250 : decode cX12_line 250 = .ok (.iload 6, 2) := by decide +kernel
theorem dX12_line_252 : decode cX12_line 252 = .ok (.ireturn, 1) := by decide +kernel
set_option maxRecDepth 20000 in
theorem ggX12_lines_X12_isTablet : GoodIn wsX12_lines wsX12_isTablet := goodIn_r _ [7, 8, 9, 10, 11, 12, 13, 14, 15, 16, 17, 18, 19, 20, 21, 22, 23, 24, 25, 26, 27, 28, 29, 30, 31, 32, 33, 34, 35, 36, 37, 38, 39, 40, 41, 42, 43, 44, 45, 46, 47, 48, 49, 50, 51, 52, 53, 54, 55, 56, 57, 58, 59] (by decide +kernel) (by decide +kernel)
set_option maxRecDepth 20000 in
theorem gX12_lines_X12_isTablet : GoodIn wsX12_lines (wsV RX12 257 RX12 yX12_isTablet wsX12_isTablet) := goodIn_app (goodIn_of _ (by decide +kernel)) ggX12_lines_X12_isTablet
theorem dX12_lines_0 : decode cX12_lines 0 = .ok (.aload_n 0, 1) := by decide +kernel
theorem dX12_lines_1 : decode cX12_lines 1 = .ok (.iconst 0, 1) := by decide +kernel
theorem dX12_lines_2 : decode cX12_lines 2 = .ok (.putfield 86, 3) := by decide +kernel
theorem dX12_lines_5 : decode cX12_lines 5 = .ok (.aload_n 0, 1) := by decide +kernel
theorem dX12_lines_6 : decode cX12_lines 6 = .ok (.iload_n 1, 1) := by decide +kernel
theorem dX12_lines_7 : decode cX12_lines 7 = .ok (.invokevirtual 257, 3) := by decide +kernel
theorem dX12_lines_10 : decode cX12_lines 10 = .ok (.ifCond .eq 12, 3) := by decide +kernel
theorem dX12_lines_13 : decode cX12_lines 13 = .ok (.aload_n 0, 1) := by decide +kernel
theorem dX12_lines_14 : decode cX12_lines 14 = .ok (.getfield 32, 3) := by decide +kernel
theorem dX12_lines_17 : decode cX12_lines 17 = .ok (.iload_n 1, 1) := by decide +kernel
theorem dX12_lines_18 : decode cX12_lines 18 = .ok (.iaload, 1) := by decide +kernel
theorem dX12_lines_19 : decode cX12_lines 19 = .ok (.goto 4, 3) := by decide +kernel
theorem dX12_lines_22 : decode cX12_lines 22 = .ok (.iconst (-1), 1) := by decide +kernel
theorem dX12_lines_23 : decode cX12_lines 23 = .ok (.ireturn, 1) := by decide +kernel
set_option maxRecDepth 20000 in
theorem ggX12_readings_X12_isTablet : GoodIn wsX12_readings wsX12_isTablet := goodIn_r _ [7, 8, 52, 53, 54, 55, 56, 57, 58, 59, 60, 61, 62, 63, 64, 65, 66, 67, 68, 69, 70, 71, 72, 73, 74, 75, 76, 77, 78, 79, 80, 81, 82, 83, 84, 85, 86, 87, 88, 89, 90, 91, 92, 93, 94, 95, 96, 97, 98, 99, 100, 101, 102] (by decide +kernel) (by decide +kernel)
set_option maxRecDepth 20000 in
theorem gX12_readings_X12_isTablet : GoodIn wsX12_readings (wsV RX12 257 RX12 yX12_isTablet wsX12_isTablet) := goodIn_app (goodIn_of _ (by decide +kernel)) ggX12_readings_X12_isTablet
theorem dX12_readings_0 : decode cX12_readings 0 = .ok (.aload_n 0, 1) := by decide +kernel
theorem dX12_readings_1 : decode cX12_readings 1 = .ok (.iconst 0, 1) := by decide +kernel
theorem dX12_readings_2 : decode cX12_readings 2 = .ok (.putfield 86, 3) := by decide +kernel
theorem dX12_readings_5 : decode cX12_readings 5 = .ok (.aload_n 0, 1) := by decide +kernel
theorem dX12_readings_6 : decode cX12_readings 6 = .ok (.iload_n 1, 1) := by decide +kernel
theorem dX12_readings_7 : decode cX12_readings 7 = .ok (.invokevirtual 257, 3) := by decide +kernel
theorem dX12_readings_10 : decode cX12_readings 10 = .ok (.ifCond .ne 5, 3) := by decide +kernel
theorem dX12_readings_13 : decode cX12_readings 13 = .ok (.iconst (-1), 1) := by decide +kernel
theorem dX12_readings_14 : decode cX12_readings 14 = .ok (.ireturn, 1) := by decide +kernel
theorem dX12_readings_15 : decode cX12_readings 15 = .ok (.aload_n 0, 1) := by decide +kernel
theorem dX12_readings_16 : decode cX12_readings 16 = .ok (.iload_n 1, 1) := by decide +kernel
theorem dX12_readings_17 : decode cX12_readings 17 = .ok (.iconst (-1), 1) := by decide +kernel
theorem dX12_readings_18 : decode cX12_readings 18 = .ok (.iconst (-1), 1) := by decide +kernel
theorem dX12_readings_19 : decode cX12_readings 19 = .ok (.invokevirtual 284, 3) := by decide +kernel
theorem dX12_readings_22 : decode cX12_readings 22 = .ok (.aload_n 0, 1) := by decide +kernel
theorem dX12_readings_23 : decode cX12_readings 23 = .ok (.getfield 260, 3) := by decide +kernel
theorem dX12_readings_26 : decode cX12_readings 26 = .ok (.ireturn, 1) := by decide +kernel
set_option maxRecDepth 20000 in
theorem ggX12_bound_X12_isLine : GoodIn wsX12_bound wsX12_isLine := goodIn_r _ [9, 10, 11, 12, 13, 8, 14, 15, 60, 61, 62, 63, 64, 65, 66, 67, 68, 69, 70, 71, 72, 73, 74, 75, 76, 77, 78, 79, 80, 81, 82, 83, 84, 85, 86, 87, 88, 89, 90, 91, 92, 93, 94, 95, 96, 97, 98, 99, 100, 101, 102, 103, 104, 105, 106, 107, 108, 109, 110] (by decide +kernel) (by decide +kernel)
set_option maxRecDepth 20000 in
theorem gX12_bound_X12_isLine : GoodIn wsX12_bound (wsV RX12 281 RX12 yX12_isLine wsX12_isLine) := goodIn_app (goodIn_of _ (by decide +kernel)) ggX12_bound_X12_isLine
set_option maxRecDepth 20000 in
theorem ggX12_bound_X12_refuse : GoodIn wsX12_bound wsX12_refuse := goodIn_r _ [19, 1, 60, 61, 62, 63, 64, 65, 66, 67, 68, 69, 70, 71, 72, 73, 74, 75, 76, 77, 78, 79, 80, 81, 82, 83, 84, 85, 86, 87, 88, 89, 90, 91, 92, 93, 94, 95, 96, 97, 98, 99, 100, 101, 102, 103, 104, 105, 106, 107, 108, 109, 110] (by decide +kernel) (by decide +kernel)
set_option maxRecDepth 20000 in
theorem gX12_bound_X12_refuse : GoodIn wsX12_bound (wsV RX12 210 RX12 yX12_refuse wsX12_refuse) := goodIn_app (goodIn_of _ (by decide +kernel)) ggX12_bound_X12_refuse
theorem dX12_bound_0 : decode cX12_bound 0 = .ok (.aload_n 0, 1) := by decide +kernel
theorem dX12_bound_1 : decode cX12_bound 1 = .ok (.iload_n 1, 1) := by decide +kernel
theorem dX12_bound_2 : decode cX12_bound 2 = .ok (.iload_n 2, 1) := by decide +kernel
theorem dX12_bound_3 : decode cX12_bound 3 = .ok (.invokevirtual 281, 3) := by decide +kernel
theorem dX12_bound_6 : decode cX12_bound 6 = .ok (.ifCond .ne 8, 3) := by decide +kernel
theorem dX12_bound_9 : decode cX12_bound 9 = .ok (.aload_n 0, 1) := by decide +kernel
theorem dX12_bound_10 : decode cX12_bound 10 = .ok (.invokevirtual 210, 3) := by decide +kernel
theorem dX12_bound_13 : decode cX12_bound 13 = .ok (.ireturn, 1) := by decide +kernel
theorem dX12_bound_14 : decode cX12_bound 14 = .ok (.aload_n 0, 1) := by decide +kernel
theorem dX12_bound_15 : decode cX12_bound 15 = .ok (.iconst 0, 1) := by decide +kernel
theorem dX12_bound_16 : decode cX12_bound 16 = .ok (.putfield 86, 3) := by decide +kernel
theorem dX12_bound_19 : decode cX12_bound 19 = .ok (.aload_n 0, 1) := by decide +kernel
theorem dX12_bound_20 : decode cX12_bound 20 = .ok (.iload_n 1, 1) := by decide +kernel
theorem dX12_bound_21 : decode cX12_bound 21 = .ok (.iload_n 2, 1) := by decide +kernel
theorem dX12_bound_22 : decode cX12_bound 22 = .ok (.iconst (-1), 1) := by decide +kernel
theorem dX12_bound_23 : decode cX12_bound 23 = .ok (.invokevirtual 284, 3) := by decide +kernel
theorem dX12_bound_26 : decode cX12_bound 26 = .ok (.aload_n 0, 1) := by decide +kernel
theorem dX12_bound_27 : decode cX12_bound 27 = .ok (.getfield 260, 3) := by decide +kernel
theorem dX12_bound_30 : decode cX12_bound 30 = .ok (.ifCond .ne 7, 3) := by decide +kernel
theorem dX12_bound_33 : decode cX12_bound 33 = .ok (.iconst (-1), 1) := by decide +kernel
theorem dX12_bound_34 : decode cX12_bound 34 = .ok (.goto 19, 3) := by decide +kernel
theorem dX12_bound_37 : decode cX12_bound 37 = .ok (.iload_n 3, 1) := by decide +kernel
theorem dX12_bound_38 : decode cX12_bound 38 = .ok (.ifCond .eq 10, 3) := by decide +kernel
theorem dX12_bound_41 : decode cX12_bound 41 = .ok (.aload_n 0, 1) := by decide +kernel
theorem dX12_bound_42 : decode cX12_bound 42 = .ok (.getfield 278, 3) := by decide +kernel
theorem dX12_bound_45 : decode cX12_bound 45 = .ok (.goto 7, 3) := by decide +kernel
theorem dX12_bound_48 : decode cX12_bound 48 = .ok (.aload_n 0, 1) := by decide +kernel
theorem dX12_bound_49 : decode cX12_bound 49 = .ok (.getfield 275, 3) := by decide +kernel
theorem dX12_bound_52 : decode cX12_bound 52 = .ok (.l2i, 1) := by decide +kernel
theorem dX12_bound_53 : decode cX12_bound 53 = .ok (.ireturn, 1) := by decide +kernel
set_option maxRecDepth 20000 in
theorem ggX12_digit_X12_isTablet : GoodIn wsX12_digit wsX12_isTablet := goodIn_r _ [9, 10, 56, 57, 58, 59, 60, 61, 62, 63, 64, 65, 66, 67, 68, 69, 70, 71, 72, 73, 74, 75, 76, 77, 78, 79, 80, 81, 82, 83, 84, 85, 86, 87, 88, 89, 90, 91, 92, 93, 94, 95, 96, 97, 98, 99, 100, 101, 102, 103, 104, 105, 106] (by decide +kernel) (by decide +kernel)
set_option maxRecDepth 20000 in
theorem gX12_digit_X12_isTablet : GoodIn wsX12_digit (wsV RX12 257 RX12 yX12_isTablet wsX12_isTablet) := goodIn_app (goodIn_of _ (by decide +kernel)) ggX12_digit_X12_isTablet
set_option maxRecDepth 20000 in
theorem ggX12_digit_X12_refuse : GoodIn wsX12_digit wsX12_refuse := goodIn_r _ [14, 2, 56, 57, 58, 59, 60, 61, 62, 63, 64, 65, 66, 67, 68, 69, 70, 71, 72, 73, 74, 75, 76, 77, 78, 79, 80, 81, 82, 83, 84, 85, 86, 87, 88, 89, 90, 91, 92, 93, 94, 95, 96, 97, 98, 99, 100, 101, 102, 103, 104, 105, 106] (by decide +kernel) (by decide +kernel)
set_option maxRecDepth 20000 in
theorem gX12_digit_X12_refuse : GoodIn wsX12_digit (wsV RX12 210 RX12 yX12_refuse wsX12_refuse) := goodIn_app (goodIn_of _ (by decide +kernel)) ggX12_digit_X12_refuse
theorem dX12_digit_0 : decode cX12_digit 0 = .ok (.aload_n 0, 1) := by decide +kernel
theorem dX12_digit_1 : decode cX12_digit 1 = .ok (.iload_n 1, 1) := by decide +kernel
theorem dX12_digit_2 : decode cX12_digit 2 = .ok (.invokevirtual 257, 3) := by decide +kernel
theorem dX12_digit_5 : decode cX12_digit 5 = .ok (.ifCond .eq 17, 3) := by decide +kernel
theorem dX12_digit_8 : decode cX12_digit 8 = .ok (.iload_n 2, 1) := by decide +kernel
theorem dX12_digit_9 : decode cX12_digit 9 = .ok (.ifCond .lt 13, 3) := by decide +kernel
theorem dX12_digit_12 : decode cX12_digit 12 = .ok (.iload_n 2, 1) := by decide +kernel
theorem dX12_digit_13 : decode cX12_digit 13 = .ok (.aload_n 0, 1) := by decide +kernel
theorem dX12_digit_14 : decode cX12_digit 14 = .ok (.getfield 44, 3) := by decide +kernel
theorem dX12_digit_17 : decode cX12_digit 17 = .ok (.iload_n 1, 1) := by decide +kernel
theorem dX12_digit_18 : decode cX12_digit 18 = .ok (.iaload, 1) := by decide +kernel
theorem dX12_digit_19 : decode cX12_digit 19 = .ok (.if_icmp .lt 8, 3) := by decide +kernel
theorem dX12_digit_22 : decode cX12_digit 22 = .ok (.aload_n 0, 1) := by decide +kernel
theorem dX12_digit_23 : decode cX12_digit 23 = .ok (.invokevirtual 210, 3) := by decide +kernel
theorem dX12_digit_26 : decode cX12_digit 26 = .ok (.ireturn, 1) := by decide +kernel
theorem dX12_digit_27 : decode cX12_digit 27 = .ok (.aload_n 0, 1) := by decide +kernel
theorem dX12_digit_28 : decode cX12_digit 28 = .ok (.iconst 0, 1) := by decide +kernel
theorem dX12_digit_29 : decode cX12_digit 29 = .ok (.putfield 86, 3) := by decide +kernel
theorem dX12_digit_32 : decode cX12_digit 32 = .ok (.aload_n 0, 1) := by decide +kernel
theorem dX12_digit_33 : decode cX12_digit 33 = .ok (.iload_n 1, 1) := by decide +kernel
theorem dX12_digit_34 : decode cX12_digit 34 = .ok (.iconst (-1), 1) := by decide +kernel
theorem dX12_digit_35 : decode cX12_digit 35 = .ok (.iload_n 2, 1) := by decide +kernel
theorem dX12_digit_36 : decode cX12_digit 36 = .ok (.invokevirtual 284, 3) := by decide +kernel
theorem dX12_digit_39 : decode cX12_digit 39 = .ok (.aload_n 0, 1) := by decide +kernel
theorem dX12_digit_40 : decode cX12_digit 40 = .ok (.getfield 260, 3) := by decide +kernel
theorem dX12_digit_43 : decode cX12_digit 43 = .ok (.ifCond .eq 12, 3) := by decide +kernel
theorem dX12_digit_46 : decode cX12_digit 46 = .ok (.aload_n 0, 1) := by decide +kernel
theorem dX12_digit_47 : decode cX12_digit 47 = .ok (.getfield 263, 3) := by decide +kernel
theorem dX12_digit_50 : decode cX12_digit 50 = .ok (.bipush 10, 2) := by decide +kernel
theorem dX12_digit_52 : decode cX12_digit 52 = .ok (.if_icmp .ne 7, 3) := by decide +kernel
theorem dX12_digit_55 : decode cX12_digit 55 = .ok (.iconst (-1), 1) := by decide +kernel
theorem dX12_digit_56 : decode cX12_digit 56 = .ok (.goto 7, 3) := by decide +kernel
theorem dX12_digit_59 : decode cX12_digit 59 = .ok (.aload_n 0, 1) := by decide +kernel
theorem dX12_digit_60 : decode cX12_digit 60 = .ok (.getfield 263, 3) := by decide +kernel
theorem dX12_digit_63 : decode cX12_digit 63 = .ok (.ireturn, 1) := by decide +kernel
set_option maxRecDepth 20000 in
theorem ggX12_wrong_X12_isTablet : GoodIn wsX12_wrong wsX12_isTablet := goodIn_r _ [6, 7, 44, 45, 46, 47, 48, 49, 50, 51, 52, 53, 54, 55, 56, 57, 58, 59, 60, 61, 62, 63, 64, 65, 66, 67, 68, 69, 70, 71, 72, 73, 74, 75, 76, 77, 78, 79, 80, 81, 82, 83, 84, 85, 86, 87, 88, 89, 90, 91, 92, 93, 94] (by decide +kernel) (by decide +kernel)
set_option maxRecDepth 20000 in
theorem gX12_wrong_X12_isTablet : GoodIn wsX12_wrong (wsV RX12 257 RX12 yX12_isTablet wsX12_isTablet) := goodIn_app (goodIn_of _ (by decide +kernel)) ggX12_wrong_X12_isTablet
theorem dX12_wrong_0 : decode cX12_wrong 0 = .ok (.aload_n 0, 1) := by decide +kernel
theorem dX12_wrong_1 : decode cX12_wrong 1 = .ok (.iconst 0, 1) := by decide +kernel
theorem dX12_wrong_2 : decode cX12_wrong 2 = .ok (.putfield 86, 3) := by decide +kernel
theorem dX12_wrong_5 : decode cX12_wrong 5 = .ok (.aload_n 0, 1) := by decide +kernel
theorem dX12_wrong_6 : decode cX12_wrong 6 = .ok (.iload_n 1, 1) := by decide +kernel
theorem dX12_wrong_7 : decode cX12_wrong 7 = .ok (.invokevirtual 257, 3) := by decide +kernel
theorem dX12_wrong_10 : decode cX12_wrong 10 = .ok (.ifCond .ne 5, 3) := by decide +kernel
theorem dX12_wrong_13 : decode cX12_wrong 13 = .ok (.iconst (-1), 1) := by decide +kernel
theorem dX12_wrong_14 : decode cX12_wrong 14 = .ok (.ireturn, 1) := by decide +kernel
theorem dX12_wrong_15 : decode cX12_wrong 15 = .ok (.bipush 12, 2) := by decide +kernel
theorem dX12_wrong_17 : decode cX12_wrong 17 = .ok (.istore_n 2, 1) := by decide +kernel
theorem dX12_wrong_18 : decode cX12_wrong 18 = .ok (.iconst 0, 1) := by decide +kernel
theorem dX12_wrong_19 : decode cX12_wrong 19 = .ok (.istore_n 3, 1) := by decide +kernel
theorem dX12_wrong_20 : decode cX12_wrong 20 = .ok (.iload_n 3, 1) := by decide +kernel
theorem dX12_wrong_21 : decode cX12_wrong 21 = .ok (.aload_n 0, 1) := by decide +kernel
theorem dX12_wrong_22 : decode cX12_wrong 22 = .ok (.iload_n 1, 1) := by decide +kernel
theorem dX12_wrong_23 : decode cX12_wrong 23 = .ok (.invokevirtual 266, 3) := by decide +kernel
theorem dX12_wrong_26 : decode cX12_wrong 26 = .ok (.if_icmp .ge 37, 3) := by decide +kernel
theorem dX12_wrong_29 : decode cX12_wrong 29 = .ok (.aload_n 0, 1) := by decide +kernel
theorem dX12_wrong_30 : decode cX12_wrong 30 = .ok (.iload_n 1, 1) := by decide +kernel
theorem dX12_wrong_31 : decode cX12_wrong 31 = .ok (.iload_n 3, 1) := by decide +kernel
theorem dX12_wrong_32 : decode cX12_wrong 32 = .ok (.invokevirtual 269, 3) := by decide +kernel
theorem dX12_wrong_35 : decode cX12_wrong 35 = .ok (.ifCond .ne 6, 3) := by decide +kernel
theorem dX12_wrong_38 : decode cX12_wrong 38 = .ok (.goto 19, 3) := by decide +kernel
theorem dX12_wrong_41 : decode cX12_wrong 41 = .ok (.aload_n 0, 1) := by decide +kernel
theorem dX12_wrong_42 : decode cX12_wrong 42 = .ok (.iload_n 1, 1) := by decide +kernel
theorem dX12_wrong_43 : decode cX12_wrong 43 = .ok (.invokevirtual 272, 3) := by decide +kernel
theorem dX12_wrong_46 : decode cX12_wrong 46 = .ok (.istore 4, 2) := by decide +kernel
theorem dX12_wrong_48 : decode cX12_wrong 48 = .ok (.iload 4, 2) := by decide +kernel
theorem dX12_wrong_50 : decode cX12_wrong 50 = .ok (.iload_n 2, 1) := by decide +kernel
theorem dX12_wrong_51 : decode cX12_wrong 51 = .ok (.if_icmp .ge 6, 3) := by decide +kernel
theorem dX12_wrong_54 : decode cX12_wrong 54 = .ok (.iload 4, 2) := by decide +kernel
theorem dX12_wrong_56 : decode cX12_wrong 56 = .ok (.istore_n 2, 1) := by decide +kernel
theorem dX12_wrong_57 : decode cX12_wrong 57 = .ok (.iinc 3 1, 3) := by decide +kernel
theorem dX12_wrong_60 : decode cX12_wrong 60 = .ok (.goto (-40), 3) := by decide +kernel
theorem dX12_wrong_63 : decode cX12_wrong 63 = .ok (.iload_n 2, 1) := by decide +kernel
theorem dX12_wrong_64 : decode cX12_wrong 64 = .ok (.ireturn, 1) := by decide +kernel
theorem dX12_isEdge_0 : decode cX12_isEdge 0 = .ok (.iload_n 0, 1) := by decide +kernel
theorem dX12_isEdge_1 : decode cX12_isEdge 1 = .ok (.ifCond .lt 14, 3) := by decide +kernel
theorem dX12_isEdge_4 : decode cX12_isEdge 4 = .ok (.iload_n 0, 1) := by decide +kernel
theorem dX12_isEdge_5 : decode cX12_isEdge 5 = .ok (.ldc_w 288, 3) := by decide +kernel
theorem dX12_isEdge_8 : decode cX12_isEdge 8 = .ok (.if_icmp .gt 7, 3) := by decide +kernel
theorem dX12_isEdge_11 : decode cX12_isEdge 11 = .ok (.iconst 1, 1) := by decide +kernel
theorem dX12_isEdge_12 : decode cX12_isEdge 12 = .ok (.goto 4, 3) := by decide +kernel
theorem dX12_isEdge_15 : decode cX12_isEdge 15 = .ok (.iconst 0, 1) := by decide +kernel
theorem dX12_isEdge_16 : decode cX12_isEdge 16 = .ok (.ireturn, 1) := by decide +kernel
set_option maxRecDepth 20000 in
theorem ggX12_fragment_X12_isEdge : GoodIn wsX12_fragment wsX12_isEdge := goodIn_r _ [13, 14] (by decide +kernel) (by decide +kernel)
set_option maxRecDepth 20000 in
theorem gX12_fragment_X12_isEdge : GoodIn wsX12_fragment (va_wsS RX12 292 yX12_isEdge wsX12_isEdge) := goodIn_app (goodIn_of _ (by decide +kernel)) ggX12_fragment_X12_isEdge
theorem dX12_fragment_0 : decode cX12_fragment 0 = .ok (.aload_n 0, 1) := by decide +kernel
theorem dX12_fragment_1 : decode cX12_fragment 1 = .ok (.iconst 0, 1) := by decide +kernel
theorem dX12_fragment_2 : decode cX12_fragment 2 = .ok (.putfield 86, 3) := by decide +kernel
theorem dX12_fragment_5 : decode cX12_fragment 5 = .ok (.aload_n 0, 1) := by decide +kernel
theorem dX12_fragment_6 : decode cX12_fragment 6 = .ok (.getfield 90, 3) := by decide +kernel
theorem dX12_fragment_9 : decode cX12_fragment 9 = .ok (.istore_n 3, 1) := by decide +kernel
theorem dX12_fragment_10 : decode cX12_fragment 10 = .ok (.aload_n 0, 1) := by decide +kernel
theorem dX12_fragment_11 : decode cX12_fragment 11 = .ok (.iconst 0, 1) := by decide +kernel
theorem dX12_fragment_12 : decode cX12_fragment 12 = .ok (.putfield 90, 3) := by decide +kernel
theorem dX12_fragment_15 : decode cX12_fragment 15 = .ok (.aload_n 0, 1) := by decide +kernel
theorem dX12_fragment_16 : decode cX12_fragment 16 = .ok (.getfield 289, 3) := by decide +kernel
theorem dX12_fragment_19 : decode cX12_fragment 19 = .ok (.bipush 12, 2) := by decide +kernel
theorem dX12_fragment_21 : decode cX12_fragment 21 = .ok (.if_icmp .eq 24, 3) := by decide +kernel
theorem dX12_fragment_24 : decode cX12_fragment 24 = .ok (.iload_n 1, 1) := by decide +kernel
theorem dX12_fragment_25 : decode cX12_fragment 25 = .ok (.invokestatic 292, 3) := by decide +kernel
theorem dX12_fragment_28 : decode cX12_fragment 28 = .ok (.ifCond .eq 17, 3) := by decide +kernel
theorem dX12_fragment_31 : decode cX12_fragment 31 = .ok (.iload_n 2, 1) := by decide +kernel
theorem dX12_fragment_32 : decode cX12_fragment 32 = .ok (.invokestatic 292, 3) := by decide +kernel
theorem dX12_fragment_35 : decode cX12_fragment 35 = .ok (.ifCond .eq 10, 3) := by decide +kernel
theorem dX12_fragment_38 : decode cX12_fragment 38 = .ok (.iload_n 3, 1) := by decide +kernel
theorem dX12_fragment_39 : decode cX12_fragment 39 = .ok (.sipush 200, 3) := by decide +kernel
theorem dX12_fragment_42 : decode cX12_fragment 42 = .ok (.if_icmp .le 5, 3) := by decide +kernel
theorem dX12_fragment_45 : decode cX12_fragment 45 = .ok (.iconst (-1), 1) := by decide +kernel
theorem dX12_fragment_46 : decode cX12_fragment 46 = .ok (.ireturn, 1) := by decide +kernel
theorem dX12_fragment_47 : decode cX12_fragment 47 = .ok (.aload_n 0, 1) := by decide +kernel
theorem dX12_fragment_48 : decode cX12_fragment 48 = .ok (.getfield 289, 3) := by decide +kernel
theorem dX12_fragment_51 : decode cX12_fragment 51 = .ok (.istore 4, 2) := by decide +kernel
theorem dX12_fragment_53 : decode cX12_fragment 53 = .ok (.aload_n 0, 1) := by decide +kernel
theorem dX12_fragment_54 : decode cX12_fragment 54 = .ok (.getfield 74, 3) := by decide +kernel
theorem dX12_fragment_57 : decode cX12_fragment 57 = .ok (.iload 4, 2) := by decide +kernel
theorem dX12_fragment_59 : decode cX12_fragment 59 = .ok (.iconst 1, 1) := by decide +kernel
theorem dX12_fragment_60 : decode cX12_fragment 60 = .ok (.iastore, 1) := by decide +kernel
theorem dX12_fragment_61 : decode cX12_fragment 61 = .ok (.iconst 0, 1) := by decide +kernel
theorem dX12_fragment_62 : decode cX12_fragment 62 = .ok (.istore 5, 2) := by decide +kernel
theorem dX12_fragment_64 : decode cX12_fragment 64 = .ok (.iload 5, 2) := by decide +kernel
theorem dX12_fragment_66 : decode cX12_fragment 66 = .ok (.iload_n 3, 1) := by decide +kernel
theorem dX12_fragment_67 : decode cX12_fragment 67 = .ok (.if_icmp .ge 53, 3) := by decide +kernel
theorem dX12_fragment_70 : decode cX12_fragment 70 = .ok (.aload_n 0, 1) := by decide +kernel
theorem dX12_fragment_71 : decode cX12_fragment 71 = .ok (.getfield 62, 3) := by decide +kernel
theorem dX12_fragment_74 : decode cX12_fragment 74 = .ok (.sipush 200, 3) := by decide +kernel
theorem dX12_fragment_77 : decode cX12_fragment 77 = .ok (.iload 4, 2) := by decide +kernel
theorem dX12_fragment_79 : decode cX12_fragment 79 = .ok (.imul, 1) := by decide +kernel
theorem dX12_fragment_80 : decode cX12_fragment 80 = .ok (.iload 5, 2) := by decide +kernel
theorem dX12_fragment_82 : decode cX12_fragment 82 = .ok (.iadd, 1) := by decide +kernel
theorem dX12_fragment_83 : decode cX12_fragment 83 = .ok (.aload_n 0, 1) := by decide +kernel
theorem dX12_fragment_84 : decode cX12_fragment 84 = .ok (.getfield 7, 3) := by decide +kernel
theorem dX12_fragment_87 : decode cX12_fragment 87 = .ok (.iload 5, 2) := by decide +kernel
theorem dX12_fragment_89 : decode cX12_fragment 89 = .ok (.iaload, 1) := by decide +kernel
theorem dX12_fragment_90 : decode cX12_fragment 90 = .ok (.iastore, 1) := by decide +kernel
theorem dX12_fragment_91 : decode cX12_fragment 91 = .ok (.aload_n 0, 1) := by decide +kernel
theorem dX12_fragment_92 : decode cX12_fragment 92 = .ok (.getfield 7, 3) := by decide +kernel
theorem dX12_fragment_95 : decode cX12_fragment 95 = .ok (.iload 5, 2) := by decide +kernel
theorem dX12_fragment_97 : decode cX12_fragment 97 = .ok (.iaload, 1) := by decide +kernel
theorem dX12_fragment_98 : decode cX12_fragment 98 = .ok (.bipush 47, 2) := by decide +kernel
theorem dX12_fragment_100 : decode cX12_fragment 100 = .ok (.if_icmp .ne 14, 3) := by decide +kernel
theorem dX12_fragment_103 : decode cX12_fragment 103 = .ok (.aload_n 0, 1) := by decide +kernel
theorem dX12_fragment_104 : decode cX12_fragment 104 = .ok (.getfield 74, 3) := by decide +kernel
theorem dX12_fragment_107 : decode cX12_fragment 107 = .ok (.iload 4, 2) := by decide +kernel
theorem dX12_fragment_109 : decode cX12_fragment 109 = .ok (.dup2, 1) := by decide +kernel
theorem dX12_fragment_110 : decode cX12_fragment 110 = .ok (.iaload, 1) := by decide +kernel
theorem dX12_fragment_111 : decode cX12_fragment 111 = .ok (.iconst 1, 1) := by decide +kernel
theorem dX12_fragment_112 : decode cX12_fragment 112 = .ok (.iadd, 1) := by decide +kernel
theorem dX12_fragment_113 : decode cX12_fragment 113 = .ok (.iastore, 1) := by decide +kernel
theorem dX12_fragment_114 : decode cX12_fragment 114 = .ok (.iinc 5 1, 3) := by decide +kernel
theorem dX12_fragment_117 : decode cX12_fragment 117 = .ok (.goto (-53), 3) := by decide +kernel
theorem dX12_fragment_120 : decode cX12_fragment 120 = .ok (.aload_n 0, 1) := by decide +kernel
theorem dX12_fragment_121 : decode cX12_fragment 121 = .ok (.getfield 65, 3) := by decide +kernel
theorem dX12_fragment_124 : decode cX12_fragment 124 = .ok (.iload 4, 2) := by decide +kernel
theorem dX12_fragment_126 : decode cX12_fragment 126 = .ok (.iload_n 3, 1) := by decide +kernel
theorem dX12_fragment_127 : decode cX12_fragment 127 = .ok (.iastore, 1) := by decide +kernel
theorem dX12_fragment_128 : decode cX12_fragment 128 = .ok (.aload_n 0, 1) := by decide +kernel
theorem dX12_fragment_129 : decode cX12_fragment 129 = .ok (.getfield 68, 3) := by decide +kernel
theorem dX12_fragment_132 : decode cX12_fragment 132 = .ok (.iload 4, 2) := by decide +kernel
theorem dX12_fragment_134 : decode cX12_fragment 134 = .ok (.iload_n 1, 1) := by decide +kernel
theorem dX12_fragment_135 : decode cX12_fragment 135 = .ok (.iastore, 1) := by decide +kernel
theorem dX12_fragment_136 : decode cX12_fragment 136 = .ok (.aload_n 0, 1) := by decide +kernel
theorem dX12_fragment_137 : decode cX12_fragment 137 = .ok (.getfield 71, 3) := by decide +kernel
theorem dX12_fragment_140 : decode cX12_fragment 140 = .ok (.iload 4, 2) := by decide +kernel
theorem dX12_fragment_142 : decode cX12_fragment 142 = .ok (.iload_n 2, 1) := by decide +kernel
theorem dX12_fragment_143 : decode cX12_fragment 143 = .ok (.iastore, 1) := by decide +kernel
theorem dX12_fragment_144 : decode cX12_fragment 144 = .ok (.aload_n 0, 1) := by decide +kernel
theorem dX12_fragment_145 : decode cX12_fragment 145 = .ok (.dup, 1) := by decide +kernel
theorem dX12_fragment_146 : decode cX12_fragment 146 = .ok (.getfield 289, 3) := by decide +kernel
theorem dX12_fragment_149 : decode cX12_fragment 149 = .ok (.iconst 1, 1) := by decide +kernel
theorem dX12_fragment_150 : decode cX12_fragment 150 = .ok (.iadd, 1) := by decide +kernel
theorem dX12_fragment_151 : decode cX12_fragment 151 = .ok (.putfield 289, 3) := by decide +kernel
theorem dX12_fragment_154 : decode cX12_fragment 154 = .ok (.iload 4, 2) := by decide +kernel
theorem dX12_fragment_156 : decode cX12_fragment 156 = .ok (.ireturn, 1) := by decide +kernel
theorem dX12_isFragment_0 : decode cX12_isFragment 0 = .ok (.iload_n 1, 1) := by decide +kernel
theorem dX12_isFragment_1 : decode cX12_isFragment 1 = .ok (.ifCond .lt 15, 3) := by decide +kernel
theorem dX12_isFragment_4 : decode cX12_isFragment 4 = .ok (.iload_n 1, 1) := by decide +kernel
theorem dX12_isFragment_5 : decode cX12_isFragment 5 = .ok (.aload_n 0, 1) := by decide +kernel
theorem dX12_isFragment_6 : decode cX12_isFragment 6 = .ok (.getfield 289, 3) := by decide +kernel
theorem dX12_isFragment_9 : decode cX12_isFragment 9 = .ok (.if_icmp .ge 7, 3) := by decide +kernel
theorem dX12_isFragment_12 : decode cX12_isFragment 12 = .ok (.iconst 1, 1) := by decide +kernel
theorem dX12_isFragment_13 : decode cX12_isFragment 13 = .ok (.goto 4, 3) := by decide +kernel
theorem dX12_isFragment_16 : decode cX12_isFragment 16 = .ok (.iconst 0, 1) := by decide +kernel
theorem dX12_isFragment_17 : decode cX12_isFragment 17 = .ok (.ireturn, 1) := by decide +kernel
set_option maxRecDepth 20000 in
theorem ggX12_rows_X12_isFragment : GoodIn wsX12_rows wsX12_isFragment := goodIn_r _ [7, 8, 9, 10, 11, 12, 13, 14, 15, 16, 17, 18, 19, 20, 21, 22, 23, 24, 25, 26, 27, 28, 29, 30, 31, 32, 33, 34, 35, 36, 37, 38, 39, 40, 41, 42, 43, 44, 45, 46, 47, 48, 49, 50, 51, 52, 53, 54, 55, 56, 57, 58, 59] (by decide +kernel) (by decide +kernel)
set_option maxRecDepth 20000 in
theorem gX12_rows_X12_isFragment : GoodIn wsX12_rows (wsV RX12 295 RX12 yX12_isFragment wsX12_isFragment) := goodIn_app (goodIn_of _ (by decide +kernel)) ggX12_rows_X12_isFragment
theorem dX12_rows_0 : decode cX12_rows 0 = .ok (.aload_n 0, 1) := by decide +kernel
theorem dX12_rows_1 : decode cX12_rows 1 = .ok (.iconst 0, 1) := by decide +kernel
theorem dX12_rows_2 : decode cX12_rows 2 = .ok (.putfield 86, 3) := by decide +kernel
theorem dX12_rows_5 : decode cX12_rows 5 = .ok (.aload_n 0, 1) := by decide +kernel
theorem dX12_rows_6 : decode cX12_rows 6 = .ok (.iload_n 1, 1) := by decide +kernel
theorem dX12_rows_7 : decode cX12_rows 7 = .ok (.invokevirtual 295, 3) := by decide +kernel
theorem dX12_rows_10 : decode cX12_rows 10 = .ok (.ifCond .eq 12, 3) := by decide +kernel
theorem dX12_rows_13 : decode cX12_rows 13 = .ok (.aload_n 0, 1) := by decide +kernel
theorem dX12_rows_14 : decode cX12_rows 14 = .ok (.getfield 74, 3) := by decide +kernel
theorem dX12_rows_17 : decode cX12_rows 17 = .ok (.iload_n 1, 1) := by decide +kernel
theorem dX12_rows_18 : decode cX12_rows 18 = .ok (.iaload, 1) := by decide +kernel
theorem dX12_rows_19 : decode cX12_rows 19 = .ok (.goto 4, 3) := by decide +kernel
theorem dX12_rows_22 : decode cX12_rows 22 = .ok (.iconst (-1), 1) := by decide +kernel
theorem dX12_rows_23 : decode cX12_rows 23 = .ok (.ireturn, 1) := by decide +kernel
set_option maxRecDepth 20000 in
theorem ggX12_join_X12_isFragment : GoodIn wsX12_join wsX12_isFragment := goodIn_r _ [6, 7, 153, 154, 155, 156, 157, 158, 159, 160, 161, 162, 163, 164, 165, 166, 167, 168, 169, 170, 171, 172, 173, 174, 175, 176, 177, 178, 179, 180, 181, 182, 183, 184, 185, 186, 187, 188, 189, 190, 191, 192, 193, 194, 195, 196, 197, 198, 199, 200, 201, 202, 203] (by decide +kernel) (by decide +kernel)
set_option maxRecDepth 20000 in
theorem gX12_join_X12_isFragment : GoodIn wsX12_join (wsV RX12 295 RX12 yX12_isFragment wsX12_isFragment) := goodIn_app (goodIn_of _ (by decide +kernel)) ggX12_join_X12_isFragment
theorem dX12_join_0 : decode cX12_join 0 = .ok (.aload_n 0, 1) := by decide +kernel
theorem dX12_join_1 : decode cX12_join 1 = .ok (.iconst 0, 1) := by decide +kernel
theorem dX12_join_2 : decode cX12_join 2 = .ok (.putfield 86, 3) := by decide +kernel
theorem dX12_join_5 : decode cX12_join 5 = .ok (.aload_n 0, 1) := by decide +kernel
theorem dX12_join_6 : decode cX12_join 6 = .ok (.iload_n 1, 1) := by decide +kernel
theorem dX12_join_7 : decode cX12_join 7 = .ok (.invokevirtual 295, 3) := by decide +kernel
theorem dX12_join_10 : decode cX12_join 10 = .ok (.ifCond .eq 16, 3) := by decide +kernel
theorem dX12_join_13 : decode cX12_join 13 = .ok (.aload_n 0, 1) := by decide +kernel
theorem dX12_join_14 : decode cX12_join 14 = .ok (.iload_n 2, 1) := by decide +kernel
theorem dX12_join_15 : decode cX12_join 15 = .ok (.invokevirtual 295, 3) := by decide +kernel
theorem dX12_join_18 : decode cX12_join 18 = .ok (.ifCond .eq 8, 3) := by decide +kernel
theorem dX12_join_21 : decode cX12_join 21 = .ok (.iload_n 1, 1) := by decide +kernel
theorem dX12_join_22 : decode cX12_join 22 = .ok (.iload_n 2, 1) := by decide +kernel
theorem dX12_join_23 : decode cX12_join 23 = .ok (.if_icmp .ne 7, 3) := by decide +kernel
theorem dX12_join_26 : decode cX12_join 26 = .ok (.iconst (-1), 1) := by decide +kernel
theorem dX12_join_27 : decode cX12_join 27 = .ok (.goto 9, 3) := by decide +kernel
theorem dX12_join_30 : decode cX12_join 30 = .ok (.aload_n 0, 1) := by decide +kernel
theorem dX12_join_31 : decode cX12_join 31 = .ok (.iload_n 1, 1) := by decide +kernel
theorem dX12_join_32 : decode cX12_join 32 = .ok (.iload_n 2, 1) := by decide +kernel
theorem dX12_join_33 : decode cX12_join 33 = .ok (.invokevirtual 304, 3) := by decide +kernel
theorem dX12_join_36 : decode cX12_join 36 = .ok (.ireturn, 1) := by decide +kernel
theorem dX12_match_0 : decode cX12_match 0 = .ok (.aload_n 0, 1) := by decide +kernel
theorem dX12_match_1 : decode cX12_match 1 = .ok (.iconst 0, 1) := by decide +kernel
theorem dX12_match_2 : decode cX12_match 2 = .ok (.putfield 86, 3) := by decide +kernel
theorem dX12_match_5 : decode cX12_match 5 = .ok (.aload_n 0, 1) := by decide +kernel
theorem dX12_match_6 : decode cX12_match 6 = .ok (.getfield 289, 3) := by decide +kernel
theorem dX12_match_9 : decode cX12_match 9 = .ok (.istore_n 1, 1) := by decide +kernel
theorem dX12_match_10 : decode cX12_match 10 = .ok (.iconst 0, 1) := by decide +kernel
theorem dX12_match_11 : decode cX12_match 11 = .ok (.istore_n 2, 1) := by decide +kernel
theorem dX12_match_12 : decode cX12_match 12 = .ok (.iload_n 2, 1) := by decide +kernel
theorem dX12_match_13 : decode cX12_match 13 = .ok (.iload_n 1, 1) := by decide +kernel
theorem dX12_match_14 : decode cX12_match 14 = .ok (.if_icmp .ge 80, 3) := by decide +kernel
theorem dX12_match_17 : decode cX12_match 17 = .ok (.iload_n 2, 1) := by decide +kernel
theorem dX12_match_18 : decode cX12_match 18 = .ok (.iconst 1, 1) := by decide +kernel
theorem dX12_match_19 : decode cX12_match 19 = .ok (.iadd, 1) := by decide +kernel
theorem dX12_match_20 : decode cX12_match 20 = .ok (.istore_n 3, 1) := by decide +kernel
theorem dX12_match_21 : decode cX12_match 21 = .ok (.iload_n 3, 1) := by decide +kernel
theorem dX12_match_22 : decode cX12_match 22 = .ok (.iload_n 1, 1) := by decide +kernel
theorem dX12_match_23 : decode cX12_match 23 = .ok (.if_icmp .ge 65, 3) := by decide +kernel
theorem dX12_match_26 : decode cX12_match 26 = .ok (.aload_n 0, 1) := by decide +kernel
theorem dX12_match_27 : decode cX12_match 27 = .ok (.iload_n 2, 1) := by decide +kernel
theorem dX12_match_28 : decode cX12_match 28 = .ok (.iload_n 3, 1) := by decide +kernel
theorem dX12_match_29 : decode cX12_match 29 = .ok (.invokevirtual 304, 3) := by decide +kernel
theorem dX12_match_32 : decode cX12_match 32 = .ok (.istore 4, 2) := by decide +kernel
theorem dX12_match_34 : decode cX12_match 34 = .ok (.aload_n 0, 1) := by decide +kernel
theorem dX12_match_35 : decode cX12_match 35 = .ok (.iload_n 3, 1) := by decide +kernel
theorem dX12_match_36 : decode cX12_match 36 = .ok (.iload_n 2, 1) := by decide +kernel
theorem dX12_match_37 : decode cX12_match 37 = .ok (.invokevirtual 304, 3) := by decide +kernel
theorem dX12_match_40 : decode cX12_match 40 = .ok (.istore 5, 2) := by decide +kernel
theorem dX12_match_42 : decode cX12_match 42 = .ok (.iload 4, 2) := by decide +kernel
theorem dX12_match_44 : decode cX12_match 44 = .ok (.iload 5, 2) := by decide +kernel
theorem dX12_match_46 : decode cX12_match 46 = .ok (.if_icmp .le 8, 3) := by decide +kernel
theorem dX12_match_49 : decode cX12_match 49 = .ok (.iload 4, 2) := by decide +kernel
theorem dX12_match_51 : decode cX12_match 51 = .ok (.goto 5, 3) := by decide +kernel
theorem dX12_match_54 : decode cX12_match 54 = .ok (.iload 5, 2) := by decide +kernel
theorem dX12_match_56 : decode cX12_match 56 = .ok (.istore 6, 2) := by decide +kernel
theorem dX12_match_58 : decode cX12_match 58 = .ok (.aload_n 0, 1) := by decide +kernel
theorem dX12_match_59 : decode cX12_match 59 = .ok (.getfield 77, 3) := by decide +kernel
theorem dX12_match_62 : decode cX12_match 62 = .ok (.bipush 12, 2) := by decide +kernel
theorem dX12_match_64 : decode cX12_match 64 = .ok (.iload_n 2, 1) := by decide +kernel
theorem dX12_match_65 : decode cX12_match 65 = .ok (.imul, 1) := by decide +kernel
theorem dX12_match_66 : decode cX12_match 66 = .ok (.iload_n 3, 1) := by decide +kernel
theorem dX12_match_67 : decode cX12_match 67 = .ok (.iadd, 1) := by decide +kernel
theorem dX12_match_68 : decode cX12_match 68 = .ok (.iload 6, 2) := by decide +kernel
theorem dX12_match_70 : decode cX12_match 70 = .ok (.iconst 2, 1) := by decide +kernel
theorem dX12_match_71 : decode cX12_match 71 = .ok (.if_icmp .ne 8, 3) := by decide +kernel
theorem dX12_match_74 : decode cX12_match 74 = .ok (.bipush 101, 2) := by decide +kernel
theorem dX12_match_76 : decode cX12_match 76 = .ok (.goto 5, 3) := by decide +kernel
theorem dX12_match_79 : decode cX12_match 79 = .ok (.iload 6, 2) := by decide +kernel
theorem dX12_match_81 : decode cX12_match 81 = .ok (.iastore, 1) := by decide +kernel
theorem dX12_match_82 : decode cX12_match 82 = .ok (.iinc 3 1, 3) := by decide +kernel
theorem dX12_match_85 : decode cX12_match 85 = .ok (.goto (-64), 3) := by decide +kernel
theorem dX12_match_88 : decode cX12_match 88 = .ok (.iinc 2 1, 3) := by decide +kernel
theorem dX12_match_91 : decode cX12_match 91 = .ok (.goto (-79), 3) := by decide +kernel
theorem dX12_match_94 : decode cX12_match 94 = .ok (.aload_n 0, 1) := by decide +kernel
theorem dX12_match_95 : decode cX12_match 95 = .ok (.getfield 80, 3) := by decide +kernel
theorem dX12_match_98 : decode cX12_match 98 = .ok (.iconst 0, 1) := by decide +kernel
theorem dX12_match_99 : decode cX12_match 99 = .ok (.iconst 0, 1) := by decide +kernel
theorem dX12_match_100 : decode cX12_match 100 = .ok (.iastore, 1) := by decide +kernel
theorem dX12_match_101 : decode cX12_match 101 = .ok (.iconst 1, 1) := by decide +kernel
theorem dX12_match_102 : decode cX12_match 102 = .ok (.istore_n 2, 1) := by decide +kernel
theorem dX12_match_103 : decode cX12_match 103 = .ok (.iload_n 2, 1) := by decide +kernel
theorem dX12_match_104 : decode cX12_match 104 = .ok (.iconst 1, 1) := by decide +kernel
theorem dX12_match_105 : decode cX12_match 105 = .ok (.iload_n 1, 1) := by decide +kernel
theorem dX12_match_106 : decode cX12_match 106 = .ok (.ishl, 1) := by decide +kernel
theorem dX12_match_107 : decode cX12_match 107 = .ok (.if_icmp .ge 129, 3) := by decide +kernel
theorem dX12_match_110 : decode cX12_match 110 = .ok (.iload_n 2, 1) := by decide +kernel
theorem dX12_match_111 : decode cX12_match 111 = .ok (.invokestatic 313, 3) := by decide +kernel
theorem dX12_match_114 : decode cX12_match 114 = .ok (.istore_n 3, 1) := by decide +kernel
theorem dX12_match_115 : decode cX12_match 115 = .ok (.iload_n 2, 1) := by decide +kernel
theorem dX12_match_116 : decode cX12_match 116 = .ok (.iconst 1, 1) := by decide +kernel
theorem dX12_match_117 : decode cX12_match 117 = .ok (.iload_n 3, 1) := by decide +kernel
theorem dX12_match_118 : decode cX12_match 118 = .ok (.ishl, 1) := by decide +kernel
theorem dX12_match_119 : decode cX12_match 119 = .ok (.iconst (-1), 1) := by decide +kernel
theorem dX12_match_120 : decode cX12_match 120 = .ok (.ixor, 1) := by decide +kernel
theorem dX12_match_121 : decode cX12_match 121 = .ok (.iand, 1) := by decide +kernel
theorem dX12_match_122 : decode cX12_match 122 = .ok (.istore 4, 2) := by decide +kernel
theorem dX12_match_124 : decode cX12_match 124 = .ok (.aload_n 0, 1) := by decide +kernel
theorem dX12_match_125 : decode cX12_match 125 = .ok (.getfield 80, 3) := by decide +kernel
theorem dX12_match_128 : decode cX12_match 128 = .ok (.iload_n 2, 1) := by decide +kernel
theorem dX12_match_129 : decode cX12_match 129 = .ok (.aload_n 0, 1) := by decide +kernel
theorem dX12_match_130 : decode cX12_match 130 = .ok (.getfield 80, 3) := by decide +kernel
theorem dX12_match_133 : decode cX12_match 133 = .ok (.iload 4, 2) := by decide +kernel
theorem dX12_match_135 : decode cX12_match 135 = .ok (.iaload, 1) := by decide +kernel
theorem dX12_match_136 : decode cX12_match 136 = .ok (.iastore, 1) := by decide +kernel
theorem dX12_match_137 : decode cX12_match 137 = .ok (.iload_n 3, 1) := by decide +kernel
theorem dX12_match_138 : decode cX12_match 138 = .ok (.iconst 1, 1) := by decide +kernel
theorem dX12_match_139 : decode cX12_match 139 = .ok (.iadd, 1) := by decide +kernel
theorem dX12_match_140 : decode cX12_match 140 = .ok (.istore 5, 2) := by decide +kernel
theorem dX12_match_142 : decode cX12_match 142 = .ok (.iload 5, 2) := by decide +kernel
theorem dX12_match_144 : decode cX12_match 144 = .ok (.iload_n 1, 1) := by decide +kernel
theorem dX12_match_145 : decode cX12_match 145 = .ok (.if_icmp .ge 85, 3) := by decide +kernel
theorem dX12_match_148 : decode cX12_match 148 = .ok (.iload 4, 2) := by decide +kernel
theorem dX12_match_150 : decode cX12_match 150 = .ok (.iload 5, 2) := by decide +kernel
theorem dX12_match_152 : decode cX12_match 152 = .ok (.ishr, 1) := by decide +kernel
theorem dX12_match_153 : decode cX12_match 153 = .ok (.iconst 1, 1) := by decide +kernel
theorem dX12_match_154 : decode cX12_match 154 = .ok (.iand, 1) := by decide +kernel
theorem dX12_match_155 : decode cX12_match 155 = .ok (.ifCond .eq 69, 3) := by decide +kernel
theorem dX12_match_158 : decode cX12_match 158 = .ok (.aload_n 0, 1) := by decide +kernel
theorem dX12_match_159 : decode cX12_match 159 = .ok (.getfield 77, 3) := by decide +kernel
theorem dX12_match_162 : decode cX12_match 162 = .ok (.bipush 12, 2) := by decide +kernel
theorem dX12_match_164 : decode cX12_match 164 = .ok (.iload_n 3, 1) := by decide +kernel
theorem dX12_match_165 : decode cX12_match 165 = .ok (.imul, 1) := by decide +kernel
theorem dX12_match_166 : decode cX12_match 166 = .ok (.iload 5, 2) := by decide +kernel
theorem dX12_match_168 : decode cX12_match 168 = .ok (.iadd, 1) := by decide +kernel
theorem dX12_match_169 : decode cX12_match 169 = .ok (.iaload, 1) := by decide +kernel
theorem dX12_match_170 : decode cX12_match 170 = .ok (.ifCond .ne 6, 3) := by decide +kernel
theorem dX12_match_173 : decode cX12_match 173 = .ok (.goto 51, 3) := by decide +kernel
theorem dX12_match_176 : decode cX12_match 176 = .ok (.aload_n 0, 1) := by decide +kernel
theorem dX12_match_177 : decode cX12_match 177 = .ok (.getfield 77, 3) := by decide +kernel
theorem dX12_match_180 : decode cX12_match 180 = .ok (.bipush 12, 2) := by decide +kernel
theorem dX12_match_182 : decode cX12_match 182 = .ok (.iload_n 3, 1) := by decide +kernel
theorem dX12_match_183 : decode cX12_match 183 = .ok (.imul, 1) := by decide +kernel
theorem dX12_match_184 : decode cX12_match 184 = .ok (.iload 5, 2) := by decide +kernel
theorem dX12_match_186 : decode cX12_match 186 = .ok (.iadd, 1) := by decide +kernel
theorem dX12_match_187 : decode cX12_match 187 = .ok (.iaload, 1) := by decide +kernel
theorem dX12_match_188 : decode cX12_match 188 = .ok (.aload_n 0, 1) := by decide +kernel
theorem dX12_match_189 : decode cX12_match 189 = .ok (.getfield 80, 3) := by decide +kernel
theorem dX12_match_192 : decode cX12_match 192 = .ok (.iload 4, 2) := by decide +kernel
theorem dX12_match_194 : decode cX12_match 194 = .ok (.iconst 1, 1) := by decide +kernel
theorem dX12_match_195 : decode cX12_match 195 = .ok (.iload 5, 2) := by decide +kernel
theorem dX12_match_197 : decode cX12_match 197 = .ok (.ishl, 1) := by decide +kernel
theorem dX12_match_198 : decode cX12_match 198 = .ok (.iconst (-1), 1) := by decide +kernel
theorem dX12_match_199 : decode cX12_match 199 = .ok (.ixor, 1) := by decide +kernel
theorem dX12_match_200 : decode cX12_match 200 = .ok (.iand, 1) := by decide +kernel
theorem dX12_match_201 : decode cX12_match 201 = .ok (.iaload, 1) := by decide +kernel
theorem dX12_match_202 : decode cX12_match 202 = .ok (.iadd, 1) := by decide +kernel
theorem dX12_match_203 : decode cX12_match 203 = .ok (.istore 6, 2) := by decide +kernel
theorem dX12_match_205 : decode cX12_match 205 = .ok (.iload 6, 2) := by decide +kernel
theorem dX12_match_207 : decode cX12_match 207 = .ok (.aload_n 0, 1) := by decide +kernel
theorem dX12_match_208 : decode cX12_match 208 = .ok (.getfield 80, 3) := by decide +kernel
theorem dX12_match_211 : decode cX12_match 211 = .ok (.iload_n 2, 1) := by decide +kernel
theorem dX12_match_212 : decode cX12_match 212 = .ok (.iaload, 1) := by decide +kernel
theorem dX12_match_213 : decode cX12_match 213 = .ok (.if_icmp .le 11, 3) := by decide +kernel
theorem dX12_match_216 : decode cX12_match 216 = .ok (.aload_n 0, 1) := by decide +kernel
theorem dX12_match_217 : decode cX12_match 217 = .ok (.getfield 80, 3) := by decide +kernel
theorem dX12_match_220 : decode cX12_match 220 = .ok (.iload_n 2, 1) := by decide +kernel
theorem dX12_match_221 : decode cX12_match 221 = .ok (.iload 6, 2) := by decide +kernel
theorem dX12_match_223 : decode cX12_match 223 = .ok (.iastore, 1) := by decide +kernel
theorem dX12_match_224 : decode cX12_match 224 = .ok (.iinc 5 1, 3) := by decide +kernel
theorem dX12_match_227 : decode cX12_match 227 = .ok (.goto (-85), 3) := by decide +kernel
theorem dX12_match_230 : decode cX12_match 230 = .ok (.iinc 2 1, 3) := by decide +kernel
theorem dX12_match_233 : decode cX12_match 233 = .ok (.goto (-130), 3) := by decide +kernel
theorem dX12_match_236 : decode cX12_match 236 = .ok (.aload_n 0, 1) := by decide +kernel
theorem dX12_match_237 : decode cX12_match 237 = .ok (.iconst 1, 1) := by decide +kernel
theorem dX12_match_238 : decode cX12_match 238 = .ok (.putfield 307, 3) := by decide +kernel
theorem dX12_match_241 : decode cX12_match 241 = .ok (.aload_n 0, 1) := by decide +kernel
theorem dX12_match_242 : decode cX12_match 242 = .ok (.iconst 0, 1) := by decide +kernel
theorem dX12_match_243 : decode cX12_match 243 = .ok (.putfield 310, 3) := by decide +kernel
theorem dX12_match_246 : decode cX12_match 246 = .ok (.iconst 0, 1) := by decide +kernel
theorem dX12_match_247 : decode cX12_match 247 = .ok (.istore_n 2, 1) := by decide +kernel
theorem dX12_match_248 : decode cX12_match 248 = .ok (.iconst 0, 1) := by decide +kernel
theorem dX12_match_249 : decode cX12_match 249 = .ok (.istore_n 3, 1) := by decide +kernel
theorem dX12_match_250 : decode cX12_match 250 = .ok (.iload_n 3, 1) := by decide +kernel
theorem dX12_match_251 : decode cX12_match 251 = .ok (.bipush 12, 2) := by decide +kernel
theorem dX12_match_253 : decode cX12_match 253 = .ok (.if_icmp .ge 16, 3) := by decide +kernel
theorem dX12_match_256 : decode cX12_match 256 = .ok (.aload_n 0, 1) := by decide +kernel
theorem dX12_match_257 : decode cX12_match 257 = .ok (.getfield 83, 3) := by decide +kernel
theorem dX12_match_260 : decode cX12_match 260 = .ok (.iload_n 3, 1) := by decide +kernel
theorem dX12_match_261 : decode cX12_match 261 = .ok (.iconst (-1), 1) := by decide +kernel
theorem dX12_match_262 : decode cX12_match 262 = .ok (.iastore, 1) := by decide +kernel
theorem dX12_match_263 : decode cX12_match 263 = .ok (.iinc 3 1, 3) := by decide +kernel
theorem dX12_match_266 : decode cX12_match 266 = .ok (.goto (-16), 3) := by decide +kernel
theorem dX12_match_269 : decode cX12_match 269 = .ok (.iconst 1, 1) := by decide +kernel
theorem dX12_match_270 : decode cX12_match 270 = .ok (.iload_n 1, 1) := by decide +kernel
theorem dX12_match_271 : decode cX12_match 271 = .ok (.ishl, 1) := by decide +kernel
theorem dX12_match_272 : decode cX12_match 272 = .ok (.iconst 1, 1) := by decide +kernel
theorem dX12_match_273 : decode cX12_match 273 = .ok (.isub, 1) := by decide +kernel
theorem dX12_match_274 : decode cX12_match 274 = .ok (.istore_n 3, 1) := by decide +kernel
theorem dX12_match_275 : decode cX12_match 275 = .ok (.iload_n 3, 1) := by decide +kernel
theorem dX12_match_276 : decode cX12_match 276 = .ok (.ifCond .eq 193, 3) := by decide +kernel
theorem dX12_match_279 : decode cX12_match 279 = .ok (.iload_n 3, 1) := by decide +kernel
theorem dX12_match_280 : decode cX12_match 280 = .ok (.invokestatic 313, 3) := by decide +kernel
theorem dX12_match_283 : decode cX12_match 283 = .ok (.istore 4, 2) := by decide +kernel
theorem dX12_match_285 : decode cX12_match 285 = .ok (.iload_n 3, 1) := by decide +kernel
theorem dX12_match_286 : decode cX12_match 286 = .ok (.iconst 1, 1) := by decide +kernel
theorem dX12_match_287 : decode cX12_match 287 = .ok (.iload 4, 2) := by decide +kernel
theorem dX12_match_289 : decode cX12_match 289 = .ok (.ishl, 1) := by decide +kernel
theorem dX12_match_290 : decode cX12_match 290 = .ok (.iconst (-1), 1) := by decide +kernel
theorem dX12_match_291 : decode cX12_match 291 = .ok (.ixor, 1) := by decide +kernel
theorem dX12_match_292 : decode cX12_match 292 = .ok (.iand, 1) := by decide +kernel
theorem dX12_match_293 : decode cX12_match 293 = .ok (.istore_n 3, 1) := by decide +kernel
theorem dX12_match_294 : decode cX12_match 294 = .ok (.iload 4, 2) := by decide +kernel
theorem dX12_match_296 : decode cX12_match 296 = .ok (.iconst 1, 1) := by decide +kernel
theorem dX12_match_297 : decode cX12_match 297 = .ok (.iadd, 1) := by decide +kernel
theorem dX12_match_298 : decode cX12_match 298 = .ok (.istore 5, 2) := by decide +kernel
theorem dX12_match_300 : decode cX12_match 300 = .ok (.iload 5, 2) := by decide +kernel
theorem dX12_match_302 : decode cX12_match 302 = .ok (.iload_n 1, 1) := by decide +kernel
theorem dX12_match_303 : decode cX12_match 303 = .ok (.if_icmp .ge 138, 3) := by decide +kernel
theorem dX12_match_306 : decode cX12_match 306 = .ok (.aload_n 0, 1) := by decide +kernel
theorem dX12_match_307 : decode cX12_match 307 = .ok (.getfield 83, 3) := by decide +kernel
theorem dX12_match_310 : decode cX12_match 310 = .ok (.iload 4, 2) := by decide +kernel
theorem dX12_match_312 : decode cX12_match 312 = .ok (.iaload, 1) := by decide +kernel
theorem dX12_match_313 : decode cX12_match 313 = .ok (.iconst (-1), 1) := by decide +kernel
theorem dX12_match_314 : decode cX12_match 314 = .ok (.if_icmp .ne 127, 3) := by decide +kernel
theorem dX12_match_317 : decode cX12_match 317 = .ok (.iload_n 3, 1) := by decide +kernel
theorem dX12_match_318 : decode cX12_match 318 = .ok (.iload 5, 2) := by decide +kernel
theorem dX12_match_320 : decode cX12_match 320 = .ok (.ishr, 1) := by decide +kernel
theorem dX12_match_321 : decode cX12_match 321 = .ok (.iconst 1, 1) := by decide +kernel
theorem dX12_match_322 : decode cX12_match 322 = .ok (.iand, 1) := by decide +kernel
theorem dX12_match_323 : decode cX12_match 323 = .ok (.ifCond .eq 112, 3) := by decide +kernel
theorem dX12_match_326 : decode cX12_match 326 = .ok (.aload_n 0, 1) := by decide +kernel
theorem dX12_match_327 : decode cX12_match 327 = .ok (.getfield 77, 3) := by decide +kernel
theorem dX12_match_330 : decode cX12_match 330 = .ok (.bipush 12, 2) := by decide +kernel
theorem dX12_match_332 : decode cX12_match 332 = .ok (.iload 4, 2) := by decide +kernel
theorem dX12_match_334 : decode cX12_match 334 = .ok (.imul, 1) := by decide +kernel
theorem dX12_match_335 : decode cX12_match 335 = .ok (.iload 5, 2) := by decide +kernel
theorem dX12_match_337 : decode cX12_match 337 = .ok (.iadd, 1) := by decide +kernel
theorem dX12_match_338 : decode cX12_match 338 = .ok (.iaload, 1) := by decide +kernel
theorem dX12_match_339 : decode cX12_match 339 = .ok (.ifCond .eq 96, 3) := by decide +kernel
theorem dX12_match_342 : decode cX12_match 342 = .ok (.aload_n 0, 1) := by decide +kernel
theorem dX12_match_343 : decode cX12_match 343 = .ok (.getfield 77, 3) := by decide +kernel
theorem dX12_match_346 : decode cX12_match 346 = .ok (.bipush 12, 2) := by decide +kernel
theorem dX12_match_348 : decode cX12_match 348 = .ok (.iload 4, 2) := by decide +kernel
theorem dX12_match_350 : decode cX12_match 350 = .ok (.imul, 1) := by decide +kernel
theorem dX12_match_351 : decode cX12_match 351 = .ok (.iload 5, 2) := by decide +kernel
theorem dX12_match_353 : decode cX12_match 353 = .ok (.iadd, 1) := by decide +kernel
theorem dX12_match_354 : decode cX12_match 354 = .ok (.iaload, 1) := by decide +kernel
theorem dX12_match_355 : decode cX12_match 355 = .ok (.aload_n 0, 1) := by decide +kernel
theorem dX12_match_356 : decode cX12_match 356 = .ok (.getfield 80, 3) := by decide +kernel
theorem dX12_match_359 : decode cX12_match 359 = .ok (.iload_n 3, 1) := by decide +kernel
theorem dX12_match_360 : decode cX12_match 360 = .ok (.iconst 1, 1) := by decide +kernel
theorem dX12_match_361 : decode cX12_match 361 = .ok (.iload 5, 2) := by decide +kernel
theorem dX12_match_363 : decode cX12_match 363 = .ok (.ishl, 1) := by decide +kernel
theorem dX12_match_364 : decode cX12_match 364 = .ok (.iconst (-1), 1) := by decide +kernel
theorem dX12_match_365 : decode cX12_match 365 = .ok (.ixor, 1) := by decide +kernel
theorem dX12_match_366 : decode cX12_match 366 = .ok (.iand, 1) := by decide +kernel
theorem dX12_match_367 : decode cX12_match 367 = .ok (.iaload, 1) := by decide +kernel
theorem dX12_match_368 : decode cX12_match 368 = .ok (.iadd, 1) := by decide +kernel
theorem dX12_match_369 : decode cX12_match 369 = .ok (.aload_n 0, 1) := by decide +kernel
theorem dX12_match_370 : decode cX12_match 370 = .ok (.getfield 80, 3) := by decide +kernel
theorem dX12_match_373 : decode cX12_match 373 = .ok (.iload_n 3, 1) := by decide +kernel
theorem dX12_match_374 : decode cX12_match 374 = .ok (.iconst 1, 1) := by decide +kernel
theorem dX12_match_375 : decode cX12_match 375 = .ok (.iload 4, 2) := by decide +kernel
theorem dX12_match_377 : decode cX12_match 377 = .ok (.ishl, 1) := by decide +kernel
theorem dX12_match_378 : decode cX12_match 378 = .ok (.ior, 1) := by decide +kernel
theorem dX12_match_379 : decode cX12_match 379 = .ok (.iaload, 1) := by decide +kernel
theorem dX12_match_380 : decode cX12_match 380 = .ok (.if_icmp .eq 6, 3) := by decide +kernel
theorem dX12_match_383 : decode cX12_match 383 = .ok (.goto 52, 3) := by decide +kernel
theorem dX12_match_386 : decode cX12_match 386 = .ok (.aload_n 0, 1) := by decide +kernel
theorem dX12_match_387 : decode cX12_match 387 = .ok (.getfield 83, 3) := by decide +kernel
theorem dX12_match_390 : decode cX12_match 390 = .ok (.iload 4, 2) := by decide +kernel
theorem dX12_match_392 : decode cX12_match 392 = .ok (.iload 5, 2) := by decide +kernel
theorem dX12_match_394 : decode cX12_match 394 = .ok (.iastore, 1) := by decide +kernel
theorem dX12_match_395 : decode cX12_match 395 = .ok (.aload_n 0, 1) := by decide +kernel
theorem dX12_match_396 : decode cX12_match 396 = .ok (.getfield 83, 3) := by decide +kernel
theorem dX12_match_399 : decode cX12_match 399 = .ok (.iload 5, 2) := by decide +kernel
theorem dX12_match_401 : decode cX12_match 401 = .ok (.iload 4, 2) := by decide +kernel
theorem dX12_match_403 : decode cX12_match 403 = .ok (.iastore, 1) := by decide +kernel
theorem dX12_match_404 : decode cX12_match 404 = .ok (.iinc 2 1, 3) := by decide +kernel
theorem dX12_match_407 : decode cX12_match 407 = .ok (.aload_n 0, 1) := by decide +kernel
theorem dX12_match_408 : decode cX12_match 408 = .ok (.getfield 77, 3) := by decide +kernel
theorem dX12_match_411 : decode cX12_match 411 = .ok (.bipush 12, 2) := by decide +kernel
theorem dX12_match_413 : decode cX12_match 413 = .ok (.iload 4, 2) := by decide +kernel
theorem dX12_match_415 : decode cX12_match 415 = .ok (.imul, 1) := by decide +kernel
theorem dX12_match_416 : decode cX12_match 416 = .ok (.iload 5, 2) := by decide +kernel
theorem dX12_match_418 : decode cX12_match 418 = .ok (.iadd, 1) := by decide +kernel
theorem dX12_match_419 : decode cX12_match 419 = .ok (.iaload, 1) := by decide +kernel
theorem dX12_match_420 : decode cX12_match 420 = .ok (.bipush 101, 2) := by decide +kernel
theorem dX12_match_422 : decode cX12_match 422 = .ok (.if_icmp .ne 13, 3) := by decide +kernel
theorem dX12_match_425 : decode cX12_match 425 = .ok (.aload_n 0, 1) := by decide +kernel
theorem dX12_match_426 : decode cX12_match 426 = .ok (.dup, 1) := by decide +kernel
theorem dX12_match_427 : decode cX12_match 427 = .ok (.getfield 310, 3) := by decide +kernel
theorem dX12_match_430 : decode cX12_match 430 = .ok (.iconst 1, 1) := by decide +kernel
theorem dX12_match_431 : decode cX12_match 431 = .ok (.iadd, 1) := by decide +kernel
theorem dX12_match_432 : decode cX12_match 432 = .ok (.putfield 310, 3) := by decide +kernel
theorem dX12_match_435 : decode cX12_match 435 = .ok (.iinc 5 1, 3) := by decide +kernel
theorem dX12_match_438 : decode cX12_match 438 = .ok (.goto (-138), 3) := by decide +kernel
theorem dX12_match_441 : decode cX12_match 441 = .ok (.aload_n 0, 1) := by decide +kernel
theorem dX12_match_442 : decode cX12_match 442 = .ok (.getfield 83, 3) := by decide +kernel
theorem dX12_match_445 : decode cX12_match 445 = .ok (.iload 4, 2) := by decide +kernel
theorem dX12_match_447 : decode cX12_match 447 = .ok (.iaload, 1) := by decide +kernel
theorem dX12_match_448 : decode cX12_match 448 = .ok (.iconst (-1), 1) := by decide +kernel
theorem dX12_match_449 : decode cX12_match 449 = .ok (.if_icmp .eq 17, 3) := by decide +kernel
theorem dX12_match_452 : decode cX12_match 452 = .ok (.iload_n 3, 1) := by decide +kernel
theorem dX12_match_453 : decode cX12_match 453 = .ok (.iconst 1, 1) := by decide +kernel
theorem dX12_match_454 : decode cX12_match 454 = .ok (.aload_n 0, 1) := by decide +kernel
theorem dX12_match_455 : decode cX12_match 455 = .ok (.getfield 83, 3) := by decide +kernel
theorem dX12_match_458 : decode cX12_match 458 = .ok (.iload 4, 2) := by decide +kernel
theorem dX12_match_460 : decode cX12_match 460 = .ok (.iaload, 1) := by decide +kernel
theorem dX12_match_461 : decode cX12_match 461 = .ok (.ishl, 1) := by decide +kernel
theorem dX12_match_462 : decode cX12_match 462 = .ok (.iconst (-1), 1) := by decide +kernel
theorem dX12_match_463 : decode cX12_match 463 = .ok (.ixor, 1) := by decide +kernel
theorem dX12_match_464 : decode cX12_match 464 = .ok (.iand, 1) := by decide +kernel
theorem dX12_match_465 : decode cX12_match 465 = .ok (.istore_n 3, 1) := by decide +kernel
theorem dX12_match_466 : decode cX12_match 466 = .ok (.goto (-191), 3) := by decide +kernel
theorem dX12_match_469 : decode cX12_match 469 = .ok (.iload_n 2, 1) := by decide +kernel
theorem dX12_match_470 : decode cX12_match 470 = .ok (.ireturn, 1) := by decide +kernel
set_option maxRecDepth 20000 in
theorem ggX12_matched_X12_isFragment : GoodIn wsX12_matched wsX12_isFragment := goodIn_r _ [8, 9, 10, 11, 12, 13, 14, 15, 16, 17, 18, 19, 20, 21, 22, 23, 24, 25, 26, 27, 28, 29, 30, 31, 32, 33, 34, 35, 36, 37, 38, 39, 40, 41, 42, 43, 44, 45, 46, 47, 48, 49, 50, 51, 52, 53, 54, 55, 56, 57, 58, 59, 60] (by decide +kernel) (by decide +kernel)
set_option maxRecDepth 20000 in
theorem gX12_matched_X12_isFragment : GoodIn wsX12_matched (wsV RX12 295 RX12 yX12_isFragment wsX12_isFragment) := goodIn_app (goodIn_of _ (by decide +kernel)) ggX12_matched_X12_isFragment
theorem dX12_matched_0 : decode cX12_matched 0 = .ok (.aload_n 0, 1) := by decide +kernel
theorem dX12_matched_1 : decode cX12_matched 1 = .ok (.iconst 0, 1) := by decide +kernel
theorem dX12_matched_2 : decode cX12_matched 2 = .ok (.putfield 86, 3) := by decide +kernel
theorem dX12_matched_5 : decode cX12_matched 5 = .ok (.aload_n 0, 1) := by decide +kernel
theorem dX12_matched_6 : decode cX12_matched 6 = .ok (.getfield 307, 3) := by decide +kernel
theorem dX12_matched_9 : decode cX12_matched 9 = .ok (.ifCond .eq 20, 3) := by decide +kernel
theorem dX12_matched_12 : decode cX12_matched 12 = .ok (.aload_n 0, 1) := by decide +kernel
theorem dX12_matched_13 : decode cX12_matched 13 = .ok (.iload_n 1, 1) := by decide +kernel
theorem dX12_matched_14 : decode cX12_matched 14 = .ok (.invokevirtual 295, 3) := by decide +kernel
theorem dX12_matched_17 : decode cX12_matched 17 = .ok (.ifCond .eq 12, 3) := by decide +kernel
theorem dX12_matched_20 : decode cX12_matched 20 = .ok (.aload_n 0, 1) := by decide +kernel
theorem dX12_matched_21 : decode cX12_matched 21 = .ok (.getfield 83, 3) := by decide +kernel
theorem dX12_matched_24 : decode cX12_matched 24 = .ok (.iload_n 1, 1) := by decide +kernel
theorem dX12_matched_25 : decode cX12_matched 25 = .ok (.iaload, 1) := by decide +kernel
theorem dX12_matched_26 : decode cX12_matched 26 = .ok (.goto 4, 3) := by decide +kernel
theorem dX12_matched_29 : decode cX12_matched 29 = .ok (.iconst (-1), 1) := by decide +kernel
theorem dX12_matched_30 : decode cX12_matched 30 = .ok (.ireturn, 1) := by decide +kernel
theorem dX12_count_0 : decode cX12_count 0 = .ok (.aload_n 0, 1) := by decide +kernel
theorem dX12_count_1 : decode cX12_count 1 = .ok (.iconst 0, 1) := by decide +kernel
theorem dX12_count_2 : decode cX12_count 2 = .ok (.putfield 86, 3) := by decide +kernel
theorem dX12_count_5 : decode cX12_count 5 = .ok (.iload_n 1, 1) := by decide +kernel
theorem dX12_count_6 : decode cX12_count 6 = .ok (.tableswitch 68 0 5 #[38, 43, 48, 53, 58, 63], 38) := by decide +kernel
theorem dX12_count_44 : decode cX12_count 44 = .ok (.aload_n 0, 1) := by decide +kernel
theorem dX12_count_45 : decode cX12_count 45 = .ok (.getfield 201, 3) := by decide +kernel
theorem dX12_count_48 : decode cX12_count 48 = .ok (.ireturn, 1) := by decide +kernel
theorem dX12_count_49 : decode cX12_count 49 = .ok (.aload_n 0, 1) := by decide +kernel
theorem dX12_count_50 : decode cX12_count 50 = .ok (.getfield 204, 3) := by decide +kernel
theorem dX12_count_53 : decode cX12_count 53 = .ok (.ireturn, 1) := by decide +kernel
theorem dX12_count_54 : decode cX12_count 54 = .ok (.aload_n 0, 1) := by decide +kernel
theorem dX12_count_55 : decode cX12_count 55 = .ok (.getfield 289, 3) := by decide +kernel
theorem dX12_count_58 : decode cX12_count 58 = .ok (.ireturn, 1) := by decide +kernel
theorem dX12_count_59 : decode cX12_count 59 = .ok (.aload_n 0, 1) := by decide +kernel
theorem dX12_count_60 : decode cX12_count 60 = .ok (.getfield 310, 3) := by decide +kernel
theorem dX12_count_63 : decode cX12_count 63 = .ok (.ireturn, 1) := by decide +kernel
theorem dX12_count_64 : decode cX12_count 64 = .ok (.aload_n 0, 1) := by decide +kernel
theorem dX12_count_65 : decode cX12_count 65 = .ok (.getfield 90, 3) := by decide +kernel
theorem dX12_count_68 : decode cX12_count 68 = .ok (.ireturn, 1) := by decide +kernel
theorem dX12_count_69 : decode cX12_count 69 = .ok (.aload_n 0, 1) := by decide +kernel
theorem dX12_count_70 : decode cX12_count 70 = .ok (.getfield 214, 3) := by decide +kernel
theorem dX12_count_73 : decode cX12_count 73 = .ok (.ireturn, 1) := by decide +kernel
theorem dX12_count_74 : decode cX12_count 74 = .ok (.iconst (-1), 1) := by decide +kernel
theorem dX12_count_75 : decode cX12_count 75 = .ok (.ireturn, 1) := by decide +kernel
end
section
section ZZ
variable {p : Program} {l : Launch} {e : Env} {R : Room} {s : State} {m : MethodId} {args : Array Value} {below : List Frame} {meth : Method} {c : Code} {H : Heap} {locs : List Loc} {cells slots : Nat} {Q : State → Prop} {pc : Nat} {ls : Array Slot} {rest : List Value}
theorem zz_top {x y : Int32} (h : x = y) (k : W p l e R s m args below meth c H locs cells slots Q (F0 m pc ls (.int y :: rest))) : W p l e R s m args below meth c H locs cells slots Q (F0 m pc ls (.int x :: rest)) := by
  subst h
  exact k
end ZZ
theorem va_AOA.moved {ty : FieldType} {u U : State} (hvm : u.vm.Alike U.vm) (h : va_AOA ty u) : va_AOA ty U := by
  unfold va_AOA Cond.before Cond.holds at h
  simp only [Cond.value, beq_iff_eq] at h
  cases hc : u.vm.findClass (FieldType.array ty).toString with
  | none => simp [hc] at h
  | some comp =>
    simp only [hc, Option.bind_some, Option.bind_eq_some_iff, Option.map_eq_some_iff] at h
    obtain ⟨c, hi0, k, hk, hb⟩ := h
    obtain ⟨k', hk', he⟩ := hvm.2.2 _ _ hk
    have hi : (U.vm.classes.findIdx? fun (x : Class) => match x.kind with | .array component _ => component == comp | _ => false) = some c := by
      have e1 := va_idx_bare u.vm comp
      have e2 := va_idx_bare U.vm comp
      first | rw [hvm.bare_eq] at e1 | rw [← hvm.bare_eq] at e1
      exact e2.symm.trans (e1.trans hi0)
    have f1 : U.vm.findClass (FieldType.array ty).toString = some comp := by rw [hvm.findClass]; exact hc
    cases hkind : k.kind with
    | array component ty' =>
      rw [hkind] at hb
      simp at hb
      have hkind' : k'.kind = .array component (.array ty) := by rw [he, hkind, hb.1]
      have f2 : U.vm.findClass ("[" ++ (FieldType.array ty).toString) = some c := by rw [hvm.findClass]; exact hb.2
      unfold va_AOA Cond.before Cond.holds
      simp only [Cond.value]
      rw [f1, Option.bind_some]
      refine (congrArg (fun o : Option Nat => (o.bind (fun c => (U.vm.classes[c]?).map fun (k : Class) => match k.kind with | .array _ t => decide (t = FieldType.array ty) && decide (U.vm.findClass ("[" ++ (FieldType.array ty).toString) = some c) | _ => false) == some true)) hi).trans ?_
      simp [hk', hkind', f2]
    | _ => rw [hkind] at hb; simp at hb
/-- what the tables say of arrays of references, and of private constructors among nest mates -/
def zz_X (U : State) : Prop := va_AO RX2 U ∧ va_AO RX1 U ∧ va_AO RX5 U ∧ va_AO RX0 U ∧ va_AOA .long U ∧ va_Nw (.methodLinkNest RX10 11 yX8_init RX11) U ∧ va_Nw (.methodLinkNest RX11 26 yX10_init RX11) U ∧ va_Nw (.methodLinkNest RX11 33 yX6_init RX11) U ∧ va_Nw (.methodLinkNest RX11 40 yX4_init RX11) U ∧ va_Nw (.methodLinkNest RX11 75 yX9_init RX11) U ∧ va_Nw (.methodLinkNest RX11 83 yX0_init RX11) U ∧ va_Nw (.methodLinkNest RX5 23 yX2_init RX11) U ∧ va_Nw (.methodLinkNest RX5 24 yX1_init RX11) U ∧ va_Nw (.methodLinkNest RX6 11 yX8_init RX11) U
theorem zz_X.ao_X2 {U : State} (h : zz_X U) : va_AO RX2 U := h.1
theorem zz_X.ao_X1 {U : State} (h : zz_X U) : va_AO RX1 U := h.2.1
theorem zz_X.ao_X5 {U : State} (h : zz_X U) : va_AO RX5 U := h.2.2.1
theorem zz_X.ao_X0 {U : State} (h : zz_X U) : va_AO RX0 U := h.2.2.2.1
theorem zz_X.aoa {U : State} (h : zz_X U) : va_AOA .long U := h.2.2.2.2.1
theorem zz_X.n_RX10_11 {U : State} (h : zz_X U) : va_Nw (.methodLinkNest RX10 11 yX8_init RX11) U := h.2.2.2.2.2.1
theorem zz_X.n_RX11_26 {U : State} (h : zz_X U) : va_Nw (.methodLinkNest RX11 26 yX10_init RX11) U := h.2.2.2.2.2.2.1
theorem zz_X.n_RX11_33 {U : State} (h : zz_X U) : va_Nw (.methodLinkNest RX11 33 yX6_init RX11) U := h.2.2.2.2.2.2.2.1
theorem zz_X.n_RX11_40 {U : State} (h : zz_X U) : va_Nw (.methodLinkNest RX11 40 yX4_init RX11) U := h.2.2.2.2.2.2.2.2.1
theorem zz_X.n_RX11_75 {U : State} (h : zz_X U) : va_Nw (.methodLinkNest RX11 75 yX9_init RX11) U := h.2.2.2.2.2.2.2.2.2.1
theorem zz_X.n_RX11_83 {U : State} (h : zz_X U) : va_Nw (.methodLinkNest RX11 83 yX0_init RX11) U := h.2.2.2.2.2.2.2.2.2.2.1
theorem zz_X.n_RX5_23 {U : State} (h : zz_X U) : va_Nw (.methodLinkNest RX5 23 yX2_init RX11) U := h.2.2.2.2.2.2.2.2.2.2.2.1
theorem zz_X.n_RX5_24 {U : State} (h : zz_X U) : va_Nw (.methodLinkNest RX5 24 yX1_init RX11) U := h.2.2.2.2.2.2.2.2.2.2.2.2.1
theorem zz_X.n_RX6_11 {U : State} (h : zz_X U) : va_Nw (.methodLinkNest RX6 11 yX8_init RX11) U := h.2.2.2.2.2.2.2.2.2.2.2.2.2
theorem zz_al {u U : State} (hv : u.vm = U.vm) : u.vm.Alike U.vm := by
  rw [hv]
  exact Vm.Alike.refl U.vm
theorem zz_X.warm {s U : State} (hW : s.WarmedH U.vm) (h : zz_X s) : zz_X U := ⟨va_AO.moved hW.alike h.1, va_AO.moved hW.alike h.2.1, va_AO.moved hW.alike h.2.2.1, va_AO.moved hW.alike h.2.2.2.1, va_AOA.moved hW.alike h.2.2.2.2.1, va_Nw.warmM hW h.2.2.2.2.2.1, va_Nw.warmM hW h.2.2.2.2.2.2.1, va_Nw.warmM hW h.2.2.2.2.2.2.2.1, va_Nw.warmM hW h.2.2.2.2.2.2.2.2.1, va_Nw.warmM hW h.2.2.2.2.2.2.2.2.2.1, va_Nw.warmM hW h.2.2.2.2.2.2.2.2.2.2.1, va_Nw.warmM hW h.2.2.2.2.2.2.2.2.2.2.2.1, va_Nw.warmM hW h.2.2.2.2.2.2.2.2.2.2.2.2.1, va_Nw.warmM hW h.2.2.2.2.2.2.2.2.2.2.2.2.2⟩
theorem zz_X.same {u U : State} (hv : u.vm = U.vm) (h : zz_X u) : zz_X U := ⟨va_AO.moved (zz_al hv) h.1, va_AO.moved (zz_al hv) h.2.1, va_AO.moved (zz_al hv) h.2.2.1, va_AO.moved (zz_al hv) h.2.2.2.1, va_AOA.moved (zz_al hv) h.2.2.2.2.1, va_Nw.same rfl hv h.2.2.2.2.2.1, va_Nw.same rfl hv h.2.2.2.2.2.2.1, va_Nw.same rfl hv h.2.2.2.2.2.2.2.1, va_Nw.same rfl hv h.2.2.2.2.2.2.2.2.1, va_Nw.same rfl hv h.2.2.2.2.2.2.2.2.2.1, va_Nw.same rfl hv h.2.2.2.2.2.2.2.2.2.2.1, va_Nw.same rfl hv h.2.2.2.2.2.2.2.2.2.2.2.1, va_Nw.same rfl hv h.2.2.2.2.2.2.2.2.2.2.2.2.1, va_Nw.same rfl hv h.2.2.2.2.2.2.2.2.2.2.2.2.2⟩
set_option maxRecDepth 100000 in
theorem zz_defX0 (j : Nat) (hj : j < 4) : defaultValue (tyX0 j) = vp_V [.null, .int 0, .int 0, .int 0] j := by rcases (show j = 0 ∨ j = 1 ∨ j = 2 ∨ j = 3 by omega) with rfl | rfl | rfl | rfl <;> rfl
set_option maxRecDepth 100000 in
theorem zz_defX1 (j : Nat) (hj : j < 7) : defaultValue (tyX1 j) = vp_V [.int 0, .int 0, .int 0, .int 0, .int 0, .int 0, .int 0] j := by rcases (show j = 0 ∨ j = 1 ∨ j = 2 ∨ j = 3 ∨ j = 4 ∨ j = 5 ∨ j = 6 by omega) with rfl | rfl | rfl | rfl | rfl | rfl | rfl <;> rfl
set_option maxRecDepth 100000 in
theorem zz_defX2 (j : Nat) (hj : j < 6) : defaultValue (tyX2 j) = vp_V [.int 0, .int 0, .int 0, .int 0, .int 0, .int 0] j := by rcases (show j = 0 ∨ j = 1 ∨ j = 2 ∨ j = 3 ∨ j = 4 ∨ j = 5 by omega) with rfl | rfl | rfl | rfl | rfl | rfl <;> rfl
set_option maxRecDepth 100000 in
theorem zz_defX3 (j : Nat) (hj : j < 5) : defaultValue (tyX3 j) = vp_V [.null, .int 0, .int 0, .null, .null] j := by rcases (show j = 0 ∨ j = 1 ∨ j = 2 ∨ j = 3 ∨ j = 4 by omega) with rfl | rfl | rfl | rfl | rfl <;> rfl
set_option maxRecDepth 100000 in
theorem zz_defX4 (j : Nat) (hj : j < 7) : defaultValue (tyX4 j) = vp_V [.int 0, .null, .null, .null, .null, .null, .int 0] j := by rcases (show j = 0 ∨ j = 1 ∨ j = 2 ∨ j = 3 ∨ j = 4 ∨ j = 5 ∨ j = 6 by omega) with rfl | rfl | rfl | rfl | rfl | rfl | rfl <;> rfl
set_option maxRecDepth 100000 in
theorem zz_defX5 (j : Nat) (hj : j < 7) : defaultValue (tyX5 j) = vp_V [.null, .null, .int 0, .int 0, .int 0, .int 0, .int 0] j := by rcases (show j = 0 ∨ j = 1 ∨ j = 2 ∨ j = 3 ∨ j = 4 ∨ j = 5 ∨ j = 6 by omega) with rfl | rfl | rfl | rfl | rfl | rfl | rfl <;> rfl
set_option maxRecDepth 100000 in
theorem zz_defX6 (j : Nat) (hj : j < 8) : defaultValue (tyX6 j) = vp_V [.null, .int 0, .int 0, .int 0, .int 0, .int 0, .int 0, .int 0] j := by rcases (show j = 0 ∨ j = 1 ∨ j = 2 ∨ j = 3 ∨ j = 4 ∨ j = 5 ∨ j = 6 ∨ j = 7 by omega) with rfl | rfl | rfl | rfl | rfl | rfl | rfl | rfl <;> rfl
set_option maxRecDepth 100000 in
theorem zz_defX7 (j : Nat) (hj : j < 2) : defaultValue (tyX7 j) = vp_V [.null, .int 0] j := by rcases (show j = 0 ∨ j = 1 by omega) with rfl | rfl <;> rfl
set_option maxRecDepth 100000 in
theorem zz_defX8 (j : Nat) (hj : j < 11) : defaultValue (tyX8 j) = vp_V [.int 0, .int 0, .long 0, .int 0, .int 0, .int 0, .int 0, .null, .int 0, .int 0, .int 0] j := by rcases (show j = 0 ∨ j = 1 ∨ j = 2 ∨ j = 3 ∨ j = 4 ∨ j = 5 ∨ j = 6 ∨ j = 7 ∨ j = 8 ∨ j = 9 ∨ j = 10 by omega) with rfl | rfl | rfl | rfl | rfl | rfl | rfl | rfl | rfl | rfl | rfl <;> rfl
set_option maxRecDepth 100000 in
theorem zz_defX9 (j : Nat) (hj : j < 7) : defaultValue (tyX9 j) = vp_V [.null, .null, .null, .null, .null, .null, .int 0] j := by rcases (show j = 0 ∨ j = 1 ∨ j = 2 ∨ j = 3 ∨ j = 4 ∨ j = 5 ∨ j = 6 by omega) with rfl | rfl | rfl | rfl | rfl | rfl | rfl <;> rfl
set_option maxRecDepth 100000 in
theorem zz_defX10 (j : Nat) (hj : j < 3) : defaultValue (tyX10 j) = vp_V [.null, .int 0, .int 0] j := by rcases (show j = 0 ∨ j = 1 ∨ j = 2 by omega) with rfl | rfl | rfl <;> rfl
set_option maxRecDepth 100000 in
theorem zz_defX11 (j : Nat) (hj : j < 16) : defaultValue (tyX11 j) = vp_V [.null, .null, .null, .null, .null, .null, .null, .null, .null, .null, .null, .null, .null, .int 0, .int 0, .int 0] j := by rcases (show j = 0 ∨ j = 1 ∨ j = 2 ∨ j = 3 ∨ j = 4 ∨ j = 5 ∨ j = 6 ∨ j = 7 ∨ j = 8 ∨ j = 9 ∨ j = 10 ∨ j = 11 ∨ j = 12 ∨ j = 13 ∨ j = 14 ∨ j = 15 by omega) with rfl | rfl | rfl | rfl | rfl | rfl | rfl | rfl | rfl | rfl | rfl | rfl | rfl | rfl | rfl | rfl <;> rfl
set_option maxRecDepth 100000 in
theorem zz_defX12 (j : Nat) (hj : j < 51) : defaultValue (tyX12 j) = vp_V [.int 0, .null, .int 0, .null, .int 0, .int 0, .int 0, .int 0, .int 0, .int 0, .int 0, .long 0, .int 0, .int 0, .int 0, .int 0, .null, .null, .null, .null, .int 0, .null, .int 0, .null, .null, .null, .null, .null, .null, .null, .null, .int 0, .int 0, .int 0, .null, .null, .int 0, .int 0, .long 0, .long 0, .null, .null, .null, .null, .null, .int 0, .null, .null, .null, .int 0, .int 0] j := by rcases (show j = 0 ∨ j = 1 ∨ j = 2 ∨ j = 3 ∨ j = 4 ∨ j = 5 ∨ j = 6 ∨ j = 7 ∨ j = 8 ∨ j = 9 ∨ j = 10 ∨ j = 11 ∨ j = 12 ∨ j = 13 ∨ j = 14 ∨ j = 15 ∨ j = 16 ∨ j = 17 ∨ j = 18 ∨ j = 19 ∨ j = 20 ∨ j = 21 ∨ j = 22 ∨ j = 23 ∨ j = 24 ∨ j = 25 ∨ j = 26 ∨ j = 27 ∨ j = 28 ∨ j = 29 ∨ j = 30 ∨ j = 31 ∨ j = 32 ∨ j = 33 ∨ j = 34 ∨ j = 35 ∨ j = 36 ∨ j = 37 ∨ j = 38 ∨ j = 39 ∨ j = 40 ∨ j = 41 ∨ j = 42 ∨ j = 43 ∨ j = 44 ∨ j = 45 ∨ j = 46 ∨ j = 47 ∨ j = 48 ∨ j = 49 ∨ j = 50 by omega) with rfl | rfl | rfl | rfl | rfl | rfl | rfl | rfl | rfl | rfl | rfl | rfl | rfl | rfl | rfl | rfl | rfl | rfl | rfl | rfl | rfl | rfl | rfl | rfl | rfl | rfl | rfl | rfl | rfl | rfl | rfl | rfl | rfl | rfl | rfl | rfl | rfl | rfl | rfl | rfl | rfl | rfl | rfl | rfl | rfl | rfl | rfl | rfl | rfl | rfl | rfl <;> rfl
def zz_edge (e : Int32) : Int32 := if e < 0 then 0 else if 99999999 < e then 0 else 1
def zz_end (n : Int32) : Int32 := if n < 0 then 0 else if n ≤ 0 then 1 else 0
def zz_frag (a b : Int32) : Int32 := if zz_edge a = 0 then (-1) else if zz_edge b = 0 then (-1) else 0
def zz_cnt (w : Int32) : Int32 := if w.toInt < 0 then (-1) else if 5 < w.toInt then (-1) else 0
set_option maxHeartbeats 4000000 in
/-- the loop of Arrays.fill: from place i on, whatever stands behind it -/
theorem zz_fill_i {p : Program} {l : Launch} {e : Env} {R : Room} {s : State} {m : MethodId} {args : Array Value} {below : List Frame} {meth : Method} {c : Code} {cells slots : Nat} {Q : State → Prop} {A : Nat → Prop} {H0 : Heap} {dC : Nat → ClassId} {dI : Nat → Nat → Nat} {ar : Nat} {ka : ClassId} {nn : Nat} {va : Int32} (hx : p.tables.exec = Jvm.exec) (hb : c.code = cJ7_fill_53178) (hnn : nn < 2147483648) (hK : va_K (dC, dI) vwCl [(ka, .int)] s)
    (k : ∀ (f : Nat → Int32) (H : Heap) (locs : List Loc) (ls : Array Slot), va_P (dC, dI) vwCl [(ar, .inl (ka, nn, .inl f))] H → va_D A [(ar, .inl (ka, nn, .inl f))] → va_S A H0 H locs → W p l e R s m args below meth c H locs cells slots Q (F0 m 20 ls [])) :
    ∀ (d i : Nat) (f : Nat → Int32) (H : Heap) (locs : List Loc) (ls : Array Slot), i ≤ nn → nn ≤ i + d → lv_has ls 4 [(2, .int (nI i)), (3, .int (nI nn)), (0, .ref ar), (1, .int va)] → va_P (dC, dI) vwCl [(ar, .inl (ka, nn, .inl f))] H → va_D A [(ar, .inl (ka, nn, .inl f))] → va_S A H0 H locs → W p l e R s m args below meth c H locs cells slots Q (F0 m 5 ls []) := by
  intro d
  induction d with
  | zero =>
    intro i f H locs ls hin hi hl hP hD hS
    refine lv_iload_n hx hb dJ7_fill_53178_5 rfl (lv_at hl 0 rfl) ?_
    refine lv_iload_n hx hb dJ7_fill_53178_6 rfl (lv_at hl 1 rfl) ?_
    refine lv_icmp_ge (tgt := 20) hx hb dJ7_fill_53178_7 (by decide) (fun c9 => ?_) (fun c9 => ?_)
    · exact k f H locs ls hP hD hS
    · exact absurd (nI_le (by omega) (by omega)) c9
  | succ d ih =>
    intro i f H locs ls hin hi hl hP hD hS
    refine lv_iload_n hx hb dJ7_fill_53178_5 rfl (lv_at hl 0 rfl) ?_
    refine lv_iload_n hx hb dJ7_fill_53178_6 rfl (lv_at hl 1 rfl) ?_
    refine lv_icmp_ge (tgt := 20) hx hb dJ7_fill_53178_7 (by decide) (fun c9 => ?_) (fun c9 => ?_)
    · exact k f H locs ls hP hD hS
    · have hlt : i < nn := by
        rcases Nat.lt_or_ge i nn with q | q
        · exact q
        · exact absurd (nI_le q (by omega)) c9
      refine lv_aload_n hx hb dJ7_fill_53178_10 rfl (lv_at hl 2 rfl) ?_
      refine lv_iload_n hx hb dJ7_fill_53178_11 rfl (lv_at hl 0 rfl) ?_
      refine lv_iload_n hx hb dJ7_fill_53178_12 rfl (lv_at hl 3 rfl) ?_
      refine va_iast hx hb hK hP hD hS 0 0 rfl rfl (vp_in_nI hlt hnn) dJ7_fill_53178_13 (fun H locs hP hD hS => ?_)
      refine lv_iinc (v := nI (i + 1)) (lv' := [(2, .int (nI (i + 1))), (3, .int (nI nn)), (0, .ref ar), (1, .int va)]) hx hb dJ7_fill_53178_14 hl (k := 0) rfl (show nI i + Int32.ofInt 1 = nI (i + 1) from nI_1 i) (by decide) rfl (fun ls hl => ?_)
      refine lv_goto (tgt := 5) hx hb dJ7_fill_53178_17 (by decide) ?_
      exact ih (i + 1) _ H locs ls (by omega) (by omega) hl hP hD hS
set_option maxHeartbeats 4000000 in
/-- the loop of Arrays.fill: from place i on, whatever stands behind it -/
theorem zz_fill_l {p : Program} {l : Launch} {e : Env} {R : Room} {s : State} {m : MethodId} {args : Array Value} {below : List Frame} {meth : Method} {c : Code} {cells slots : Nat} {Q : State → Prop} {A : Nat → Prop} {H0 : Heap} {dC : Nat → ClassId} {dI : Nat → Nat → Nat} {ar : Nat} {ka : ClassId} {nn : Nat} {va : Int64} (hx : p.tables.exec = Jvm.exec) (hb : c.code = cJ7_fill_d0a16) (hnn : nn < 2147483648) (hK : va_K (dC, dI) vwCl [(ka, .long)] s)
    (k : ∀ (f : Nat → Int64) (H : Heap) (locs : List Loc) (ls : Array Slot), va_P (dC, dI) vwCl [(ar, .inl (ka, nn, .inr (.inl f)))] H → va_D A [(ar, .inl (ka, nn, .inr (.inl f)))] → va_S A H0 H locs → W p l e R s m args below meth c H locs cells slots Q (F0 m 22 ls [])) :
    ∀ (d i : Nat) (f : Nat → Int64) (H : Heap) (locs : List Loc) (ls : Array Slot), i ≤ nn → nn ≤ i + d → lv_has ls 5 [(3, .int (nI i)), (4, .int (nI nn)), (0, .ref ar), (1, .long va)] → va_P (dC, dI) vwCl [(ar, .inl (ka, nn, .inr (.inl f)))] H → va_D A [(ar, .inl (ka, nn, .inr (.inl f)))] → va_S A H0 H locs → W p l e R s m args below meth c H locs cells slots Q (F0 m 6 ls []) := by
  intro d
  induction d with
  | zero =>
    intro i f H locs ls hin hi hl hP hD hS
    refine lv_iload_n hx hb dJ7_fill_d0a16_6 rfl (lv_at hl 0 rfl) ?_
    refine lv_iload hx hb dJ7_fill_d0a16_7 (lv_at hl 1 rfl) ?_
    refine lv_icmp_ge (tgt := 22) hx hb dJ7_fill_d0a16_9 (by decide) (fun c9 => ?_) (fun c9 => ?_)
    · exact k f H locs ls hP hD hS
    · exact absurd (nI_le (by omega) (by omega)) c9
  | succ d ih =>
    intro i f H locs ls hin hi hl hP hD hS
    refine lv_iload_n hx hb dJ7_fill_d0a16_6 rfl (lv_at hl 0 rfl) ?_
    refine lv_iload hx hb dJ7_fill_d0a16_7 (lv_at hl 1 rfl) ?_
    refine lv_icmp_ge (tgt := 22) hx hb dJ7_fill_d0a16_9 (by decide) (fun c9 => ?_) (fun c9 => ?_)
    · exact k f H locs ls hP hD hS
    · have hlt : i < nn := by
        rcases Nat.lt_or_ge i nn with q | q
        · exact q
        · exact absurd (nI_le q (by omega)) c9
      refine lv_aload_n hx hb dJ7_fill_d0a16_12 rfl (lv_at hl 2 rfl) ?_
      refine lv_iload_n hx hb dJ7_fill_d0a16_13 rfl (lv_at hl 0 rfl) ?_
      refine lv_lload_n hx hb dJ7_fill_d0a16_14 rfl (lv_at hl 3 rfl) ?_
      refine va_last hx hb hK hP hD hS 0 0 rfl rfl (vp_in_nI hlt hnn) dJ7_fill_d0a16_15 (fun H locs hP hD hS => ?_)
      refine lv_iinc (v := nI (i + 1)) (lv' := [(3, .int (nI (i + 1))), (4, .int (nI nn)), (0, .ref ar), (1, .long va)]) hx hb dJ7_fill_d0a16_16 hl (k := 0) rfl (show nI i + Int32.ofInt 1 = nI (i + 1) from nI_1 i) (by decide) rfl (fun ls hl => ?_)
      refine lv_goto (tgt := 6) hx hb dJ7_fill_d0a16_19 (by decide) ?_
      exact ih (i + 1) _ H locs ls (by omega) (by omega) hl hP hD hS
set_option maxHeartbeats 4000000 in
set_option maxRecDepth 100000 in
theorem c_fill_i (l : Launch) (dC : Nat → ClassId) (dI : Nat → Nat → Nat) (ar : Nat) (ka : ClassId) (nn : Nat) (fa : Nat → Int32) (va : Int32) (sz : Nat) (hnn : nn < 2147483648) : Met l yJ7_fill_53178 wsJ7_fill_53178 ({ frames := 0, cells := 0, slots := 0, locals := 0 } : Room) (va_Pc [.ref ar, .int va] (fun U => U.heap.size = sz ∧ zz_X U ∧ va_P (dC, dI) vwCl [(ar, .inl (ka, nn, .inl fa))] U.heap ∧ va_K (dC, dI) vwCl [(ka, .int)] U ∧ va_D (fun _ => True) [(ar, .inl (ka, nn, .inl fa))])) (va_Qv (fun (_ : Unit) => True) (fun (_ : Unit) (t : State) => ∃ (fb : Nat → Int32), va_P (dC, dI) vwCl [(ar, .inl (ka, nn, .inl fb))] t.heap ∧ va_K (dC, dI) vwCl [(ka, .int)] t ∧ va_D (va_A [(ar, .inl (ka, nn, .inl fa))] sz) [(ar, .inl (ka, nn, .inl fb))]) (va_A [(ar, .inl (ka, nn, .inl fa))] sz)) 0 0 (va_A [(ar, .inl (ka, nn, .inl fa))] sz) := by
  refine Met.ofW (cc := cJ7_fill_53178) (maxL := 4) (ret := none) (by decide) rfl ?_
  intro p e s m args below meth c s₁ B hml hv
  obtain ⟨rfl, hsz, hzX, hP, hK, hD0⟩ := hv
  have hx := B.exec
  have hb := B.bytes
  have hr := B.returns
  have hts := atoms_spec (ws := wsJ7_fill_53178) B.pre
  have hown : s.vm.findClass RJ7 = some m.cls := findClass_of_methodNamed B.named
  have hlocks := B.notSynchronized
  subst hsz
  have hD := hD0.self (sz := s.heap.size)
  generalize hAe : va_A [(ar, .inl (ka, nn, .inl fa))] s.heap.size = A at  hD ⊢
  have hA : ∀ q : Nat, s.heap.size ≤ q → A q := fun q h => by rw [← hAe]; exact Or.inr h
  have hS : va_S A s.heap s.heap [] := va_S.rf
  have hP : va_P (dC, dI) vwCl [(ar, .inl (ka, nn, .inl fa))] s.heap := hP
  have hl := lv_entry ([.ref ar, .int va]) (n := 4) (Nat.le_of_ble_eq_true rfl)
  rw [lg_entry_eq]
  generalize (lg_sl ([.ref ar, .int va]) ++ List.replicate (4 - (lg_sl ([.ref ar, .int va])).length) Slot.unset).toArray = ls at hl ⊢
  have hl : lv_has ls 4 [(0, .ref ar), (1, .int va)] := hl
  skip
  refine lv_iconst (v := 0) hx hb dJ7_fill_53178_0 (by decide) ?_
  refine lv_istore_n (lv' := [(2, .int 0), (0, .ref ar), (1, .int va)]) hx hb dJ7_fill_53178_1 rfl hl (by decide) rfl (fun ls hl => ?_)
  refine lv_aload_n hx hb dJ7_fill_53178_2 rfl (lv_at hl 1 rfl) ?_
  refine va_alen (v := nI nn) hx hb hK hP 0 0 rfl rfl rfl dJ7_fill_53178_3 ?_
  refine lv_istore_n (lv' := [(3, .int (nI nn)), (2, .int 0), (0, .ref ar), (1, .int va)]) hx hb dJ7_fill_53178_4 rfl hl (by decide) rfl (fun ls hl => ?_)
  refine zz_fill_i hx hb hnn hK (fun f9 H locs ls hP hD hS => ?_) nn 0 _ _ _ ls (Nat.zero_le _) (by omega) (lv_sub hl [1, 0, 2, 3] rfl) hP hD hS
  refine W.widen (k := 0) (n := 0) (Nat.le_of_ble_eq_true rfl) (Nat.le_of_ble_eq_true rfl) ?_
  exact W.vret hx hb hr (fun t ht hW => ⟨⟨(), rfl, trivial, f9, by rw [ht]; exact hP, va_K.moved hW.alike hK, hD⟩, hS.F ht⟩) hS.2.2 dJ7_fill_53178_20
set_option maxHeartbeats 4000000 in
set_option maxRecDepth 100000 in
theorem c_fill_l (l : Launch) (dC : Nat → ClassId) (dI : Nat → Nat → Nat) (ar : Nat) (ka : ClassId) (nn : Nat) (fa : Nat → Int64) (va : Int64) (sz : Nat) (hnn : nn < 2147483648) : Met l yJ7_fill_d0a16 wsJ7_fill_d0a16 ({ frames := 0, cells := 0, slots := 0, locals := 0 } : Room) (va_Pc [.ref ar, .long va] (fun U => U.heap.size = sz ∧ zz_X U ∧ va_P (dC, dI) vwCl [(ar, .inl (ka, nn, .inr (.inl fa)))] U.heap ∧ va_K (dC, dI) vwCl [(ka, .long)] U ∧ va_D (fun _ => True) [(ar, .inl (ka, nn, .inr (.inl fa)))])) (va_Qv (fun (_ : Unit) => True) (fun (_ : Unit) (t : State) => ∃ (fb : Nat → Int64), va_P (dC, dI) vwCl [(ar, .inl (ka, nn, .inr (.inl fb)))] t.heap ∧ va_K (dC, dI) vwCl [(ka, .long)] t ∧ va_D (va_A [(ar, .inl (ka, nn, .inr (.inl fa)))] sz) [(ar, .inl (ka, nn, .inr (.inl fb)))]) (va_A [(ar, .inl (ka, nn, .inr (.inl fa)))] sz)) 0 0 (va_A [(ar, .inl (ka, nn, .inr (.inl fa)))] sz) := by
  refine Met.ofW (cc := cJ7_fill_d0a16) (maxL := 5) (ret := none) (by decide) rfl ?_
  intro p e s m args below meth c s₁ B hml hv
  obtain ⟨rfl, hsz, hzX, hP, hK, hD0⟩ := hv
  have hx := B.exec
  have hb := B.bytes
  have hr := B.returns
  have hts := atoms_spec (ws := wsJ7_fill_d0a16) B.pre
  have hown : s.vm.findClass RJ7 = some m.cls := findClass_of_methodNamed B.named
  have hlocks := B.notSynchronized
  subst hsz
  have hD := hD0.self (sz := s.heap.size)
  generalize hAe : va_A [(ar, .inl (ka, nn, .inr (.inl fa)))] s.heap.size = A at  hD ⊢
  have hA : ∀ q : Nat, s.heap.size ≤ q → A q := fun q h => by rw [← hAe]; exact Or.inr h
  have hS : va_S A s.heap s.heap [] := va_S.rf
  have hP : va_P (dC, dI) vwCl [(ar, .inl (ka, nn, .inr (.inl fa)))] s.heap := hP
  have hl := lv_entry ([.ref ar, .long va]) (n := 5) (Nat.le_of_ble_eq_true rfl)
  rw [lg_entry_eq]
  generalize (lg_sl ([.ref ar, .long va]) ++ List.replicate (5 - (lg_sl ([.ref ar, .long va])).length) Slot.unset).toArray = ls at hl ⊢
  have hl : lv_has ls 5 [(0, .ref ar), (1, .long va)] := hl
  skip
  refine lv_iconst (v := 0) hx hb dJ7_fill_d0a16_0 (by decide) ?_
  refine lv_istore_n (lv' := [(3, .int 0), (0, .ref ar), (1, .long va)]) hx hb dJ7_fill_d0a16_1 rfl hl (by decide) rfl (fun ls hl => ?_)
  refine lv_aload_n hx hb dJ7_fill_d0a16_2 rfl (lv_at hl 1 rfl) ?_
  refine va_alen (v := nI nn) hx hb hK hP 0 0 rfl rfl rfl dJ7_fill_d0a16_3 ?_
  refine lv_istore (lv' := [(4, .int (nI nn)), (3, .int 0), (0, .ref ar), (1, .long va)]) hx hb dJ7_fill_d0a16_4 hl (by decide) rfl (fun ls hl => ?_)
  refine zz_fill_l hx hb hnn hK (fun f9 H locs ls hP hD hS => ?_) nn 0 _ _ _ ls (Nat.zero_le _) (by omega) (lv_sub hl [1, 0, 2, 3] rfl) hP hD hS
  refine W.widen (k := 0) (n := 0) (Nat.le_of_ble_eq_true rfl) (Nat.le_of_ble_eq_true rfl) ?_
  exact W.vret hx hb hr (fun t ht hW => ⟨⟨(), rfl, trivial, f9, by rw [ht]; exact hP, va_K.moved hW.alike hK, hD⟩, hS.F ht⟩) hS.2.2 dJ7_fill_d0a16_22
end
section
theorem in_X7_init_X7 : ∀ w ∈ wsX70, w ∈ wsX7_init := fun _ h => List.mem_cons_of_mem _ (List.mem_append_right _ h)
set_option maxHeartbeats 4000000 in
set_option maxRecDepth 100000 in
theorem c_Text_440 (l : Launch) (dC : Nat → ClassId) (dI : Nat → Nat → Nat) (h0 : Nat) (sz : Nat)  : Met l yX7_init wsX7_init ({ frames := 1, cells := 1, slots := 440, locals := 18 } : Room) (va_Pc [.ref h0, .int 440] (fun U => U.heap.size = sz ∧ zz_X U ∧ va_P (dC, dI) vwCl [(h0, .inr (7, [.null, .int 0]))] U.heap ∧ va_K (dC, dI) vwCl [] U ∧ va_D (fun _ => True) [(h0, .inr (7, [.null, .int 0]))])) (va_Qv (fun (_ : Unit) => True) (fun (_ : Unit) (t : State) => ∃ (qb : Nat) (kb : ClassId), va_P (dC, dI) vwCl [(h0, .inr (7, [.ref qb, .int 0])), (qb, .inl (kb, 440, .inl (fun _ => 0)))] t.heap ∧ va_K (dC, dI) vwCl [(kb, .byte)] t ∧ va_D (va_A [(h0, .inr (7, [.null, .int 0]))] sz) [(h0, .inr (7, [.ref qb, .int 0])), (qb, .inl (kb, 440, .inl (fun _ => 0)))]) (va_A [(h0, .inr (7, [.null, .int 0]))] sz)) 1 440 (va_A [(h0, .inr (7, [.null, .int 0]))] sz) := by
  refine Met.ofW (cc := cX7_init) (maxL := 2) (ret := none) (by decide) rfl ?_
  intro p e s m args below meth c s₁ B hml hv
  obtain ⟨rfl, hsz, hzX, hP, hK, hD0⟩ := hv
  have hx := B.exec
  have hb := B.bytes
  have hr := B.returns
  have hts := atoms_spec (ws := wsX7_init) B.pre
  have hown : s.vm.findClass RX7 = some m.cls := findClass_of_methodNamed B.named
  have hlocks := B.notSynchronized
  have hin : meth.name = "<init>" := (name_of_methodNamed B.named B.method).1
  subst hsz
  have hD := hD0.self (sz := s.heap.size)
  generalize hAe : va_A [(h0, .inr (7, [.null, .int 0]))] s.heap.size = A at  hD ⊢
  have hA : ∀ q : Nat, s.heap.size ≤ q → A q := fun q h => by rw [← hAe]; exact Or.inr h
  have hS : va_S A s.heap s.heap [] := va_S.rf
  have hP : va_P (dC, dI) vwCl [(h0, .inr (7, [.null, .int 0]))] s.heap := hP
  have hl := lv_entry ([.ref h0, .int 440]) (n := 2) (Nat.le_of_ble_eq_true rfl)
  rw [lg_entry_eq]
  generalize (lg_sl ([.ref h0, .int 440]) ++ List.replicate (2 - (lg_sl ([.ref h0, .int 440])).length) Slot.unset).toArray = ls at hl ⊢
  have hl : lv_has ls 2 [(0, .ref h0), (1, .int 440)] := hl
  skip
  refine lv_aload_n hx hb dX7_init_0 rfl (lv_at hl 0 rfl) ?_
  refine W.objInit hx hb hown (hts (.methodLink RX7 3 objectInit) (by decide +kernel)) (hts (.instanceMethod objectInit) (by decide +kernel)) (hts (.code objectInit ⟨#[0xb1]⟩ 1 none) (by decide +kernel)) rfl (by rw [hml]; exact hl.1) rfl dX7_init_1 (Nat.le_of_ble_eq_true rfl) (Nat.le_of_ble_eq_true rfl) ?_
  refine W.eq (g2 := F0 m 4 ls []) rfl ?_
  refine lv_aload_n hx hb dX7_init_4 rfl (lv_at hl 0 rfl) ?_
  refine lv_iconst (v := 0) hx hb dX7_init_5 (by decide) ?_
  refine lv_iload_n hx hb dX7_init_6 rfl (lv_at hl 1 rfl) ?_
  refine va_mmax hx hb (by rw [hml]; exact hl.1.symm) hown (hts (.methodLink RX7 9 Lib.Math.max.name) (by decide +kernel)) (hts (.static Lib.Math.max.name) (by decide +kernel)) (hts (.initialized "java/lang/Math") (by decide +kernel)) (hts (.code Lib.Math.max.name Lib.Math.max.code 2 (some .int)) (by decide +kernel)) (Nat.le_of_ble_eq_true rfl) (Nat.le_of_ble_eq_true rfl) (Nat.le_of_ble_eq_true rfl) (Nat.le_of_ble_eq_true rfl) dX7_init_7 ?_
  refine zz_top (y := 440) (by decide) ?_
  refine va_newa (atype := .byte) (ty := .byte) (a0 := (440, .inl (fun _ => 0))) (N' := 440) hx hb (hts (.arrayClass .byte) (by decide +kernel)) rfl hK hP hD hS hA (fun cA => vp_cell_i cA 440 (fun _ => 0)) (by decide) (by decide) (Nat.le_of_ble_eq_true rfl) (Nat.le_of_ble_eq_true rfl) (Nat.le_of_ble_eq_true rfl) dX7_init_10 (fun q_1 k_2 H hK hP hD hS => ?_)
  have hP : va_P (dC, dI) vwCl [(h0, .inr (7, [.null, .int 0])), (q_1, .inl (k_2, 440, .inl (fun _ => 0)))] H := hP
  have hD : va_D A [(h0, .inr (7, [.null, .int 0])), (q_1, .inl (k_2, 440, .inl (fun _ => 0)))] := hD
  have hK : va_K (dC, dI) vwCl [(k_2, .byte)] s := hK
  refine W.widen (k := 1) (n := 440) (Nat.le_of_ble_eq_true rfl) (Nat.le_of_ble_eq_true rfl) ?_
  refine va_putF (D := (dC, dI)) (ci := 7) (v := .ref q_1) (ty := .array .byte) (C := RX7) (T := TX7) (N := 2) hx hb hts in_X7_init_X7 tyX7 tyX7_ok nmX7 hown hK hP hD hS 0 rfl rfl 0 (by decide) (hts (.fieldLink RX7 15 "ClayAccounts$Text" "bytes" "[B") (by decide +kernel)) (fun _ h9 => h9) rfl hin rfl (by decide +kernel) rfl rfl (Nat.le_of_ble_eq_true rfl) dX7_init_12 (fun H locs hP hD hS => ?_)
  have hP : va_P (dC, dI) vwCl [(h0, .inr (7, [.ref q_1, .int 0])), (q_1, .inl (k_2, 440, .inl (fun _ => 0)))] H := hP
  have hD : va_D A [(h0, .inr (7, [.ref q_1, .int 0])), (q_1, .inl (k_2, 440, .inl (fun _ => 0)))] := hD
  refine lv_aload_n hx hb dX7_init_15 rfl (lv_at hl 0 rfl) ?_
  refine lv_iconst (v := 0) hx hb dX7_init_16 (by decide) ?_
  refine va_put (D := (dC, dI)) (ci := 7) (v := .int 0) (ty := .int) (C := RX7) (T := TX7) (N := 2) hx hb hts in_X7_init_X7 tyX7 tyX7_ok nmX7 hown hK hP hD hS 0 rfl rfl 1 (by decide) (hts (.fieldLink RX7 21 "ClayAccounts$Text" "size" "I") (by decide +kernel)) (fun _ h9 => h9) rfl (by decide +kernel) rfl rfl (Nat.le_of_ble_eq_true rfl) dX7_init_17 (fun H locs hP hD hS => ?_)
  have hP : va_P (dC, dI) vwCl [(h0, .inr (7, [.ref q_1, .int 0])), (q_1, .inl (k_2, 440, .inl (fun _ => 0)))] H := hP
  have hD : va_D A [(h0, .inr (7, [.ref q_1, .int 0])), (q_1, .inl (k_2, 440, .inl (fun _ => 0)))] := hD
  have hP9 := hP.sub (ws' := [(h0, .inr (7, [.ref q_1, .int 0])), (q_1, .inl (k_2, 440, .inl (fun _ => 0)))]) [0, 1] rfl
  have hD9 := hD.sub (ws' := [(h0, .inr (7, [.ref q_1, .int 0])), (q_1, .inl (k_2, 440, .inl (fun _ => 0)))]) [0, 1] (by decide) rfl
  have hK9 := hK.sub (tys' := [(k_2, .byte)]) [0] rfl
  refine W.widen (k := 1) (n := 440) (Nat.le_of_ble_eq_true rfl) (Nat.le_of_ble_eq_true rfl) ?_
  exact W.vret hx hb hr (fun t ht hW => ⟨⟨(), rfl, trivial, q_1, k_2, by rw [ht]; exact hP9, va_K.moved hW.alike hK9, hD9⟩, hS.F ht⟩) hS.2.2 dX7_init_20
set_option maxHeartbeats 4000000 in
set_option maxRecDepth 100000 in
theorem c_Text_59 (l : Launch) (dC : Nat → ClassId) (dI : Nat → Nat → Nat) (h0 : Nat) (sz : Nat)  : Met l yX7_init wsX7_init ({ frames := 1, cells := 1, slots := 59, locals := 18 } : Room) (va_Pc [.ref h0, .int 59] (fun U => U.heap.size = sz ∧ zz_X U ∧ va_P (dC, dI) vwCl [(h0, .inr (7, [.null, .int 0]))] U.heap ∧ va_K (dC, dI) vwCl [] U ∧ va_D (fun _ => True) [(h0, .inr (7, [.null, .int 0]))])) (va_Qv (fun (_ : Unit) => True) (fun (_ : Unit) (t : State) => ∃ (qb : Nat) (kb : ClassId), va_P (dC, dI) vwCl [(h0, .inr (7, [.ref qb, .int 0])), (qb, .inl (kb, 59, .inl (fun _ => 0)))] t.heap ∧ va_K (dC, dI) vwCl [(kb, .byte)] t ∧ va_D (va_A [(h0, .inr (7, [.null, .int 0]))] sz) [(h0, .inr (7, [.ref qb, .int 0])), (qb, .inl (kb, 59, .inl (fun _ => 0)))]) (va_A [(h0, .inr (7, [.null, .int 0]))] sz)) 1 59 (va_A [(h0, .inr (7, [.null, .int 0]))] sz) := by
  refine Met.ofW (cc := cX7_init) (maxL := 2) (ret := none) (by decide) rfl ?_
  intro p e s m args below meth c s₁ B hml hv
  obtain ⟨rfl, hsz, hzX, hP, hK, hD0⟩ := hv
  have hx := B.exec
  have hb := B.bytes
  have hr := B.returns
  have hts := atoms_spec (ws := wsX7_init) B.pre
  have hown : s.vm.findClass RX7 = some m.cls := findClass_of_methodNamed B.named
  have hlocks := B.notSynchronized
  have hin : meth.name = "<init>" := (name_of_methodNamed B.named B.method).1
  subst hsz
  have hD := hD0.self (sz := s.heap.size)
  generalize hAe : va_A [(h0, .inr (7, [.null, .int 0]))] s.heap.size = A at  hD ⊢
  have hA : ∀ q : Nat, s.heap.size ≤ q → A q := fun q h => by rw [← hAe]; exact Or.inr h
  have hS : va_S A s.heap s.heap [] := va_S.rf
  have hP : va_P (dC, dI) vwCl [(h0, .inr (7, [.null, .int 0]))] s.heap := hP
  have hl := lv_entry ([.ref h0, .int 59]) (n := 2) (Nat.le_of_ble_eq_true rfl)
  rw [lg_entry_eq]
  generalize (lg_sl ([.ref h0, .int 59]) ++ List.replicate (2 - (lg_sl ([.ref h0, .int 59])).length) Slot.unset).toArray = ls at hl ⊢
  have hl : lv_has ls 2 [(0, .ref h0), (1, .int 59)] := hl
  skip
  refine lv_aload_n hx hb dX7_init_0 rfl (lv_at hl 0 rfl) ?_
  refine W.objInit hx hb hown (hts (.methodLink RX7 3 objectInit) (by decide +kernel)) (hts (.instanceMethod objectInit) (by decide +kernel)) (hts (.code objectInit ⟨#[0xb1]⟩ 1 none) (by decide +kernel)) rfl (by rw [hml]; exact hl.1) rfl dX7_init_1 (Nat.le_of_ble_eq_true rfl) (Nat.le_of_ble_eq_true rfl) ?_
  refine W.eq (g2 := F0 m 4 ls []) rfl ?_
  refine lv_aload_n hx hb dX7_init_4 rfl (lv_at hl 0 rfl) ?_
  refine lv_iconst (v := 0) hx hb dX7_init_5 (by decide) ?_
  refine lv_iload_n hx hb dX7_init_6 rfl (lv_at hl 1 rfl) ?_
  refine va_mmax hx hb (by rw [hml]; exact hl.1.symm) hown (hts (.methodLink RX7 9 Lib.Math.max.name) (by decide +kernel)) (hts (.static Lib.Math.max.name) (by decide +kernel)) (hts (.initialized "java/lang/Math") (by decide +kernel)) (hts (.code Lib.Math.max.name Lib.Math.max.code 2 (some .int)) (by decide +kernel)) (Nat.le_of_ble_eq_true rfl) (Nat.le_of_ble_eq_true rfl) (Nat.le_of_ble_eq_true rfl) (Nat.le_of_ble_eq_true rfl) dX7_init_7 ?_
  refine zz_top (y := 59) (by decide) ?_
  refine va_newa (atype := .byte) (ty := .byte) (a0 := (59, .inl (fun _ => 0))) (N' := 59) hx hb (hts (.arrayClass .byte) (by decide +kernel)) rfl hK hP hD hS hA (fun cA => vp_cell_i cA 59 (fun _ => 0)) (by decide) (by decide) (Nat.le_of_ble_eq_true rfl) (Nat.le_of_ble_eq_true rfl) (Nat.le_of_ble_eq_true rfl) dX7_init_10 (fun q_1 k_2 H hK hP hD hS => ?_)
  have hP : va_P (dC, dI) vwCl [(h0, .inr (7, [.null, .int 0])), (q_1, .inl (k_2, 59, .inl (fun _ => 0)))] H := hP
  have hD : va_D A [(h0, .inr (7, [.null, .int 0])), (q_1, .inl (k_2, 59, .inl (fun _ => 0)))] := hD
  have hK : va_K (dC, dI) vwCl [(k_2, .byte)] s := hK
  refine W.widen (k := 1) (n := 59) (Nat.le_of_ble_eq_true rfl) (Nat.le_of_ble_eq_true rfl) ?_
  refine va_putF (D := (dC, dI)) (ci := 7) (v := .ref q_1) (ty := .array .byte) (C := RX7) (T := TX7) (N := 2) hx hb hts in_X7_init_X7 tyX7 tyX7_ok nmX7 hown hK hP hD hS 0 rfl rfl 0 (by decide) (hts (.fieldLink RX7 15 "ClayAccounts$Text" "bytes" "[B") (by decide +kernel)) (fun _ h9 => h9) rfl hin rfl (by decide +kernel) rfl rfl (Nat.le_of_ble_eq_true rfl) dX7_init_12 (fun H locs hP hD hS => ?_)
  have hP : va_P (dC, dI) vwCl [(h0, .inr (7, [.ref q_1, .int 0])), (q_1, .inl (k_2, 59, .inl (fun _ => 0)))] H := hP
  have hD : va_D A [(h0, .inr (7, [.ref q_1, .int 0])), (q_1, .inl (k_2, 59, .inl (fun _ => 0)))] := hD
  refine lv_aload_n hx hb dX7_init_15 rfl (lv_at hl 0 rfl) ?_
  refine lv_iconst (v := 0) hx hb dX7_init_16 (by decide) ?_
  refine va_put (D := (dC, dI)) (ci := 7) (v := .int 0) (ty := .int) (C := RX7) (T := TX7) (N := 2) hx hb hts in_X7_init_X7 tyX7 tyX7_ok nmX7 hown hK hP hD hS 0 rfl rfl 1 (by decide) (hts (.fieldLink RX7 21 "ClayAccounts$Text" "size" "I") (by decide +kernel)) (fun _ h9 => h9) rfl (by decide +kernel) rfl rfl (Nat.le_of_ble_eq_true rfl) dX7_init_17 (fun H locs hP hD hS => ?_)
  have hP : va_P (dC, dI) vwCl [(h0, .inr (7, [.ref q_1, .int 0])), (q_1, .inl (k_2, 59, .inl (fun _ => 0)))] H := hP
  have hD : va_D A [(h0, .inr (7, [.ref q_1, .int 0])), (q_1, .inl (k_2, 59, .inl (fun _ => 0)))] := hD
  have hP9 := hP.sub (ws' := [(h0, .inr (7, [.ref q_1, .int 0])), (q_1, .inl (k_2, 59, .inl (fun _ => 0)))]) [0, 1] rfl
  have hD9 := hD.sub (ws' := [(h0, .inr (7, [.ref q_1, .int 0])), (q_1, .inl (k_2, 59, .inl (fun _ => 0)))]) [0, 1] (by decide) rfl
  have hK9 := hK.sub (tys' := [(k_2, .byte)]) [0] rfl
  refine W.widen (k := 1) (n := 59) (Nat.le_of_ble_eq_true rfl) (Nat.le_of_ble_eq_true rfl) ?_
  exact W.vret hx hb hr (fun t ht hW => ⟨⟨(), rfl, trivial, q_1, k_2, by rw [ht]; exact hP9, va_K.moved hW.alike hK9, hD9⟩, hS.F ht⟩) hS.2.2 dX7_init_20
set_option maxHeartbeats 4000000 in
set_option maxRecDepth 100000 in
theorem c_Text_402 (l : Launch) (dC : Nat → ClassId) (dI : Nat → Nat → Nat) (h0 : Nat) (sz : Nat)  : Met l yX7_init wsX7_init ({ frames := 1, cells := 1, slots := 402, locals := 18 } : Room) (va_Pc [.ref h0, .int 402] (fun U => U.heap.size = sz ∧ zz_X U ∧ va_P (dC, dI) vwCl [(h0, .inr (7, [.null, .int 0]))] U.heap ∧ va_K (dC, dI) vwCl [] U ∧ va_D (fun _ => True) [(h0, .inr (7, [.null, .int 0]))])) (va_Qv (fun (_ : Unit) => True) (fun (_ : Unit) (t : State) => ∃ (qb : Nat) (kb : ClassId), va_P (dC, dI) vwCl [(h0, .inr (7, [.ref qb, .int 0])), (qb, .inl (kb, 402, .inl (fun _ => 0)))] t.heap ∧ va_K (dC, dI) vwCl [(kb, .byte)] t ∧ va_D (va_A [(h0, .inr (7, [.null, .int 0]))] sz) [(h0, .inr (7, [.ref qb, .int 0])), (qb, .inl (kb, 402, .inl (fun _ => 0)))]) (va_A [(h0, .inr (7, [.null, .int 0]))] sz)) 1 402 (va_A [(h0, .inr (7, [.null, .int 0]))] sz) := by
  refine Met.ofW (cc := cX7_init) (maxL := 2) (ret := none) (by decide) rfl ?_
  intro p e s m args below meth c s₁ B hml hv
  obtain ⟨rfl, hsz, hzX, hP, hK, hD0⟩ := hv
  have hx := B.exec
  have hb := B.bytes
  have hr := B.returns
  have hts := atoms_spec (ws := wsX7_init) B.pre
  have hown : s.vm.findClass RX7 = some m.cls := findClass_of_methodNamed B.named
  have hlocks := B.notSynchronized
  have hin : meth.name = "<init>" := (name_of_methodNamed B.named B.method).1
  subst hsz
  have hD := hD0.self (sz := s.heap.size)
  generalize hAe : va_A [(h0, .inr (7, [.null, .int 0]))] s.heap.size = A at  hD ⊢
  have hA : ∀ q : Nat, s.heap.size ≤ q → A q := fun q h => by rw [← hAe]; exact Or.inr h
  have hS : va_S A s.heap s.heap [] := va_S.rf
  have hP : va_P (dC, dI) vwCl [(h0, .inr (7, [.null, .int 0]))] s.heap := hP
  have hl := lv_entry ([.ref h0, .int 402]) (n := 2) (Nat.le_of_ble_eq_true rfl)
  rw [lg_entry_eq]
  generalize (lg_sl ([.ref h0, .int 402]) ++ List.replicate (2 - (lg_sl ([.ref h0, .int 402])).length) Slot.unset).toArray = ls at hl ⊢
  have hl : lv_has ls 2 [(0, .ref h0), (1, .int 402)] := hl
  skip
  refine lv_aload_n hx hb dX7_init_0 rfl (lv_at hl 0 rfl) ?_
  refine W.objInit hx hb hown (hts (.methodLink RX7 3 objectInit) (by decide +kernel)) (hts (.instanceMethod objectInit) (by decide +kernel)) (hts (.code objectInit ⟨#[0xb1]⟩ 1 none) (by decide +kernel)) rfl (by rw [hml]; exact hl.1) rfl dX7_init_1 (Nat.le_of_ble_eq_true rfl) (Nat.le_of_ble_eq_true rfl) ?_
  refine W.eq (g2 := F0 m 4 ls []) rfl ?_
  refine lv_aload_n hx hb dX7_init_4 rfl (lv_at hl 0 rfl) ?_
  refine lv_iconst (v := 0) hx hb dX7_init_5 (by decide) ?_
  refine lv_iload_n hx hb dX7_init_6 rfl (lv_at hl 1 rfl) ?_
  refine va_mmax hx hb (by rw [hml]; exact hl.1.symm) hown (hts (.methodLink RX7 9 Lib.Math.max.name) (by decide +kernel)) (hts (.static Lib.Math.max.name) (by decide +kernel)) (hts (.initialized "java/lang/Math") (by decide +kernel)) (hts (.code Lib.Math.max.name Lib.Math.max.code 2 (some .int)) (by decide +kernel)) (Nat.le_of_ble_eq_true rfl) (Nat.le_of_ble_eq_true rfl) (Nat.le_of_ble_eq_true rfl) (Nat.le_of_ble_eq_true rfl) dX7_init_7 ?_
  refine zz_top (y := 402) (by decide) ?_
  refine va_newa (atype := .byte) (ty := .byte) (a0 := (402, .inl (fun _ => 0))) (N' := 402) hx hb (hts (.arrayClass .byte) (by decide +kernel)) rfl hK hP hD hS hA (fun cA => vp_cell_i cA 402 (fun _ => 0)) (by decide) (by decide) (Nat.le_of_ble_eq_true rfl) (Nat.le_of_ble_eq_true rfl) (Nat.le_of_ble_eq_true rfl) dX7_init_10 (fun q_1 k_2 H hK hP hD hS => ?_)
  have hP : va_P (dC, dI) vwCl [(h0, .inr (7, [.null, .int 0])), (q_1, .inl (k_2, 402, .inl (fun _ => 0)))] H := hP
  have hD : va_D A [(h0, .inr (7, [.null, .int 0])), (q_1, .inl (k_2, 402, .inl (fun _ => 0)))] := hD
  have hK : va_K (dC, dI) vwCl [(k_2, .byte)] s := hK
  refine W.widen (k := 1) (n := 402) (Nat.le_of_ble_eq_true rfl) (Nat.le_of_ble_eq_true rfl) ?_
  refine va_putF (D := (dC, dI)) (ci := 7) (v := .ref q_1) (ty := .array .byte) (C := RX7) (T := TX7) (N := 2) hx hb hts in_X7_init_X7 tyX7 tyX7_ok nmX7 hown hK hP hD hS 0 rfl rfl 0 (by decide) (hts (.fieldLink RX7 15 "ClayAccounts$Text" "bytes" "[B") (by decide +kernel)) (fun _ h9 => h9) rfl hin rfl (by decide +kernel) rfl rfl (Nat.le_of_ble_eq_true rfl) dX7_init_12 (fun H locs hP hD hS => ?_)
  have hP : va_P (dC, dI) vwCl [(h0, .inr (7, [.ref q_1, .int 0])), (q_1, .inl (k_2, 402, .inl (fun _ => 0)))] H := hP
  have hD : va_D A [(h0, .inr (7, [.ref q_1, .int 0])), (q_1, .inl (k_2, 402, .inl (fun _ => 0)))] := hD
  refine lv_aload_n hx hb dX7_init_15 rfl (lv_at hl 0 rfl) ?_
  refine lv_iconst (v := 0) hx hb dX7_init_16 (by decide) ?_
  refine va_put (D := (dC, dI)) (ci := 7) (v := .int 0) (ty := .int) (C := RX7) (T := TX7) (N := 2) hx hb hts in_X7_init_X7 tyX7 tyX7_ok nmX7 hown hK hP hD hS 0 rfl rfl 1 (by decide) (hts (.fieldLink RX7 21 "ClayAccounts$Text" "size" "I") (by decide +kernel)) (fun _ h9 => h9) rfl (by decide +kernel) rfl rfl (Nat.le_of_ble_eq_true rfl) dX7_init_17 (fun H locs hP hD hS => ?_)
  have hP : va_P (dC, dI) vwCl [(h0, .inr (7, [.ref q_1, .int 0])), (q_1, .inl (k_2, 402, .inl (fun _ => 0)))] H := hP
  have hD : va_D A [(h0, .inr (7, [.ref q_1, .int 0])), (q_1, .inl (k_2, 402, .inl (fun _ => 0)))] := hD
  have hP9 := hP.sub (ws' := [(h0, .inr (7, [.ref q_1, .int 0])), (q_1, .inl (k_2, 402, .inl (fun _ => 0)))]) [0, 1] rfl
  have hD9 := hD.sub (ws' := [(h0, .inr (7, [.ref q_1, .int 0])), (q_1, .inl (k_2, 402, .inl (fun _ => 0)))]) [0, 1] (by decide) rfl
  have hK9 := hK.sub (tys' := [(k_2, .byte)]) [0] rfl
  refine W.widen (k := 1) (n := 402) (Nat.le_of_ble_eq_true rfl) (Nat.le_of_ble_eq_true rfl) ?_
  exact W.vret hx hb hr (fun t ht hW => ⟨⟨(), rfl, trivial, q_1, k_2, by rw [ht]; exact hP9, va_K.moved hW.alike hK9, hD9⟩, hS.F ht⟩) hS.2.2 dX7_init_20
set_option maxHeartbeats 4000000 in
set_option maxRecDepth 100000 in
theorem c_Text_0 (l : Launch) (dC : Nat → ClassId) (dI : Nat → Nat → Nat) (h0 : Nat) (sz : Nat)  : Met l yX7_init wsX7_init ({ frames := 1, cells := 1, slots := 0, locals := 18 } : Room) (va_Pc [.ref h0, .int 0] (fun U => U.heap.size = sz ∧ zz_X U ∧ va_P (dC, dI) vwCl [(h0, .inr (7, [.null, .int 0]))] U.heap ∧ va_K (dC, dI) vwCl [] U ∧ va_D (fun _ => True) [(h0, .inr (7, [.null, .int 0]))])) (va_Qv (fun (_ : Unit) => True) (fun (_ : Unit) (t : State) => ∃ (qb : Nat) (kb : ClassId), va_P (dC, dI) vwCl [(h0, .inr (7, [.ref qb, .int 0])), (qb, .inl (kb, 0, .inl (fun _ => 0)))] t.heap ∧ va_K (dC, dI) vwCl [(kb, .byte)] t ∧ va_D (va_A [(h0, .inr (7, [.null, .int 0]))] sz) [(h0, .inr (7, [.ref qb, .int 0])), (qb, .inl (kb, 0, .inl (fun _ => 0)))]) (va_A [(h0, .inr (7, [.null, .int 0]))] sz)) 1 0 (va_A [(h0, .inr (7, [.null, .int 0]))] sz) := by
  refine Met.ofW (cc := cX7_init) (maxL := 2) (ret := none) (by decide) rfl ?_
  intro p e s m args below meth c s₁ B hml hv
  obtain ⟨rfl, hsz, hzX, hP, hK, hD0⟩ := hv
  have hx := B.exec
  have hb := B.bytes
  have hr := B.returns
  have hts := atoms_spec (ws := wsX7_init) B.pre
  have hown : s.vm.findClass RX7 = some m.cls := findClass_of_methodNamed B.named
  have hlocks := B.notSynchronized
  have hin : meth.name = "<init>" := (name_of_methodNamed B.named B.method).1
  subst hsz
  have hD := hD0.self (sz := s.heap.size)
  generalize hAe : va_A [(h0, .inr (7, [.null, .int 0]))] s.heap.size = A at  hD ⊢
  have hA : ∀ q : Nat, s.heap.size ≤ q → A q := fun q h => by rw [← hAe]; exact Or.inr h
  have hS : va_S A s.heap s.heap [] := va_S.rf
  have hP : va_P (dC, dI) vwCl [(h0, .inr (7, [.null, .int 0]))] s.heap := hP
  have hl := lv_entry ([.ref h0, .int 0]) (n := 2) (Nat.le_of_ble_eq_true rfl)
  rw [lg_entry_eq]
  generalize (lg_sl ([.ref h0, .int 0]) ++ List.replicate (2 - (lg_sl ([.ref h0, .int 0])).length) Slot.unset).toArray = ls at hl ⊢
  have hl : lv_has ls 2 [(0, .ref h0), (1, .int 0)] := hl
  skip
  refine lv_aload_n hx hb dX7_init_0 rfl (lv_at hl 0 rfl) ?_
  refine W.objInit hx hb hown (hts (.methodLink RX7 3 objectInit) (by decide +kernel)) (hts (.instanceMethod objectInit) (by decide +kernel)) (hts (.code objectInit ⟨#[0xb1]⟩ 1 none) (by decide +kernel)) rfl (by rw [hml]; exact hl.1) rfl dX7_init_1 (Nat.le_of_ble_eq_true rfl) (Nat.le_of_ble_eq_true rfl) ?_
  refine W.eq (g2 := F0 m 4 ls []) rfl ?_
  refine lv_aload_n hx hb dX7_init_4 rfl (lv_at hl 0 rfl) ?_
  refine lv_iconst (v := 0) hx hb dX7_init_5 (by decide) ?_
  refine lv_iload_n hx hb dX7_init_6 rfl (lv_at hl 1 rfl) ?_
  refine va_mmax hx hb (by rw [hml]; exact hl.1.symm) hown (hts (.methodLink RX7 9 Lib.Math.max.name) (by decide +kernel)) (hts (.static Lib.Math.max.name) (by decide +kernel)) (hts (.initialized "java/lang/Math") (by decide +kernel)) (hts (.code Lib.Math.max.name Lib.Math.max.code 2 (some .int)) (by decide +kernel)) (Nat.le_of_ble_eq_true rfl) (Nat.le_of_ble_eq_true rfl) (Nat.le_of_ble_eq_true rfl) (Nat.le_of_ble_eq_true rfl) dX7_init_7 ?_
  refine zz_top (y := 0) (by decide) ?_
  refine va_newa (atype := .byte) (ty := .byte) (a0 := (0, .inl (fun _ => 0))) (N' := 0) hx hb (hts (.arrayClass .byte) (by decide +kernel)) rfl hK hP hD hS hA (fun cA => vp_cell_i cA 0 (fun _ => 0)) (by decide) (by decide) (Nat.le_of_ble_eq_true rfl) (Nat.le_of_ble_eq_true rfl) (Nat.le_of_ble_eq_true rfl) dX7_init_10 (fun q_1 k_2 H hK hP hD hS => ?_)
  have hP : va_P (dC, dI) vwCl [(h0, .inr (7, [.null, .int 0])), (q_1, .inl (k_2, 0, .inl (fun _ => 0)))] H := hP
  have hD : va_D A [(h0, .inr (7, [.null, .int 0])), (q_1, .inl (k_2, 0, .inl (fun _ => 0)))] := hD
  have hK : va_K (dC, dI) vwCl [(k_2, .byte)] s := hK
  refine W.widen (k := 1) (n := 0) (Nat.le_of_ble_eq_true rfl) (Nat.le_of_ble_eq_true rfl) ?_
  refine va_putF (D := (dC, dI)) (ci := 7) (v := .ref q_1) (ty := .array .byte) (C := RX7) (T := TX7) (N := 2) hx hb hts in_X7_init_X7 tyX7 tyX7_ok nmX7 hown hK hP hD hS 0 rfl rfl 0 (by decide) (hts (.fieldLink RX7 15 "ClayAccounts$Text" "bytes" "[B") (by decide +kernel)) (fun _ h9 => h9) rfl hin rfl (by decide +kernel) rfl rfl (Nat.le_of_ble_eq_true rfl) dX7_init_12 (fun H locs hP hD hS => ?_)
  have hP : va_P (dC, dI) vwCl [(h0, .inr (7, [.ref q_1, .int 0])), (q_1, .inl (k_2, 0, .inl (fun _ => 0)))] H := hP
  have hD : va_D A [(h0, .inr (7, [.ref q_1, .int 0])), (q_1, .inl (k_2, 0, .inl (fun _ => 0)))] := hD
  refine lv_aload_n hx hb dX7_init_15 rfl (lv_at hl 0 rfl) ?_
  refine lv_iconst (v := 0) hx hb dX7_init_16 (by decide) ?_
  refine va_put (D := (dC, dI)) (ci := 7) (v := .int 0) (ty := .int) (C := RX7) (T := TX7) (N := 2) hx hb hts in_X7_init_X7 tyX7 tyX7_ok nmX7 hown hK hP hD hS 0 rfl rfl 1 (by decide) (hts (.fieldLink RX7 21 "ClayAccounts$Text" "size" "I") (by decide +kernel)) (fun _ h9 => h9) rfl (by decide +kernel) rfl rfl (Nat.le_of_ble_eq_true rfl) dX7_init_17 (fun H locs hP hD hS => ?_)
  have hP : va_P (dC, dI) vwCl [(h0, .inr (7, [.ref q_1, .int 0])), (q_1, .inl (k_2, 0, .inl (fun _ => 0)))] H := hP
  have hD : va_D A [(h0, .inr (7, [.ref q_1, .int 0])), (q_1, .inl (k_2, 0, .inl (fun _ => 0)))] := hD
  have hP9 := hP.sub (ws' := [(h0, .inr (7, [.ref q_1, .int 0])), (q_1, .inl (k_2, 0, .inl (fun _ => 0)))]) [0, 1] rfl
  have hD9 := hD.sub (ws' := [(h0, .inr (7, [.ref q_1, .int 0])), (q_1, .inl (k_2, 0, .inl (fun _ => 0)))]) [0, 1] (by decide) rfl
  have hK9 := hK.sub (tys' := [(k_2, .byte)]) [0] rfl
  refine W.widen (k := 1) (n := 0) (Nat.le_of_ble_eq_true rfl) (Nat.le_of_ble_eq_true rfl) ?_
  exact W.vret hx hb hr (fun t ht hW => ⟨⟨(), rfl, trivial, q_1, k_2, by rw [ht]; exact hP9, va_K.moved hW.alike hK9, hD9⟩, hS.F ht⟩) hS.2.2 dX7_init_20
set_option maxHeartbeats 4000000 in
set_option maxRecDepth 100000 in
theorem c_Text_200 (l : Launch) (dC : Nat → ClassId) (dI : Nat → Nat → Nat) (h0 : Nat) (sz : Nat)  : Met l yX7_init wsX7_init ({ frames := 1, cells := 1, slots := 200, locals := 18 } : Room) (va_Pc [.ref h0, .int 200] (fun U => U.heap.size = sz ∧ zz_X U ∧ va_P (dC, dI) vwCl [(h0, .inr (7, [.null, .int 0]))] U.heap ∧ va_K (dC, dI) vwCl [] U ∧ va_D (fun _ => True) [(h0, .inr (7, [.null, .int 0]))])) (va_Qv (fun (_ : Unit) => True) (fun (_ : Unit) (t : State) => ∃ (qb : Nat) (kb : ClassId), va_P (dC, dI) vwCl [(h0, .inr (7, [.ref qb, .int 0])), (qb, .inl (kb, 200, .inl (fun _ => 0)))] t.heap ∧ va_K (dC, dI) vwCl [(kb, .byte)] t ∧ va_D (va_A [(h0, .inr (7, [.null, .int 0]))] sz) [(h0, .inr (7, [.ref qb, .int 0])), (qb, .inl (kb, 200, .inl (fun _ => 0)))]) (va_A [(h0, .inr (7, [.null, .int 0]))] sz)) 1 200 (va_A [(h0, .inr (7, [.null, .int 0]))] sz) := by
  refine Met.ofW (cc := cX7_init) (maxL := 2) (ret := none) (by decide) rfl ?_
  intro p e s m args below meth c s₁ B hml hv
  obtain ⟨rfl, hsz, hzX, hP, hK, hD0⟩ := hv
  have hx := B.exec
  have hb := B.bytes
  have hr := B.returns
  have hts := atoms_spec (ws := wsX7_init) B.pre
  have hown : s.vm.findClass RX7 = some m.cls := findClass_of_methodNamed B.named
  have hlocks := B.notSynchronized
  have hin : meth.name = "<init>" := (name_of_methodNamed B.named B.method).1
  subst hsz
  have hD := hD0.self (sz := s.heap.size)
  generalize hAe : va_A [(h0, .inr (7, [.null, .int 0]))] s.heap.size = A at  hD ⊢
  have hA : ∀ q : Nat, s.heap.size ≤ q → A q := fun q h => by rw [← hAe]; exact Or.inr h
  have hS : va_S A s.heap s.heap [] := va_S.rf
  have hP : va_P (dC, dI) vwCl [(h0, .inr (7, [.null, .int 0]))] s.heap := hP
  have hl := lv_entry ([.ref h0, .int 200]) (n := 2) (Nat.le_of_ble_eq_true rfl)
  rw [lg_entry_eq]
  generalize (lg_sl ([.ref h0, .int 200]) ++ List.replicate (2 - (lg_sl ([.ref h0, .int 200])).length) Slot.unset).toArray = ls at hl ⊢
  have hl : lv_has ls 2 [(0, .ref h0), (1, .int 200)] := hl
  skip
  refine lv_aload_n hx hb dX7_init_0 rfl (lv_at hl 0 rfl) ?_
  refine W.objInit hx hb hown (hts (.methodLink RX7 3 objectInit) (by decide +kernel)) (hts (.instanceMethod objectInit) (by decide +kernel)) (hts (.code objectInit ⟨#[0xb1]⟩ 1 none) (by decide +kernel)) rfl (by rw [hml]; exact hl.1) rfl dX7_init_1 (Nat.le_of_ble_eq_true rfl) (Nat.le_of_ble_eq_true rfl) ?_
  refine W.eq (g2 := F0 m 4 ls []) rfl ?_
  refine lv_aload_n hx hb dX7_init_4 rfl (lv_at hl 0 rfl) ?_
  refine lv_iconst (v := 0) hx hb dX7_init_5 (by decide) ?_
  refine lv_iload_n hx hb dX7_init_6 rfl (lv_at hl 1 rfl) ?_
  refine va_mmax hx hb (by rw [hml]; exact hl.1.symm) hown (hts (.methodLink RX7 9 Lib.Math.max.name) (by decide +kernel)) (hts (.static Lib.Math.max.name) (by decide +kernel)) (hts (.initialized "java/lang/Math") (by decide +kernel)) (hts (.code Lib.Math.max.name Lib.Math.max.code 2 (some .int)) (by decide +kernel)) (Nat.le_of_ble_eq_true rfl) (Nat.le_of_ble_eq_true rfl) (Nat.le_of_ble_eq_true rfl) (Nat.le_of_ble_eq_true rfl) dX7_init_7 ?_
  refine zz_top (y := 200) (by decide) ?_
  refine va_newa (atype := .byte) (ty := .byte) (a0 := (200, .inl (fun _ => 0))) (N' := 200) hx hb (hts (.arrayClass .byte) (by decide +kernel)) rfl hK hP hD hS hA (fun cA => vp_cell_i cA 200 (fun _ => 0)) (by decide) (by decide) (Nat.le_of_ble_eq_true rfl) (Nat.le_of_ble_eq_true rfl) (Nat.le_of_ble_eq_true rfl) dX7_init_10 (fun q_1 k_2 H hK hP hD hS => ?_)
  have hP : va_P (dC, dI) vwCl [(h0, .inr (7, [.null, .int 0])), (q_1, .inl (k_2, 200, .inl (fun _ => 0)))] H := hP
  have hD : va_D A [(h0, .inr (7, [.null, .int 0])), (q_1, .inl (k_2, 200, .inl (fun _ => 0)))] := hD
  have hK : va_K (dC, dI) vwCl [(k_2, .byte)] s := hK
  refine W.widen (k := 1) (n := 200) (Nat.le_of_ble_eq_true rfl) (Nat.le_of_ble_eq_true rfl) ?_
  refine va_putF (D := (dC, dI)) (ci := 7) (v := .ref q_1) (ty := .array .byte) (C := RX7) (T := TX7) (N := 2) hx hb hts in_X7_init_X7 tyX7 tyX7_ok nmX7 hown hK hP hD hS 0 rfl rfl 0 (by decide) (hts (.fieldLink RX7 15 "ClayAccounts$Text" "bytes" "[B") (by decide +kernel)) (fun _ h9 => h9) rfl hin rfl (by decide +kernel) rfl rfl (Nat.le_of_ble_eq_true rfl) dX7_init_12 (fun H locs hP hD hS => ?_)
  have hP : va_P (dC, dI) vwCl [(h0, .inr (7, [.ref q_1, .int 0])), (q_1, .inl (k_2, 200, .inl (fun _ => 0)))] H := hP
  have hD : va_D A [(h0, .inr (7, [.ref q_1, .int 0])), (q_1, .inl (k_2, 200, .inl (fun _ => 0)))] := hD
  refine lv_aload_n hx hb dX7_init_15 rfl (lv_at hl 0 rfl) ?_
  refine lv_iconst (v := 0) hx hb dX7_init_16 (by decide) ?_
  refine va_put (D := (dC, dI)) (ci := 7) (v := .int 0) (ty := .int) (C := RX7) (T := TX7) (N := 2) hx hb hts in_X7_init_X7 tyX7 tyX7_ok nmX7 hown hK hP hD hS 0 rfl rfl 1 (by decide) (hts (.fieldLink RX7 21 "ClayAccounts$Text" "size" "I") (by decide +kernel)) (fun _ h9 => h9) rfl (by decide +kernel) rfl rfl (Nat.le_of_ble_eq_true rfl) dX7_init_17 (fun H locs hP hD hS => ?_)
  have hP : va_P (dC, dI) vwCl [(h0, .inr (7, [.ref q_1, .int 0])), (q_1, .inl (k_2, 200, .inl (fun _ => 0)))] H := hP
  have hD : va_D A [(h0, .inr (7, [.ref q_1, .int 0])), (q_1, .inl (k_2, 200, .inl (fun _ => 0)))] := hD
  have hP9 := hP.sub (ws' := [(h0, .inr (7, [.ref q_1, .int 0])), (q_1, .inl (k_2, 200, .inl (fun _ => 0)))]) [0, 1] rfl
  have hD9 := hD.sub (ws' := [(h0, .inr (7, [.ref q_1, .int 0])), (q_1, .inl (k_2, 200, .inl (fun _ => 0)))]) [0, 1] (by decide) rfl
  have hK9 := hK.sub (tys' := [(k_2, .byte)]) [0] rfl
  refine W.widen (k := 1) (n := 200) (Nat.le_of_ble_eq_true rfl) (Nat.le_of_ble_eq_true rfl) ?_
  exact W.vret hx hb hr (fun t ht hW => ⟨⟨(), rfl, trivial, q_1, k_2, by rw [ht]; exact hP9, va_K.moved hW.alike hK9, hD9⟩, hS.F ht⟩) hS.2.2 dX7_init_20
set_option maxHeartbeats 4000000 in
set_option maxRecDepth 100000 in
theorem c_Line (l : Launch) (dC : Nat → ClassId) (dI : Nat → Nat → Nat) (h0 : Nat) (sz : Nat)  : Met l yX2_init wsX2_init ({ frames := 1, cells := 0, slots := 0, locals := 15 } : Room) (va_Pc [.ref h0] (fun U => U.heap.size = sz ∧ zz_X U ∧ va_P (dC, dI) vwCl [(h0, .inr (2, [.int 0, .int 0, .int 0, .int 0, .int 0, .int 0]))] U.heap ∧ va_K (dC, dI) vwCl [] U ∧ va_D (fun _ => True) [(h0, .inr (2, [.int 0, .int 0, .int 0, .int 0, .int 0, .int 0]))])) (va_Qv (fun (_ : Unit) => True) (fun (_ : Unit) (t : State) => va_P (dC, dI) vwCl [(h0, .inr (2, [.int 0, .int 0, .int 0, .int 0, .int 0, .int 0]))] t.heap ∧ va_K (dC, dI) vwCl [] t ∧ va_D (va_A [(h0, .inr (2, [.int 0, .int 0, .int 0, .int 0, .int 0, .int 0]))] sz) [(h0, .inr (2, [.int 0, .int 0, .int 0, .int 0, .int 0, .int 0]))]) (va_A [(h0, .inr (2, [.int 0, .int 0, .int 0, .int 0, .int 0, .int 0]))] sz)) 0 0 (va_A [(h0, .inr (2, [.int 0, .int 0, .int 0, .int 0, .int 0, .int 0]))] sz) := by
  refine Met.ofW (cc := cX2_init) (maxL := 1) (ret := none) (by decide) rfl ?_
  intro p e s m args below meth c s₁ B hml hv
  obtain ⟨rfl, hsz, hzX, hP, hK, hD0⟩ := hv
  have hx := B.exec
  have hb := B.bytes
  have hr := B.returns
  have hts := atoms_spec (ws := wsX2_init) B.pre
  have hown : s.vm.findClass RX2 = some m.cls := findClass_of_methodNamed B.named
  have hlocks := B.notSynchronized
  have hin : meth.name = "<init>" := (name_of_methodNamed B.named B.method).1
  subst hsz
  have hD := hD0.self (sz := s.heap.size)
  generalize hAe : va_A [(h0, .inr (2, [.int 0, .int 0, .int 0, .int 0, .int 0, .int 0]))] s.heap.size = A at  hD ⊢
  have hA : ∀ q : Nat, s.heap.size ≤ q → A q := fun q h => by rw [← hAe]; exact Or.inr h
  have hS : va_S A s.heap s.heap [] := va_S.rf
  have hP : va_P (dC, dI) vwCl [(h0, .inr (2, [.int 0, .int 0, .int 0, .int 0, .int 0, .int 0]))] s.heap := hP
  have hl := lv_entry ([.ref h0]) (n := 1) (Nat.le_of_ble_eq_true rfl)
  rw [lg_entry_eq]
  generalize (lg_sl ([.ref h0]) ++ List.replicate (1 - (lg_sl ([.ref h0])).length) Slot.unset).toArray = ls at hl ⊢
  have hl : lv_has ls 1 [(0, .ref h0)] := hl
  skip
  refine lv_aload_n hx hb dX2_init_0 rfl (lv_at hl 0 rfl) ?_
  refine W.objInit hx hb hown (hts (.methodLink RX2 3 objectInit) (by decide +kernel)) (hts (.instanceMethod objectInit) (by decide +kernel)) (hts (.code objectInit ⟨#[0xb1]⟩ 1 none) (by decide +kernel)) rfl (by rw [hml]; exact hl.1) rfl dX2_init_1 (Nat.le_of_ble_eq_true rfl) (Nat.le_of_ble_eq_true rfl) ?_
  refine W.eq (g2 := F0 m 4 ls []) rfl ?_
  have hP9 := hP.sub (ws' := [(h0, .inr (2, [.int 0, .int 0, .int 0, .int 0, .int 0, .int 0]))]) [0] rfl
  have hD9 := hD.sub (ws' := [(h0, .inr (2, [.int 0, .int 0, .int 0, .int 0, .int 0, .int 0]))]) [0] (by decide) rfl
  have hK9 := hK.sub (tys' := []) [] rfl
  refine W.widen (k := 0) (n := 0) (Nat.le_of_ble_eq_true rfl) (Nat.le_of_ble_eq_true rfl) ?_
  exact W.vret hx hb hr (fun t ht hW => ⟨⟨(), rfl, trivial, by rw [ht]; exact hP9, va_K.moved hW.alike hK9, hD9⟩, hS.F ht⟩) hS.2.2 dX2_init_4
set_option maxHeartbeats 4000000 in
set_option maxRecDepth 100000 in
theorem c_Hole (l : Launch) (dC : Nat → ClassId) (dI : Nat → Nat → Nat) (h0 : Nat) (sz : Nat)  : Met l yX1_init wsX1_init ({ frames := 1, cells := 0, slots := 0, locals := 15 } : Room) (va_Pc [.ref h0] (fun U => U.heap.size = sz ∧ zz_X U ∧ va_P (dC, dI) vwCl [(h0, .inr (1, [.int 0, .int 0, .int 0, .int 0, .int 0, .int 0, .int 0]))] U.heap ∧ va_K (dC, dI) vwCl [] U ∧ va_D (fun _ => True) [(h0, .inr (1, [.int 0, .int 0, .int 0, .int 0, .int 0, .int 0, .int 0]))])) (va_Qv (fun (_ : Unit) => True) (fun (_ : Unit) (t : State) => va_P (dC, dI) vwCl [(h0, .inr (1, [.int 0, .int 0, .int 0, .int 0, .int 0, .int 0, .int 0]))] t.heap ∧ va_K (dC, dI) vwCl [] t ∧ va_D (va_A [(h0, .inr (1, [.int 0, .int 0, .int 0, .int 0, .int 0, .int 0, .int 0]))] sz) [(h0, .inr (1, [.int 0, .int 0, .int 0, .int 0, .int 0, .int 0, .int 0]))]) (va_A [(h0, .inr (1, [.int 0, .int 0, .int 0, .int 0, .int 0, .int 0, .int 0]))] sz)) 0 0 (va_A [(h0, .inr (1, [.int 0, .int 0, .int 0, .int 0, .int 0, .int 0, .int 0]))] sz) := by
  refine Met.ofW (cc := cX1_init) (maxL := 1) (ret := none) (by decide) rfl ?_
  intro p e s m args below meth c s₁ B hml hv
  obtain ⟨rfl, hsz, hzX, hP, hK, hD0⟩ := hv
  have hx := B.exec
  have hb := B.bytes
  have hr := B.returns
  have hts := atoms_spec (ws := wsX1_init) B.pre
  have hown : s.vm.findClass RX1 = some m.cls := findClass_of_methodNamed B.named
  have hlocks := B.notSynchronized
  have hin : meth.name = "<init>" := (name_of_methodNamed B.named B.method).1
  subst hsz
  have hD := hD0.self (sz := s.heap.size)
  generalize hAe : va_A [(h0, .inr (1, [.int 0, .int 0, .int 0, .int 0, .int 0, .int 0, .int 0]))] s.heap.size = A at  hD ⊢
  have hA : ∀ q : Nat, s.heap.size ≤ q → A q := fun q h => by rw [← hAe]; exact Or.inr h
  have hS : va_S A s.heap s.heap [] := va_S.rf
  have hP : va_P (dC, dI) vwCl [(h0, .inr (1, [.int 0, .int 0, .int 0, .int 0, .int 0, .int 0, .int 0]))] s.heap := hP
  have hl := lv_entry ([.ref h0]) (n := 1) (Nat.le_of_ble_eq_true rfl)
  rw [lg_entry_eq]
  generalize (lg_sl ([.ref h0]) ++ List.replicate (1 - (lg_sl ([.ref h0])).length) Slot.unset).toArray = ls at hl ⊢
  have hl : lv_has ls 1 [(0, .ref h0)] := hl
  skip
  refine lv_aload_n hx hb dX1_init_0 rfl (lv_at hl 0 rfl) ?_
  refine W.objInit hx hb hown (hts (.methodLink RX1 3 objectInit) (by decide +kernel)) (hts (.instanceMethod objectInit) (by decide +kernel)) (hts (.code objectInit ⟨#[0xb1]⟩ 1 none) (by decide +kernel)) rfl (by rw [hml]; exact hl.1) rfl dX1_init_1 (Nat.le_of_ble_eq_true rfl) (Nat.le_of_ble_eq_true rfl) ?_
  refine W.eq (g2 := F0 m 4 ls []) rfl ?_
  have hP9 := hP.sub (ws' := [(h0, .inr (1, [.int 0, .int 0, .int 0, .int 0, .int 0, .int 0, .int 0]))]) [0] rfl
  have hD9 := hD.sub (ws' := [(h0, .inr (1, [.int 0, .int 0, .int 0, .int 0, .int 0, .int 0, .int 0]))]) [0] (by decide) rfl
  have hK9 := hK.sub (tys' := []) [] rfl
  refine W.widen (k := 0) (n := 0) (Nat.le_of_ble_eq_true rfl) (Nat.le_of_ble_eq_true rfl) ?_
  exact W.vret hx hb hr (fun t ht hW => ⟨⟨(), rfl, trivial, by rw [ht]; exact hP9, va_K.moved hW.alike hK9, hD9⟩, hS.F ht⟩) hS.2.2 dX1_init_4
theorem in_X7_clear_X7 : ∀ w ∈ wsX70, w ∈ wsX7_clear := fun _ h => List.mem_cons_of_mem _ (List.mem_append_right _ h)
set_option maxHeartbeats 4000000 in
set_option maxRecDepth 100000 in
theorem c_clear (l : Launch) (dC : Nat → ClassId) (dI : Nat → Nat → Nat) (h0 : Nat) (ab : Nat) (k : Int32) (sz : Nat)  : Met l yX7_clear wsX7_clear ({ frames := 0, cells := 0, slots := 0, locals := 0 } : Room) (va_Pc [.ref h0] (fun U => U.heap.size = sz ∧ zz_X U ∧ va_P (dC, dI) vwCl [(h0, .inr (7, [.ref ab, .int k]))] U.heap ∧ va_K (dC, dI) vwCl [] U ∧ va_D (fun _ => True) [(h0, .inr (7, [.ref ab, .int k]))])) (va_Qv (fun (_ : Unit) => True) (fun (_ : Unit) (t : State) => va_P (dC, dI) vwCl [(h0, .inr (7, [.ref ab, .int 0]))] t.heap ∧ va_K (dC, dI) vwCl [] t ∧ va_D (va_A [(h0, .inr (7, [.ref ab, .int k]))] sz) [(h0, .inr (7, [.ref ab, .int 0]))]) (va_A [(h0, .inr (7, [.ref ab, .int k]))] sz)) 0 0 (va_A [(h0, .inr (7, [.ref ab, .int k]))] sz) := by
  refine Met.ofW (cc := cX7_clear) (maxL := 1) (ret := none) (by decide) rfl ?_
  intro p e s m args below meth c s₁ B hml hv
  obtain ⟨rfl, hsz, hzX, hP, hK, hD0⟩ := hv
  have hx := B.exec
  have hb := B.bytes
  have hr := B.returns
  have hts := atoms_spec (ws := wsX7_clear) B.pre
  have hown : s.vm.findClass RX7 = some m.cls := findClass_of_methodNamed B.named
  have hlocks := B.notSynchronized
  subst hsz
  have hD := hD0.self (sz := s.heap.size)
  generalize hAe : va_A [(h0, .inr (7, [.ref ab, .int k]))] s.heap.size = A at  hD ⊢
  have hA : ∀ q : Nat, s.heap.size ≤ q → A q := fun q h => by rw [← hAe]; exact Or.inr h
  have hS : va_S A s.heap s.heap [] := va_S.rf
  have hP : va_P (dC, dI) vwCl [(h0, .inr (7, [.ref ab, .int k]))] s.heap := hP
  have hl := lv_entry ([.ref h0]) (n := 1) (Nat.le_of_ble_eq_true rfl)
  rw [lg_entry_eq]
  generalize (lg_sl ([.ref h0]) ++ List.replicate (1 - (lg_sl ([.ref h0])).length) Slot.unset).toArray = ls at hl ⊢
  have hl : lv_has ls 1 [(0, .ref h0)] := hl
  skip
  refine lv_aload_n hx hb dX7_clear_0 rfl (lv_at hl 0 rfl) ?_
  refine lv_iconst (v := 0) hx hb dX7_clear_1 (by decide) ?_
  refine va_put (D := (dC, dI)) (ci := 7) (v := .int 0) (ty := .int) (C := RX7) (T := TX7) (N := 2) hx hb hts in_X7_clear_X7 tyX7 tyX7_ok nmX7 hown hK hP hD hS 0 rfl rfl 1 (by decide) (hts (.fieldLink RX7 21 "ClayAccounts$Text" "size" "I") (by decide +kernel)) (fun _ h9 => h9) rfl (by decide +kernel) rfl rfl (Nat.le_of_ble_eq_true rfl) dX7_clear_2 (fun H locs hP hD hS => ?_)
  have hP : va_P (dC, dI) vwCl [(h0, .inr (7, [.ref ab, .int 0]))] H := hP
  have hD : va_D A [(h0, .inr (7, [.ref ab, .int 0]))] := hD
  have hP9 := hP.sub (ws' := [(h0, .inr (7, [.ref ab, .int 0]))]) [0] rfl
  have hD9 := hD.sub (ws' := [(h0, .inr (7, [.ref ab, .int 0]))]) [0] (by decide) rfl
  have hK9 := hK.sub (tys' := []) [] rfl
  refine W.widen (k := 0) (n := 0) (Nat.le_of_ble_eq_true rfl) (Nat.le_of_ble_eq_true rfl) ?_
  exact W.vret hx hb hr (fun t ht hW => ⟨⟨(), rfl, trivial, by rw [ht]; exact hP9, va_K.moved hW.alike hK9, hD9⟩, hS.F ht⟩) hS.2.2 dX7_clear_5
theorem in_X8_init_X7 : ∀ w ∈ wsX70, w ∈ wsX8_init := fun _ h => List.mem_cons_of_mem _ (List.mem_append_left _ (List.mem_append_right _ h))
theorem in_X8_init_X8 : ∀ w ∈ wsX80, w ∈ wsX8_init := fun _ h => List.mem_cons_of_mem _ (List.mem_append_right _ h)
set_option maxHeartbeats 4000000 in
set_option maxRecDepth 100000 in
theorem c_Tokens (l : Launch) (dC : Nat → ClassId) (dI : Nat → Nat → Nat) (h0 : Nat) (sz : Nat)  : Met l yX8_init wsX8_init ({ frames := 2, cells := 2, slots := 2, locals := 39 } : Room) (va_Pc [.ref h0] (fun U => U.heap.size = sz ∧ zz_X U ∧ va_P (dC, dI) vwCl [(h0, .inr (8, [.int 0, .int 0, .long 0, .int 0, .int 0, .int 0, .int 0, .null, .int 0, .int 0, .int 0]))] U.heap ∧ va_K (dC, dI) vwCl [] U ∧ va_D (fun _ => True) [(h0, .inr (8, [.int 0, .int 0, .long 0, .int 0, .int 0, .int 0, .int 0, .null, .int 0, .int 0, .int 0]))])) (va_Qv (fun (_ : Unit) => True) (fun (_ : Unit) (t : State) => ∃ (qt : Nat), va_P (dC, dI) vwCl [(h0, .inr (8, [.int 0, .int 0, .long 0, .int 0, .int 0, .int 0, .int 0, .ref qt, .int 0, .int 0, .int 0]))] t.heap ∧ va_K (dC, dI) vwCl [] t ∧ va_D (va_A [(h0, .inr (8, [.int 0, .int 0, .long 0, .int 0, .int 0, .int 0, .int 0, .null, .int 0, .int 0, .int 0]))] sz) [(h0, .inr (8, [.int 0, .int 0, .long 0, .int 0, .int 0, .int 0, .int 0, .ref qt, .int 0, .int 0, .int 0]))]) (va_A [(h0, .inr (8, [.int 0, .int 0, .long 0, .int 0, .int 0, .int 0, .int 0, .null, .int 0, .int 0, .int 0]))] sz)) 2 2 (va_A [(h0, .inr (8, [.int 0, .int 0, .long 0, .int 0, .int 0, .int 0, .int 0, .null, .int 0, .int 0, .int 0]))] sz) := by
  refine Met.ofW (cc := cX8_init) (maxL := 1) (ret := none) (by decide) rfl ?_
  intro p e s m args below meth c s₁ B hml hv
  obtain ⟨rfl, hsz, hzX, hP, hK, hD0⟩ := hv
  have hx := B.exec
  have hb := B.bytes
  have hr := B.returns
  have hts := atoms_spec (ws := wsX8_init) B.pre
  have hown : s.vm.findClass RX8 = some m.cls := findClass_of_methodNamed B.named
  have hlocks := B.notSynchronized
  have hin : meth.name = "<init>" := (name_of_methodNamed B.named B.method).1
  subst hsz
  have hD := hD0.self (sz := s.heap.size)
  generalize hAe : va_A [(h0, .inr (8, [.int 0, .int 0, .long 0, .int 0, .int 0, .int 0, .int 0, .null, .int 0, .int 0, .int 0]))] s.heap.size = A at  hD ⊢
  have hA : ∀ q : Nat, s.heap.size ≤ q → A q := fun q h => by rw [← hAe]; exact Or.inr h
  have hS : va_S A s.heap s.heap [] := va_S.rf
  have hP : va_P (dC, dI) vwCl [(h0, .inr (8, [.int 0, .int 0, .long 0, .int 0, .int 0, .int 0, .int 0, .null, .int 0, .int 0, .int 0]))] s.heap := hP
  have hl := lv_entry ([.ref h0]) (n := 1) (Nat.le_of_ble_eq_true rfl)
  rw [lg_entry_eq]
  generalize (lg_sl ([.ref h0]) ++ List.replicate (1 - (lg_sl ([.ref h0])).length) Slot.unset).toArray = ls at hl ⊢
  have hl : lv_has ls 1 [(0, .ref h0)] := hl
  skip
  refine lv_aload_n hx hb dX8_init_0 rfl (lv_at hl 0 rfl) ?_
  refine W.objInit hx hb hown (hts (.methodLink RX8 3 objectInit) (by decide +kernel)) (hts (.instanceMethod objectInit) (by decide +kernel)) (hts (.code objectInit ⟨#[0xb1]⟩ 1 none) (by decide +kernel)) rfl (by rw [hml]; exact hl.1) rfl dX8_init_1 (Nat.le_of_ble_eq_true rfl) (Nat.le_of_ble_eq_true rfl) ?_
  refine W.eq (g2 := F0 m 4 ls []) rfl ?_
  refine lv_aload_n hx hb dX8_init_4 rfl (lv_at hl 0 rfl) ?_
  refine va_new (ci := 7) (fs := [.null, .int 0]) (C := RX7) (T := TX7) (N := 2) hx hb hts in_X8_init_X7 tyX7 tyX7_ok hown (hts (.classLink RX8 9 RX7) (by decide +kernel)) (hts (.instantiable RX7 2) (by decide +kernel)) (hts (.initialized RX7) (by decide +kernel)) hK hP hD hS hA rfl (fun j hj => zz_defX7 j hj) (Nat.le_of_ble_eq_true rfl) (Nat.le_of_ble_eq_true rfl) dX8_init_5 (fun q_1 H hP hD hS => ?_)
  have hP : va_P (dC, dI) vwCl [(h0, .inr (8, [.int 0, .int 0, .long 0, .int 0, .int 0, .int 0, .int 0, .null, .int 0, .int 0, .int 0])), (q_1, .inr (7, [.null, .int 0]))] H := hP
  have hD : va_D A [(h0, .inr (8, [.int 0, .int 0, .long 0, .int 0, .int 0, .int 0, .int 0, .null, .int 0, .int 0, .int 0])), (q_1, .inr (7, [.null, .int 0]))] := hD
  refine W.widen (k := 1) (n := 2) (Nat.le_of_ble_eq_true rfl) (Nat.le_of_ble_eq_true rfl) ?_
  refine lv_dup hx hb dX8_init_8 rfl ?_
  refine lv_iconst (v := 0) hx hb dX8_init_9 (by decide) ?_
  have hPc := hP.sub (ws' := [(q_1, .inr (7, [.null, .int 0]))]) [1] rfl
  have hDc := hD.sub (ws' := [(q_1, .inr (7, [.null, .int 0]))]) [1] (by decide) rfl
  have hKc := hK.sub (tys' := []) [] rfl
  have hFc := va_free (wc := [(q_1, .inr (7, [.null, .int 0]))]) hD hS hA [1] rfl
  refine va_callv (va_runI (As := [.int 0]) (rest := [.ref q_1, .ref h0]) ⟨hx, hb, hml, hown, hts⟩ (c_Text_0 l dC dI q_1 H.size ) (cwI 1 hts gX8_init_X7_init rfl rfl rfl (hts (.initialized RX7) (by decide +kernel)) (hts (.methodLink RX8 11 yX7_init) (by decide +kernel)) (hts (.instanceMethod yX7_init) (by decide +kernel)) rfl (by decide +kernel) ⟨Nat.le_of_ble_eq_true rfl, Nat.le_of_ble_eq_true rfl⟩) ⟨fun a U g mk q => by obtain ⟨q0, q1, qX, qP, qK, qD⟩ := q; exact ⟨q0, q1, zz_X.same (u := U) (U := U.calling g mk a) rfl qX, qP, va_K.moved (u := U) (U := U.calling g mk a) (Vm.Alike.refl U.vm) qK, qD⟩, fun U hU hW => ⟨rfl, by rw [hU], zz_X.warm hW hzX, by rw [hU]; exact hPc, va_K.moved hW.alike hKc, hDc.weaken (fun _ _ _ _ => trivial)⟩⟩ rfl rfl hl.1 rfl (lv_room (Nat.le_of_ble_eq_true rfl)) dX8_init_10 ⟨Nat.le_of_ble_eq_true rfl, Nat.le_of_ble_eq_true rfl⟩) hS (fun q _ h => hFc q h) hFc (fun u t H1 locs ht hvm hw hB hz1 hk1 hS => ?_)
  obtain ⟨q_2, k_3, hP1, hK1, hD1⟩ := hB
  rw [ht] at hP1
  have hK1 := va_K.moved hvm.symm hK1
  obtain ⟨hP, hD⟩ := va_join (wr := [(h0, .inr (8, [.int 0, .int 0, .long 0, .int 0, .int 0, .int 0, .int 0, .null, .int 0, .int 0, .int 0]))]) (w1 := [(q_1, .inr (7, [.ref q_2, .int 0])), (q_2, .inl (k_3, 0, .inl (fun _ => 0)))]) hP hD [1] [0] rfl rfl (by decide) (by decide) hk1 hFc hP1 hD1
  have hK := (hK.sub (tys' := []) [] rfl).app (hK1.sub (tys' := [(k_3, .byte)]) [0] rfl)
  generalize H1 = H at hP hS ⊢
  have hP : va_P (dC, dI) vwCl [(h0, .inr (8, [.int 0, .int 0, .long 0, .int 0, .int 0, .int 0, .int 0, .null, .int 0, .int 0, .int 0])), (q_1, .inr (7, [.ref q_2, .int 0])), (q_2, .inl (k_3, 0, .inl (fun _ => 0)))] H := hP
  have hD : va_D A [(h0, .inr (8, [.int 0, .int 0, .long 0, .int 0, .int 0, .int 0, .int 0, .null, .int 0, .int 0, .int 0])), (q_1, .inr (7, [.ref q_2, .int 0])), (q_2, .inl (k_3, 0, .inl (fun _ => 0)))] := hD
  have hK : va_K (dC, dI) vwCl [(k_3, .byte)] s := hK
  refine W.widen (k := 2) (n := 2) (Nat.le_of_ble_eq_true rfl) (Nat.le_of_ble_eq_true rfl) ?_
  refine va_put (D := (dC, dI)) (ci := 8) (v := .ref q_1) (ty := .object "ClayAccounts$Text") (C := RX8) (T := TX8) (N := 11) hx hb hts in_X8_init_X8 tyX8 tyX8_ok nmX8 hown hK hP hD hS 0 rfl rfl 7 (by decide) (hts (.fieldLink RX8 14 "ClayAccounts$Tokens" "text" "LClayAccounts$Text;") (by decide +kernel)) (fun _ h9 => h9) rfl (by decide +kernel) rfl rfl (Nat.le_of_ble_eq_true rfl) dX8_init_13 (fun H locs hP hD hS => ?_)
  have hP : va_P (dC, dI) vwCl [(h0, .inr (8, [.int 0, .int 0, .long 0, .int 0, .int 0, .int 0, .int 0, .ref q_1, .int 0, .int 0, .int 0])), (q_1, .inr (7, [.ref q_2, .int 0])), (q_2, .inl (k_3, 0, .inl (fun _ => 0)))] H := hP
  have hD : va_D A [(h0, .inr (8, [.int 0, .int 0, .long 0, .int 0, .int 0, .int 0, .int 0, .ref q_1, .int 0, .int 0, .int 0])), (q_1, .inr (7, [.ref q_2, .int 0])), (q_2, .inl (k_3, 0, .inl (fun _ => 0)))] := hD
  have hP9 := hP.sub (ws' := [(h0, .inr (8, [.int 0, .int 0, .long 0, .int 0, .int 0, .int 0, .int 0, .ref q_1, .int 0, .int 0, .int 0]))]) [0] rfl
  have hD9 := hD.sub (ws' := [(h0, .inr (8, [.int 0, .int 0, .long 0, .int 0, .int 0, .int 0, .int 0, .ref q_1, .int 0, .int 0, .int 0]))]) [0] (by decide) rfl
  have hK9 := hK.sub (tys' := []) [] rfl
  refine W.widen (k := 2) (n := 2) (Nat.le_of_ble_eq_true rfl) (Nat.le_of_ble_eq_true rfl) ?_
  exact W.vret hx hb hr (fun t ht hW => ⟨⟨(), rfl, trivial, q_1, by rw [ht]; exact hP9, va_K.moved hW.alike hK9, hD9⟩, hS.F ht⟩) hS.2.2 dX8_init_16
theorem in_X6_init_X6 : ∀ w ∈ wsX60, w ∈ wsX6_init := fun _ h => List.mem_cons_of_mem _ (List.mem_append_left _ (List.mem_append_right _ h))
theorem in_X6_init_X8 : ∀ w ∈ wsX80, w ∈ wsX6_init := fun _ h => List.mem_cons_of_mem _ (List.mem_append_left _ (List.mem_append_left _ (List.mem_append_right _ h)))
set_option maxHeartbeats 4000000 in
set_option maxRecDepth 100000 in
theorem c_TabletReader (l : Launch) (dC : Nat → ClassId) (dI : Nat → Nat → Nat) (h0 : Nat) (sz : Nat)  : Met l yX6_init wsX6_init ({ frames := 3, cells := 3, slots := 13, locals := 59 } : Room) (va_Pc [.ref h0] (fun U => U.heap.size = sz ∧ zz_X U ∧ va_P (dC, dI) vwCl [(h0, .inr (6, [.null, .int 0, .int 0, .int 0, .int 0, .int 0, .int 0, .int 0]))] U.heap ∧ va_K (dC, dI) vwCl [] U ∧ va_D (fun _ => True) [(h0, .inr (6, [.null, .int 0, .int 0, .int 0, .int 0, .int 0, .int 0, .int 0]))])) (va_Qv (fun (_ : Unit) => True) (fun (_ : Unit) (t : State) => va_P (dC, dI) vwCl [] t.heap ∧ va_K (dC, dI) vwCl [] t ∧ va_D (va_A [(h0, .inr (6, [.null, .int 0, .int 0, .int 0, .int 0, .int 0, .int 0, .int 0]))] sz) []) (va_A [(h0, .inr (6, [.null, .int 0, .int 0, .int 0, .int 0, .int 0, .int 0, .int 0]))] sz)) 3 13 (va_A [(h0, .inr (6, [.null, .int 0, .int 0, .int 0, .int 0, .int 0, .int 0, .int 0]))] sz) := by
  refine Met.ofW (cc := cX6_init) (maxL := 1) (ret := none) (by decide) rfl ?_
  intro p e s m args below meth c s₁ B hml hv
  obtain ⟨rfl, hsz, hzX, hP, hK, hD0⟩ := hv
  have hx := B.exec
  have hb := B.bytes
  have hr := B.returns
  have hts := atoms_spec (ws := wsX6_init) B.pre
  have hown : s.vm.findClass RX6 = some m.cls := findClass_of_methodNamed B.named
  have hlocks := B.notSynchronized
  have hin : meth.name = "<init>" := (name_of_methodNamed B.named B.method).1
  subst hsz
  have hD := hD0.self (sz := s.heap.size)
  generalize hAe : va_A [(h0, .inr (6, [.null, .int 0, .int 0, .int 0, .int 0, .int 0, .int 0, .int 0]))] s.heap.size = A at  hD ⊢
  have hA : ∀ q : Nat, s.heap.size ≤ q → A q := fun q h => by rw [← hAe]; exact Or.inr h
  have hS : va_S A s.heap s.heap [] := va_S.rf
  have hP : va_P (dC, dI) vwCl [(h0, .inr (6, [.null, .int 0, .int 0, .int 0, .int 0, .int 0, .int 0, .int 0]))] s.heap := hP
  have hl := lv_entry ([.ref h0]) (n := 1) (Nat.le_of_ble_eq_true rfl)
  rw [lg_entry_eq]
  generalize (lg_sl ([.ref h0]) ++ List.replicate (1 - (lg_sl ([.ref h0])).length) Slot.unset).toArray = ls at hl ⊢
  have hl : lv_has ls 1 [(0, .ref h0)] := hl
  skip
  refine lv_aload_n hx hb dX6_init_0 rfl (lv_at hl 0 rfl) ?_
  refine W.objInit hx hb hown (hts (.methodLink RX6 3 objectInit) (by decide +kernel)) (hts (.instanceMethod objectInit) (by decide +kernel)) (hts (.code objectInit ⟨#[0xb1]⟩ 1 none) (by decide +kernel)) rfl (by rw [hml]; exact hl.1) rfl dX6_init_1 (Nat.le_of_ble_eq_true rfl) (Nat.le_of_ble_eq_true rfl) ?_
  refine W.eq (g2 := F0 m 4 ls []) rfl ?_
  refine lv_aload_n hx hb dX6_init_4 rfl (lv_at hl 0 rfl) ?_
  refine va_new (ci := 8) (fs := [.int 0, .int 0, .long 0, .int 0, .int 0, .int 0, .int 0, .null, .int 0, .int 0, .int 0]) (C := RX8) (T := TX8) (N := 11) hx hb hts in_X6_init_X8 tyX8 tyX8_ok hown (hts (.classLink RX6 9 RX8) (by decide +kernel)) (hts (.instantiable RX8 11) (by decide +kernel)) (hts (.initialized RX8) (by decide +kernel)) hK hP hD hS hA rfl (fun j hj => zz_defX8 j hj) (Nat.le_of_ble_eq_true rfl) (Nat.le_of_ble_eq_true rfl) dX6_init_5 (fun q_1 H hP hD hS => ?_)
  have hP : va_P (dC, dI) vwCl [(h0, .inr (6, [.null, .int 0, .int 0, .int 0, .int 0, .int 0, .int 0, .int 0])), (q_1, .inr (8, [.int 0, .int 0, .long 0, .int 0, .int 0, .int 0, .int 0, .null, .int 0, .int 0, .int 0]))] H := hP
  have hD : va_D A [(h0, .inr (6, [.null, .int 0, .int 0, .int 0, .int 0, .int 0, .int 0, .int 0])), (q_1, .inr (8, [.int 0, .int 0, .long 0, .int 0, .int 0, .int 0, .int 0, .null, .int 0, .int 0, .int 0]))] := hD
  refine W.widen (k := 1) (n := 11) (Nat.le_of_ble_eq_true rfl) (Nat.le_of_ble_eq_true rfl) ?_
  refine lv_dup hx hb dX6_init_8 rfl ?_
  have hPc := hP.sub (ws' := [(q_1, .inr (8, [.int 0, .int 0, .long 0, .int 0, .int 0, .int 0, .int 0, .null, .int 0, .int 0, .int 0]))]) [1] rfl
  have hDc := hD.sub (ws' := [(q_1, .inr (8, [.int 0, .int 0, .long 0, .int 0, .int 0, .int 0, .int 0, .null, .int 0, .int 0, .int 0]))]) [1] (by decide) rfl
  have hKc := hK.sub (tys' := []) [] rfl
  have hFc := va_free (wc := [(q_1, .inr (8, [.int 0, .int 0, .long 0, .int 0, .int 0, .int 0, .int 0, .null, .int 0, .int 0, .int 0]))]) hD hS hA [1] rfl
  refine va_callv (va_runIN (As := []) (rest := [.ref q_1, .ref h0]) ⟨hx, hb, hml, hown, hts⟩ (c_Tokens l dC dI q_1 H.size ) ⟨va_cnB 0 hts gX6_init_X8_init_n11 rfl rfl rfl hzX.n_RX6_11 (hts (.initialized RX8) (by decide +kernel)) (by decide +kernel) ⟨Nat.le_of_ble_eq_true rfl, Nat.le_of_ble_eq_true rfl⟩, rfl, hts (.instanceMethod yX8_init) (by decide +kernel)⟩ ⟨fun a U g mk q => by obtain ⟨q0, q1, qX, qP, qK, qD⟩ := q; exact ⟨q0, q1, zz_X.same (u := U) (U := U.calling g mk a) rfl qX, qP, va_K.moved (u := U) (U := U.calling g mk a) (Vm.Alike.refl U.vm) qK, qD⟩, fun U hU hW => ⟨rfl, by rw [hU], zz_X.warm hW hzX, by rw [hU]; exact hPc, va_K.moved hW.alike hKc, hDc.weaken (fun _ _ _ _ => trivial)⟩⟩ rfl rfl hl.1 rfl (lv_room (Nat.le_of_ble_eq_true rfl)) dX6_init_9 ⟨Nat.le_of_ble_eq_true rfl, Nat.le_of_ble_eq_true rfl⟩) hS (fun q _ h => hFc q h) hFc (fun u t H1 locs ht hvm hw hB hz1 hk1 hS => ?_)
  obtain ⟨q_2, hP1, hK1, hD1⟩ := hB
  rw [ht] at hP1
  have hK1 := va_K.moved hvm.symm hK1
  obtain ⟨hP, hD⟩ := va_join (wr := [(h0, .inr (6, [.null, .int 0, .int 0, .int 0, .int 0, .int 0, .int 0, .int 0]))]) (w1 := [(q_1, .inr (8, [.int 0, .int 0, .long 0, .int 0, .int 0, .int 0, .int 0, .ref q_2, .int 0, .int 0, .int 0]))]) hP hD [1] [0] rfl rfl (by decide) (by decide) hk1 hFc hP1 hD1
  have hK := (hK.sub (tys' := []) [] rfl).app (hK1.sub (tys' := []) [] rfl)
  generalize H1 = H at hP hS ⊢
  have hP : va_P (dC, dI) vwCl [(h0, .inr (6, [.null, .int 0, .int 0, .int 0, .int 0, .int 0, .int 0, .int 0])), (q_1, .inr (8, [.int 0, .int 0, .long 0, .int 0, .int 0, .int 0, .int 0, .ref q_2, .int 0, .int 0, .int 0]))] H := hP
  have hD : va_D A [(h0, .inr (6, [.null, .int 0, .int 0, .int 0, .int 0, .int 0, .int 0, .int 0])), (q_1, .inr (8, [.int 0, .int 0, .long 0, .int 0, .int 0, .int 0, .int 0, .ref q_2, .int 0, .int 0, .int 0]))] := hD
  have hK : va_K (dC, dI) vwCl [] s := hK
  refine W.widen (k := 3) (n := 13) (Nat.le_of_ble_eq_true rfl) (Nat.le_of_ble_eq_true rfl) ?_
  refine va_putF (D := (dC, dI)) (ci := 6) (v := .ref q_1) (ty := .object "ClayAccounts$Tokens") (C := RX6) (T := TX6) (N := 8) hx hb hts in_X6_init_X6 tyX6 tyX6_ok nmX6 hown hK hP hD hS 0 rfl rfl 0 (by decide) (hts (.fieldLink RX6 12 "ClayAccounts$TabletReader" "tokens" "LClayAccounts$Tokens;") (by decide +kernel)) (fun _ h9 => h9) rfl hin rfl (by decide +kernel) rfl rfl (Nat.le_of_ble_eq_true rfl) dX6_init_12 (fun H locs hP hD hS => ?_)
  have hP : va_P (dC, dI) vwCl [(h0, .inr (6, [.ref q_1, .int 0, .int 0, .int 0, .int 0, .int 0, .int 0, .int 0])), (q_1, .inr (8, [.int 0, .int 0, .long 0, .int 0, .int 0, .int 0, .int 0, .ref q_2, .int 0, .int 0, .int 0]))] H := hP
  have hD : va_D A [(h0, .inr (6, [.ref q_1, .int 0, .int 0, .int 0, .int 0, .int 0, .int 0, .int 0])), (q_1, .inr (8, [.int 0, .int 0, .long 0, .int 0, .int 0, .int 0, .int 0, .ref q_2, .int 0, .int 0, .int 0]))] := hD
  have hP9 := hP.sub (ws' := []) [] rfl
  have hD9 := hD.sub (ws' := []) [] (by decide) rfl
  have hK9 := hK.sub (tys' := []) [] rfl
  refine W.widen (k := 3) (n := 13) (Nat.le_of_ble_eq_true rfl) (Nat.le_of_ble_eq_true rfl) ?_
  exact W.vret hx hb hr (fun t ht hW => ⟨⟨(), rfl, trivial, by rw [ht]; exact hP9, va_K.moved hW.alike hK9, hD9⟩, hS.F ht⟩) hS.2.2 dX6_init_15
theorem in_X10_init_X10 : ∀ w ∈ wsX100, w ∈ wsX10_init := fun _ h => List.mem_cons_of_mem _ (List.mem_append_left _ (List.mem_append_right _ h))
theorem in_X10_init_X8 : ∀ w ∈ wsX80, w ∈ wsX10_init := fun _ h => List.mem_cons_of_mem _ (List.mem_append_left _ (List.mem_append_left _ (List.mem_append_right _ h)))
set_option maxHeartbeats 4000000 in
set_option maxRecDepth 100000 in
theorem c_UnitsReader (l : Launch) (dC : Nat → ClassId) (dI : Nat → Nat → Nat) (h0 : Nat) (sz : Nat)  : Met l yX10_init wsX10_init ({ frames := 3, cells := 3, slots := 13, locals := 59 } : Room) (va_Pc [.ref h0] (fun U => U.heap.size = sz ∧ zz_X U ∧ va_P (dC, dI) vwCl [(h0, .inr (10, [.null, .int 0, .int 0]))] U.heap ∧ va_K (dC, dI) vwCl [] U ∧ va_D (fun _ => True) [(h0, .inr (10, [.null, .int 0, .int 0]))])) (va_Qv (fun (_ : Unit) => True) (fun (_ : Unit) (t : State) => ∃ (tk : Nat) (tt : Nat), va_P (dC, dI) vwCl [(h0, .inr (10, [.ref tk, .int 0, .int 0])), (tk, .inr (8, [.int 0, .int 0, .long 0, .int 0, .int 0, .int 0, .int 0, .ref tt, .int 0, .int 0, .int 0]))] t.heap ∧ va_K (dC, dI) vwCl [] t ∧ va_D (va_A [(h0, .inr (10, [.null, .int 0, .int 0]))] sz) [(h0, .inr (10, [.ref tk, .int 0, .int 0])), (tk, .inr (8, [.int 0, .int 0, .long 0, .int 0, .int 0, .int 0, .int 0, .ref tt, .int 0, .int 0, .int 0]))]) (va_A [(h0, .inr (10, [.null, .int 0, .int 0]))] sz)) 3 13 (va_A [(h0, .inr (10, [.null, .int 0, .int 0]))] sz) := by
  refine Met.ofW (cc := cX10_init) (maxL := 1) (ret := none) (by decide) rfl ?_
  intro p e s m args below meth c s₁ B hml hv
  obtain ⟨rfl, hsz, hzX, hP, hK, hD0⟩ := hv
  have hx := B.exec
  have hb := B.bytes
  have hr := B.returns
  have hts := atoms_spec (ws := wsX10_init) B.pre
  have hown : s.vm.findClass RX10 = some m.cls := findClass_of_methodNamed B.named
  have hlocks := B.notSynchronized
  have hin : meth.name = "<init>" := (name_of_methodNamed B.named B.method).1
  subst hsz
  have hD := hD0.self (sz := s.heap.size)
  generalize hAe : va_A [(h0, .inr (10, [.null, .int 0, .int 0]))] s.heap.size = A at  hD ⊢
  have hA : ∀ q : Nat, s.heap.size ≤ q → A q := fun q h => by rw [← hAe]; exact Or.inr h
  have hS : va_S A s.heap s.heap [] := va_S.rf
  have hP : va_P (dC, dI) vwCl [(h0, .inr (10, [.null, .int 0, .int 0]))] s.heap := hP
  have hl := lv_entry ([.ref h0]) (n := 1) (Nat.le_of_ble_eq_true rfl)
  rw [lg_entry_eq]
  generalize (lg_sl ([.ref h0]) ++ List.replicate (1 - (lg_sl ([.ref h0])).length) Slot.unset).toArray = ls at hl ⊢
  have hl : lv_has ls 1 [(0, .ref h0)] := hl
  skip
  refine lv_aload_n hx hb dX10_init_0 rfl (lv_at hl 0 rfl) ?_
  refine W.objInit hx hb hown (hts (.methodLink RX10 3 objectInit) (by decide +kernel)) (hts (.instanceMethod objectInit) (by decide +kernel)) (hts (.code objectInit ⟨#[0xb1]⟩ 1 none) (by decide +kernel)) rfl (by rw [hml]; exact hl.1) rfl dX10_init_1 (Nat.le_of_ble_eq_true rfl) (Nat.le_of_ble_eq_true rfl) ?_
  refine W.eq (g2 := F0 m 4 ls []) rfl ?_
  refine lv_aload_n hx hb dX10_init_4 rfl (lv_at hl 0 rfl) ?_
  refine va_new (ci := 8) (fs := [.int 0, .int 0, .long 0, .int 0, .int 0, .int 0, .int 0, .null, .int 0, .int 0, .int 0]) (C := RX8) (T := TX8) (N := 11) hx hb hts in_X10_init_X8 tyX8 tyX8_ok hown (hts (.classLink RX10 9 RX8) (by decide +kernel)) (hts (.instantiable RX8 11) (by decide +kernel)) (hts (.initialized RX8) (by decide +kernel)) hK hP hD hS hA rfl (fun j hj => zz_defX8 j hj) (Nat.le_of_ble_eq_true rfl) (Nat.le_of_ble_eq_true rfl) dX10_init_5 (fun q_1 H hP hD hS => ?_)
  have hP : va_P (dC, dI) vwCl [(h0, .inr (10, [.null, .int 0, .int 0])), (q_1, .inr (8, [.int 0, .int 0, .long 0, .int 0, .int 0, .int 0, .int 0, .null, .int 0, .int 0, .int 0]))] H := hP
  have hD : va_D A [(h0, .inr (10, [.null, .int 0, .int 0])), (q_1, .inr (8, [.int 0, .int 0, .long 0, .int 0, .int 0, .int 0, .int 0, .null, .int 0, .int 0, .int 0]))] := hD
  refine W.widen (k := 1) (n := 11) (Nat.le_of_ble_eq_true rfl) (Nat.le_of_ble_eq_true rfl) ?_
  refine lv_dup hx hb dX10_init_8 rfl ?_
  have hPc := hP.sub (ws' := [(q_1, .inr (8, [.int 0, .int 0, .long 0, .int 0, .int 0, .int 0, .int 0, .null, .int 0, .int 0, .int 0]))]) [1] rfl
  have hDc := hD.sub (ws' := [(q_1, .inr (8, [.int 0, .int 0, .long 0, .int 0, .int 0, .int 0, .int 0, .null, .int 0, .int 0, .int 0]))]) [1] (by decide) rfl
  have hKc := hK.sub (tys' := []) [] rfl
  have hFc := va_free (wc := [(q_1, .inr (8, [.int 0, .int 0, .long 0, .int 0, .int 0, .int 0, .int 0, .null, .int 0, .int 0, .int 0]))]) hD hS hA [1] rfl
  refine va_callv (va_runIN (As := []) (rest := [.ref q_1, .ref h0]) ⟨hx, hb, hml, hown, hts⟩ (c_Tokens l dC dI q_1 H.size ) ⟨va_cnB 0 hts gX10_init_X8_init_n11 rfl rfl rfl hzX.n_RX10_11 (hts (.initialized RX8) (by decide +kernel)) (by decide +kernel) ⟨Nat.le_of_ble_eq_true rfl, Nat.le_of_ble_eq_true rfl⟩, rfl, hts (.instanceMethod yX8_init) (by decide +kernel)⟩ ⟨fun a U g mk q => by obtain ⟨q0, q1, qX, qP, qK, qD⟩ := q; exact ⟨q0, q1, zz_X.same (u := U) (U := U.calling g mk a) rfl qX, qP, va_K.moved (u := U) (U := U.calling g mk a) (Vm.Alike.refl U.vm) qK, qD⟩, fun U hU hW => ⟨rfl, by rw [hU], zz_X.warm hW hzX, by rw [hU]; exact hPc, va_K.moved hW.alike hKc, hDc.weaken (fun _ _ _ _ => trivial)⟩⟩ rfl rfl hl.1 rfl (lv_room (Nat.le_of_ble_eq_true rfl)) dX10_init_9 ⟨Nat.le_of_ble_eq_true rfl, Nat.le_of_ble_eq_true rfl⟩) hS (fun q _ h => hFc q h) hFc (fun u t H1 locs ht hvm hw hB hz1 hk1 hS => ?_)
  obtain ⟨q_2, hP1, hK1, hD1⟩ := hB
  rw [ht] at hP1
  have hK1 := va_K.moved hvm.symm hK1
  obtain ⟨hP, hD⟩ := va_join (wr := [(h0, .inr (10, [.null, .int 0, .int 0]))]) (w1 := [(q_1, .inr (8, [.int 0, .int 0, .long 0, .int 0, .int 0, .int 0, .int 0, .ref q_2, .int 0, .int 0, .int 0]))]) hP hD [1] [0] rfl rfl (by decide) (by decide) hk1 hFc hP1 hD1
  have hK := (hK.sub (tys' := []) [] rfl).app (hK1.sub (tys' := []) [] rfl)
  generalize H1 = H at hP hS ⊢
  have hP : va_P (dC, dI) vwCl [(h0, .inr (10, [.null, .int 0, .int 0])), (q_1, .inr (8, [.int 0, .int 0, .long 0, .int 0, .int 0, .int 0, .int 0, .ref q_2, .int 0, .int 0, .int 0]))] H := hP
  have hD : va_D A [(h0, .inr (10, [.null, .int 0, .int 0])), (q_1, .inr (8, [.int 0, .int 0, .long 0, .int 0, .int 0, .int 0, .int 0, .ref q_2, .int 0, .int 0, .int 0]))] := hD
  have hK : va_K (dC, dI) vwCl [] s := hK
  refine W.widen (k := 3) (n := 13) (Nat.le_of_ble_eq_true rfl) (Nat.le_of_ble_eq_true rfl) ?_
  refine va_putF (D := (dC, dI)) (ci := 10) (v := .ref q_1) (ty := .object "ClayAccounts$Tokens") (C := RX10) (T := TX10) (N := 3) hx hb hts in_X10_init_X10 tyX10 tyX10_ok nmX10 hown hK hP hD hS 0 rfl rfl 0 (by decide) (hts (.fieldLink RX10 12 "ClayAccounts$UnitsReader" "tokens" "LClayAccounts$Tokens;") (by decide +kernel)) (fun _ h9 => h9) rfl hin rfl (by decide +kernel) rfl rfl (Nat.le_of_ble_eq_true rfl) dX10_init_12 (fun H locs hP hD hS => ?_)
  have hP : va_P (dC, dI) vwCl [(h0, .inr (10, [.ref q_1, .int 0, .int 0])), (q_1, .inr (8, [.int 0, .int 0, .long 0, .int 0, .int 0, .int 0, .int 0, .ref q_2, .int 0, .int 0, .int 0]))] H := hP
  have hD : va_D A [(h0, .inr (10, [.ref q_1, .int 0, .int 0])), (q_1, .inr (8, [.int 0, .int 0, .long 0, .int 0, .int 0, .int 0, .int 0, .ref q_2, .int 0, .int 0, .int 0]))] := hD
  have hP9 := hP.sub (ws' := [(h0, .inr (10, [.ref q_1, .int 0, .int 0])), (q_1, .inr (8, [.int 0, .int 0, .long 0, .int 0, .int 0, .int 0, .int 0, .ref q_2, .int 0, .int 0, .int 0]))]) [0, 1] rfl
  have hD9 := hD.sub (ws' := [(h0, .inr (10, [.ref q_1, .int 0, .int 0])), (q_1, .inr (8, [.int 0, .int 0, .long 0, .int 0, .int 0, .int 0, .int 0, .ref q_2, .int 0, .int 0, .int 0]))]) [0, 1] (by decide) rfl
  have hK9 := hK.sub (tys' := []) [] rfl
  refine W.widen (k := 3) (n := 13) (Nat.le_of_ble_eq_true rfl) (Nat.le_of_ble_eq_true rfl) ?_
  exact W.vret hx hb hr (fun t ht hW => ⟨⟨(), rfl, trivial, q_1, q_2, by rw [ht]; exact hP9, va_K.moved hW.alike hK9, hD9⟩, hS.F ht⟩) hS.2.2 dX10_init_15
theorem in_X9_init_X9 : ∀ w ∈ wsX90, w ∈ wsX9_init := fun _ h => List.mem_cons_of_mem _ (List.mem_append_right _ h)
set_option maxHeartbeats 4000000 in
set_option maxRecDepth 100000 in
theorem c_Units (l : Launch) (dC : Nat → ClassId) (dI : Nat → Nat → Nat) (h0 : Nat) (sz : Nat)  : Met l yX9_init wsX9_init ({ frames := 1, cells := 6, slots := 66, locals := 15 } : Room) (va_Pc [.ref h0] (fun U => U.heap.size = sz ∧ zz_X U ∧ va_P (dC, dI) vwCl [(h0, .inr (9, [.null, .null, .null, .null, .null, .null, .int 0]))] U.heap ∧ va_K (dC, dI) vwCl [] U ∧ va_D (fun _ => True) [(h0, .inr (9, [.null, .null, .null, .null, .null, .null, .int 0]))])) (va_Qv (fun (_ : Unit) => True) (fun (_ : Unit) (t : State) => ∃ (s1 : Nat) (s2 : Nat) (s3 : Nat) (s4 : Nat) (s5 : Nat) (s6 : Nat) (k1 : ClassId) (k2 : ClassId) (k3 : ClassId), va_P (dC, dI) vwCl [(h0, .inr (9, [.ref s1, .ref s2, .ref s3, .ref s4, .ref s5, .ref s6, .int 0])), (s1, .inl (k1, 3, .inr (.inl (fun _ => 0)))), (s2, .inl (k2, 3, .inl (fun _ => 0))), (s3, .inl (k3, 15, .inr (.inl (fun _ => 0))))] t.heap ∧ va_K (dC, dI) vwCl [(k1, .long), (k2, .int), (k3, .long)] t ∧ va_D (va_A [(h0, .inr (9, [.null, .null, .null, .null, .null, .null, .int 0]))] sz) [(h0, .inr (9, [.ref s1, .ref s2, .ref s3, .ref s4, .ref s5, .ref s6, .int 0])), (s1, .inl (k1, 3, .inr (.inl (fun _ => 0)))), (s2, .inl (k2, 3, .inl (fun _ => 0))), (s3, .inl (k3, 15, .inr (.inl (fun _ => 0))))]) (va_A [(h0, .inr (9, [.null, .null, .null, .null, .null, .null, .int 0]))] sz)) 6 66 (va_A [(h0, .inr (9, [.null, .null, .null, .null, .null, .null, .int 0]))] sz) := by
  refine Met.ofW (cc := cX9_init) (maxL := 1) (ret := none) (by decide) rfl ?_
  intro p e s m args below meth c s₁ B hml hv
  obtain ⟨rfl, hsz, hzX, hP, hK, hD0⟩ := hv
  have hx := B.exec
  have hb := B.bytes
  have hr := B.returns
  have hts := atoms_spec (ws := wsX9_init) B.pre
  have hown : s.vm.findClass RX9 = some m.cls := findClass_of_methodNamed B.named
  have hlocks := B.notSynchronized
  have hin : meth.name = "<init>" := (name_of_methodNamed B.named B.method).1
  subst hsz
  have hD := hD0.self (sz := s.heap.size)
  generalize hAe : va_A [(h0, .inr (9, [.null, .null, .null, .null, .null, .null, .int 0]))] s.heap.size = A at  hD ⊢
  have hA : ∀ q : Nat, s.heap.size ≤ q → A q := fun q h => by rw [← hAe]; exact Or.inr h
  have hS : va_S A s.heap s.heap [] := va_S.rf
  have hP : va_P (dC, dI) vwCl [(h0, .inr (9, [.null, .null, .null, .null, .null, .null, .int 0]))] s.heap := hP
  have hl := lv_entry ([.ref h0]) (n := 1) (Nat.le_of_ble_eq_true rfl)
  rw [lg_entry_eq]
  generalize (lg_sl ([.ref h0]) ++ List.replicate (1 - (lg_sl ([.ref h0])).length) Slot.unset).toArray = ls at hl ⊢
  have hl : lv_has ls 1 [(0, .ref h0)] := hl
  skip
  refine lv_aload_n hx hb dX9_init_0 rfl (lv_at hl 0 rfl) ?_
  refine W.objInit hx hb hown (hts (.methodLink RX9 3 objectInit) (by decide +kernel)) (hts (.instanceMethod objectInit) (by decide +kernel)) (hts (.code objectInit ⟨#[0xb1]⟩ 1 none) (by decide +kernel)) rfl (by rw [hml]; exact hl.1) rfl dX9_init_1 (Nat.le_of_ble_eq_true rfl) (Nat.le_of_ble_eq_true rfl) ?_
  refine W.eq (g2 := F0 m 4 ls []) rfl ?_
  refine lv_aload_n hx hb dX9_init_4 rfl (lv_at hl 0 rfl) ?_
  refine lv_iconst (v := 3) hx hb dX9_init_5 (by decide) ?_
  refine va_newa (atype := .long) (ty := .long) (a0 := (3, .inr (.inl (fun _ => 0)))) (N' := 3) hx hb (hts (.arrayClass .long) (by decide +kernel)) rfl hK hP hD hS hA (fun cA => vp_cell_l cA 3 (fun _ => 0)) (by decide) (by decide) (Nat.le_of_ble_eq_true rfl) (Nat.le_of_ble_eq_true rfl) (Nat.le_of_ble_eq_true rfl) dX9_init_6 (fun q_1 k_2 H hK hP hD hS => ?_)
  have hP : va_P (dC, dI) vwCl [(h0, .inr (9, [.null, .null, .null, .null, .null, .null, .int 0])), (q_1, .inl (k_2, 3, .inr (.inl (fun _ => 0))))] H := hP
  have hD : va_D A [(h0, .inr (9, [.null, .null, .null, .null, .null, .null, .int 0])), (q_1, .inl (k_2, 3, .inr (.inl (fun _ => 0))))] := hD
  have hK : va_K (dC, dI) vwCl [(k_2, .long)] s := hK
  refine W.widen (k := 1) (n := 3) (Nat.le_of_ble_eq_true rfl) (Nat.le_of_ble_eq_true rfl) ?_
  refine va_putF (D := (dC, dI)) (ci := 9) (v := .ref q_1) (ty := .array .long) (C := RX9) (T := TX9) (N := 7) hx hb hts in_X9_init_X9 tyX9 tyX9_ok nmX9 hown hK hP hD hS 0 rfl rfl 0 (by decide) (hts (.fieldLink RX9 9 "ClayAccounts$Units" "systemNames" "[J") (by decide +kernel)) (fun _ h9 => h9) rfl hin rfl (by decide +kernel) rfl rfl (Nat.le_of_ble_eq_true rfl) dX9_init_8 (fun H locs hP hD hS => ?_)
  have hP : va_P (dC, dI) vwCl [(h0, .inr (9, [.ref q_1, .null, .null, .null, .null, .null, .int 0])), (q_1, .inl (k_2, 3, .inr (.inl (fun _ => 0))))] H := hP
  have hD : va_D A [(h0, .inr (9, [.ref q_1, .null, .null, .null, .null, .null, .int 0])), (q_1, .inl (k_2, 3, .inr (.inl (fun _ => 0))))] := hD
  refine lv_aload_n hx hb dX9_init_11 rfl (lv_at hl 0 rfl) ?_
  refine lv_iconst (v := 3) hx hb dX9_init_12 (by decide) ?_
  refine va_newa (atype := .int) (ty := .int) (a0 := (3, .inl (fun _ => 0))) (N' := 3) hx hb (hts (.arrayClass .int) (by decide +kernel)) rfl hK hP hD hS hA (fun cA => vp_cell_i cA 3 (fun _ => 0)) (by decide) (by decide) (Nat.le_of_ble_eq_true rfl) (Nat.le_of_ble_eq_true rfl) (Nat.le_of_ble_eq_true rfl) dX9_init_13 (fun q_3 k_4 H hK hP hD hS => ?_)
  have hP : va_P (dC, dI) vwCl [(h0, .inr (9, [.ref q_1, .null, .null, .null, .null, .null, .int 0])), (q_1, .inl (k_2, 3, .inr (.inl (fun _ => 0)))), (q_3, .inl (k_4, 3, .inl (fun _ => 0)))] H := hP
  have hD : va_D A [(h0, .inr (9, [.ref q_1, .null, .null, .null, .null, .null, .int 0])), (q_1, .inl (k_2, 3, .inr (.inl (fun _ => 0)))), (q_3, .inl (k_4, 3, .inl (fun _ => 0)))] := hD
  have hK : va_K (dC, dI) vwCl [(k_2, .long), (k_4, .int)] s := hK
  refine W.widen (k := 2) (n := 6) (Nat.le_of_ble_eq_true rfl) (Nat.le_of_ble_eq_true rfl) ?_
  refine va_putF (D := (dC, dI)) (ci := 9) (v := .ref q_3) (ty := .array .int) (C := RX9) (T := TX9) (N := 7) hx hb hts in_X9_init_X9 tyX9 tyX9_ok nmX9 hown hK hP hD hS 0 rfl rfl 1 (by decide) (hts (.fieldLink RX9 15 "ClayAccounts$Units" "unitCounts" "[I") (by decide +kernel)) (fun _ h9 => h9) rfl hin rfl (by decide +kernel) rfl rfl (Nat.le_of_ble_eq_true rfl) dX9_init_15 (fun H locs hP hD hS => ?_)
  have hP : va_P (dC, dI) vwCl [(h0, .inr (9, [.ref q_1, .ref q_3, .null, .null, .null, .null, .int 0])), (q_1, .inl (k_2, 3, .inr (.inl (fun _ => 0)))), (q_3, .inl (k_4, 3, .inl (fun _ => 0)))] H := hP
  have hD : va_D A [(h0, .inr (9, [.ref q_1, .ref q_3, .null, .null, .null, .null, .int 0])), (q_1, .inl (k_2, 3, .inr (.inl (fun _ => 0)))), (q_3, .inl (k_4, 3, .inl (fun _ => 0)))] := hD
  refine lv_aload_n hx hb dX9_init_18 rfl (lv_at hl 0 rfl) ?_
  refine lv_bipush (v := 15) hx hb dX9_init_19 (by decide) ?_
  refine va_newa (atype := .long) (ty := .long) (a0 := (15, .inr (.inl (fun _ => 0)))) (N' := 15) hx hb (hts (.arrayClass .long) (by decide +kernel)) rfl hK hP hD hS hA (fun cA => vp_cell_l cA 15 (fun _ => 0)) (by decide) (by decide) (Nat.le_of_ble_eq_true rfl) (Nat.le_of_ble_eq_true rfl) (Nat.le_of_ble_eq_true rfl) dX9_init_21 (fun q_5 k_6 H hK hP hD hS => ?_)
  have hP : va_P (dC, dI) vwCl [(h0, .inr (9, [.ref q_1, .ref q_3, .null, .null, .null, .null, .int 0])), (q_1, .inl (k_2, 3, .inr (.inl (fun _ => 0)))), (q_3, .inl (k_4, 3, .inl (fun _ => 0))), (q_5, .inl (k_6, 15, .inr (.inl (fun _ => 0))))] H := hP
  have hD : va_D A [(h0, .inr (9, [.ref q_1, .ref q_3, .null, .null, .null, .null, .int 0])), (q_1, .inl (k_2, 3, .inr (.inl (fun _ => 0)))), (q_3, .inl (k_4, 3, .inl (fun _ => 0))), (q_5, .inl (k_6, 15, .inr (.inl (fun _ => 0))))] := hD
  have hK : va_K (dC, dI) vwCl [(k_2, .long), (k_4, .int), (k_6, .long)] s := hK
  refine W.widen (k := 3) (n := 21) (Nat.le_of_ble_eq_true rfl) (Nat.le_of_ble_eq_true rfl) ?_
  refine va_putF (D := (dC, dI)) (ci := 9) (v := .ref q_5) (ty := .array .long) (C := RX9) (T := TX9) (N := 7) hx hb hts in_X9_init_X9 tyX9 tyX9_ok nmX9 hown hK hP hD hS 0 rfl rfl 2 (by decide) (hts (.fieldLink RX9 19 "ClayAccounts$Units" "names" "[J") (by decide +kernel)) (fun _ h9 => h9) rfl hin rfl (by decide +kernel) rfl rfl (Nat.le_of_ble_eq_true rfl) dX9_init_23 (fun H locs hP hD hS => ?_)
  have hP : va_P (dC, dI) vwCl [(h0, .inr (9, [.ref q_1, .ref q_3, .ref q_5, .null, .null, .null, .int 0])), (q_1, .inl (k_2, 3, .inr (.inl (fun _ => 0)))), (q_3, .inl (k_4, 3, .inl (fun _ => 0))), (q_5, .inl (k_6, 15, .inr (.inl (fun _ => 0))))] H := hP
  have hD : va_D A [(h0, .inr (9, [.ref q_1, .ref q_3, .ref q_5, .null, .null, .null, .int 0])), (q_1, .inl (k_2, 3, .inr (.inl (fun _ => 0)))), (q_3, .inl (k_4, 3, .inl (fun _ => 0))), (q_5, .inl (k_6, 15, .inr (.inl (fun _ => 0))))] := hD
  refine lv_aload_n hx hb dX9_init_26 rfl (lv_at hl 0 rfl) ?_
  refine lv_bipush (v := 15) hx hb dX9_init_27 (by decide) ?_
  refine va_newa (atype := .int) (ty := .int) (a0 := (15, .inl (fun _ => 0))) (N' := 15) hx hb (hts (.arrayClass .int) (by decide +kernel)) rfl hK hP hD hS hA (fun cA => vp_cell_i cA 15 (fun _ => 0)) (by decide) (by decide) (Nat.le_of_ble_eq_true rfl) (Nat.le_of_ble_eq_true rfl) (Nat.le_of_ble_eq_true rfl) dX9_init_29 (fun q_7 k_8 H hK hP hD hS => ?_)
  have hP : va_P (dC, dI) vwCl [(h0, .inr (9, [.ref q_1, .ref q_3, .ref q_5, .null, .null, .null, .int 0])), (q_1, .inl (k_2, 3, .inr (.inl (fun _ => 0)))), (q_3, .inl (k_4, 3, .inl (fun _ => 0))), (q_5, .inl (k_6, 15, .inr (.inl (fun _ => 0)))), (q_7, .inl (k_8, 15, .inl (fun _ => 0)))] H := hP
  have hD : va_D A [(h0, .inr (9, [.ref q_1, .ref q_3, .ref q_5, .null, .null, .null, .int 0])), (q_1, .inl (k_2, 3, .inr (.inl (fun _ => 0)))), (q_3, .inl (k_4, 3, .inl (fun _ => 0))), (q_5, .inl (k_6, 15, .inr (.inl (fun _ => 0)))), (q_7, .inl (k_8, 15, .inl (fun _ => 0)))] := hD
  have hK : va_K (dC, dI) vwCl [(k_2, .long), (k_4, .int), (k_6, .long), (k_8, .int)] s := hK
  refine W.widen (k := 4) (n := 36) (Nat.le_of_ble_eq_true rfl) (Nat.le_of_ble_eq_true rfl) ?_
  refine va_putF (D := (dC, dI)) (ci := 9) (v := .ref q_7) (ty := .array .int) (C := RX9) (T := TX9) (N := 7) hx hb hts in_X9_init_X9 tyX9 tyX9_ok nmX9 hown hK hP hD hS 0 rfl rfl 3 (by decide) (hts (.fieldLink RX9 22 "ClayAccounts$Units" "factors" "[I") (by decide +kernel)) (fun _ h9 => h9) rfl hin rfl (by decide +kernel) rfl rfl (Nat.le_of_ble_eq_true rfl) dX9_init_31 (fun H locs hP hD hS => ?_)
  have hP : va_P (dC, dI) vwCl [(h0, .inr (9, [.ref q_1, .ref q_3, .ref q_5, .ref q_7, .null, .null, .int 0])), (q_1, .inl (k_2, 3, .inr (.inl (fun _ => 0)))), (q_3, .inl (k_4, 3, .inl (fun _ => 0))), (q_5, .inl (k_6, 15, .inr (.inl (fun _ => 0)))), (q_7, .inl (k_8, 15, .inl (fun _ => 0)))] H := hP
  have hD : va_D A [(h0, .inr (9, [.ref q_1, .ref q_3, .ref q_5, .ref q_7, .null, .null, .int 0])), (q_1, .inl (k_2, 3, .inr (.inl (fun _ => 0)))), (q_3, .inl (k_4, 3, .inl (fun _ => 0))), (q_5, .inl (k_6, 15, .inr (.inl (fun _ => 0)))), (q_7, .inl (k_8, 15, .inl (fun _ => 0)))] := hD
  refine lv_aload_n hx hb dX9_init_34 rfl (lv_at hl 0 rfl) ?_
  refine lv_bipush (v := 15) hx hb dX9_init_35 (by decide) ?_
  refine va_newa (atype := .int) (ty := .int) (a0 := (15, .inl (fun _ => 0))) (N' := 15) hx hb (hts (.arrayClass .int) (by decide +kernel)) rfl hK hP hD hS hA (fun cA => vp_cell_i cA 15 (fun _ => 0)) (by decide) (by decide) (Nat.le_of_ble_eq_true rfl) (Nat.le_of_ble_eq_true rfl) (Nat.le_of_ble_eq_true rfl) dX9_init_37 (fun q_9 k_10 H hK hP hD hS => ?_)
  have hP : va_P (dC, dI) vwCl [(h0, .inr (9, [.ref q_1, .ref q_3, .ref q_5, .ref q_7, .null, .null, .int 0])), (q_1, .inl (k_2, 3, .inr (.inl (fun _ => 0)))), (q_3, .inl (k_4, 3, .inl (fun _ => 0))), (q_5, .inl (k_6, 15, .inr (.inl (fun _ => 0)))), (q_7, .inl (k_8, 15, .inl (fun _ => 0))), (q_9, .inl (k_10, 15, .inl (fun _ => 0)))] H := hP
  have hD : va_D A [(h0, .inr (9, [.ref q_1, .ref q_3, .ref q_5, .ref q_7, .null, .null, .int 0])), (q_1, .inl (k_2, 3, .inr (.inl (fun _ => 0)))), (q_3, .inl (k_4, 3, .inl (fun _ => 0))), (q_5, .inl (k_6, 15, .inr (.inl (fun _ => 0)))), (q_7, .inl (k_8, 15, .inl (fun _ => 0))), (q_9, .inl (k_10, 15, .inl (fun _ => 0)))] := hD
  have hK : va_K (dC, dI) vwCl [(k_2, .long), (k_4, .int), (k_6, .long), (k_8, .int), (k_10, .int)] s := hK
  refine W.widen (k := 5) (n := 51) (Nat.le_of_ble_eq_true rfl) (Nat.le_of_ble_eq_true rfl) ?_
  refine va_putF (D := (dC, dI)) (ci := 9) (v := .ref q_9) (ty := .array .int) (C := RX9) (T := TX9) (N := 7) hx hb hts in_X9_init_X9 tyX9 tyX9_ok nmX9 hown hK hP hD hS 0 rfl rfl 4 (by decide) (hts (.fieldLink RX9 25 "ClayAccounts$Units" "worths" "[I") (by decide +kernel)) (fun _ h9 => h9) rfl hin rfl (by decide +kernel) rfl rfl (Nat.le_of_ble_eq_true rfl) dX9_init_39 (fun H locs hP hD hS => ?_)
  have hP : va_P (dC, dI) vwCl [(h0, .inr (9, [.ref q_1, .ref q_3, .ref q_5, .ref q_7, .ref q_9, .null, .int 0])), (q_1, .inl (k_2, 3, .inr (.inl (fun _ => 0)))), (q_3, .inl (k_4, 3, .inl (fun _ => 0))), (q_5, .inl (k_6, 15, .inr (.inl (fun _ => 0)))), (q_7, .inl (k_8, 15, .inl (fun _ => 0))), (q_9, .inl (k_10, 15, .inl (fun _ => 0)))] H := hP
  have hD : va_D A [(h0, .inr (9, [.ref q_1, .ref q_3, .ref q_5, .ref q_7, .ref q_9, .null, .int 0])), (q_1, .inl (k_2, 3, .inr (.inl (fun _ => 0)))), (q_3, .inl (k_4, 3, .inl (fun _ => 0))), (q_5, .inl (k_6, 15, .inr (.inl (fun _ => 0)))), (q_7, .inl (k_8, 15, .inl (fun _ => 0))), (q_9, .inl (k_10, 15, .inl (fun _ => 0)))] := hD
  refine lv_aload_n hx hb dX9_init_42 rfl (lv_at hl 0 rfl) ?_
  refine lv_bipush (v := 15) hx hb dX9_init_43 (by decide) ?_
  refine va_newa (atype := .int) (ty := .int) (a0 := (15, .inl (fun _ => 0))) (N' := 15) hx hb (hts (.arrayClass .int) (by decide +kernel)) rfl hK hP hD hS hA (fun cA => vp_cell_i cA 15 (fun _ => 0)) (by decide) (by decide) (Nat.le_of_ble_eq_true rfl) (Nat.le_of_ble_eq_true rfl) (Nat.le_of_ble_eq_true rfl) dX9_init_45 (fun q_11 k_12 H hK hP hD hS => ?_)
  have hP : va_P (dC, dI) vwCl [(h0, .inr (9, [.ref q_1, .ref q_3, .ref q_5, .ref q_7, .ref q_9, .null, .int 0])), (q_1, .inl (k_2, 3, .inr (.inl (fun _ => 0)))), (q_3, .inl (k_4, 3, .inl (fun _ => 0))), (q_5, .inl (k_6, 15, .inr (.inl (fun _ => 0)))), (q_7, .inl (k_8, 15, .inl (fun _ => 0))), (q_9, .inl (k_10, 15, .inl (fun _ => 0))), (q_11, .inl (k_12, 15, .inl (fun _ => 0)))] H := hP
  have hD : va_D A [(h0, .inr (9, [.ref q_1, .ref q_3, .ref q_5, .ref q_7, .ref q_9, .null, .int 0])), (q_1, .inl (k_2, 3, .inr (.inl (fun _ => 0)))), (q_3, .inl (k_4, 3, .inl (fun _ => 0))), (q_5, .inl (k_6, 15, .inr (.inl (fun _ => 0)))), (q_7, .inl (k_8, 15, .inl (fun _ => 0))), (q_9, .inl (k_10, 15, .inl (fun _ => 0))), (q_11, .inl (k_12, 15, .inl (fun _ => 0)))] := hD
  have hK : va_K (dC, dI) vwCl [(k_2, .long), (k_4, .int), (k_6, .long), (k_8, .int), (k_10, .int), (k_12, .int)] s := hK
  refine W.widen (k := 6) (n := 66) (Nat.le_of_ble_eq_true rfl) (Nat.le_of_ble_eq_true rfl) ?_
  refine va_putF (D := (dC, dI)) (ci := 9) (v := .ref q_11) (ty := .array .int) (C := RX9) (T := TX9) (N := 7) hx hb hts in_X9_init_X9 tyX9 tyX9_ok nmX9 hown hK hP hD hS 0 rfl rfl 5 (by decide) (hts (.fieldLink RX9 28 "ClayAccounts$Units" "mosts" "[I") (by decide +kernel)) (fun _ h9 => h9) rfl hin rfl (by decide +kernel) rfl rfl (Nat.le_of_ble_eq_true rfl) dX9_init_47 (fun H locs hP hD hS => ?_)
  have hP : va_P (dC, dI) vwCl [(h0, .inr (9, [.ref q_1, .ref q_3, .ref q_5, .ref q_7, .ref q_9, .ref q_11, .int 0])), (q_1, .inl (k_2, 3, .inr (.inl (fun _ => 0)))), (q_3, .inl (k_4, 3, .inl (fun _ => 0))), (q_5, .inl (k_6, 15, .inr (.inl (fun _ => 0)))), (q_7, .inl (k_8, 15, .inl (fun _ => 0))), (q_9, .inl (k_10, 15, .inl (fun _ => 0))), (q_11, .inl (k_12, 15, .inl (fun _ => 0)))] H := hP
  have hD : va_D A [(h0, .inr (9, [.ref q_1, .ref q_3, .ref q_5, .ref q_7, .ref q_9, .ref q_11, .int 0])), (q_1, .inl (k_2, 3, .inr (.inl (fun _ => 0)))), (q_3, .inl (k_4, 3, .inl (fun _ => 0))), (q_5, .inl (k_6, 15, .inr (.inl (fun _ => 0)))), (q_7, .inl (k_8, 15, .inl (fun _ => 0))), (q_9, .inl (k_10, 15, .inl (fun _ => 0))), (q_11, .inl (k_12, 15, .inl (fun _ => 0)))] := hD
  have hP9 := hP.sub (ws' := [(h0, .inr (9, [.ref q_1, .ref q_3, .ref q_5, .ref q_7, .ref q_9, .ref q_11, .int 0])), (q_1, .inl (k_2, 3, .inr (.inl (fun _ => 0)))), (q_3, .inl (k_4, 3, .inl (fun _ => 0))), (q_5, .inl (k_6, 15, .inr (.inl (fun _ => 0))))]) [0, 1, 2, 3] rfl
  have hD9 := hD.sub (ws' := [(h0, .inr (9, [.ref q_1, .ref q_3, .ref q_5, .ref q_7, .ref q_9, .ref q_11, .int 0])), (q_1, .inl (k_2, 3, .inr (.inl (fun _ => 0)))), (q_3, .inl (k_4, 3, .inl (fun _ => 0))), (q_5, .inl (k_6, 15, .inr (.inl (fun _ => 0))))]) [0, 1, 2, 3] (by decide) rfl
  have hK9 := hK.sub (tys' := [(k_2, .long), (k_4, .int), (k_6, .long)]) [0, 1, 2] rfl
  refine W.widen (k := 6) (n := 66) (Nat.le_of_ble_eq_true rfl) (Nat.le_of_ble_eq_true rfl) ?_
  exact W.vret hx hb hr (fun t ht hW => ⟨⟨(), rfl, trivial, q_1, q_3, q_5, q_7, q_9, q_11, k_2, k_4, k_6, by rw [ht]; exact hP9, va_K.moved hW.alike hK9, hD9⟩, hS.F ht⟩) hS.2.2 dX9_init_50
theorem in_X0_init_X0 : ∀ w ∈ wsX00, w ∈ wsX0_init := fun _ h => List.mem_cons_of_mem _ (List.mem_append_right _ h)
theorem in_X0_init_X7 : ∀ w ∈ wsX70, w ∈ wsX0_init := fun _ h => List.mem_cons_of_mem _ (List.mem_append_left _ (List.mem_append_right _ h))
set_option maxHeartbeats 4000000 in
set_option maxRecDepth 100000 in
theorem c_Fragment (l : Launch) (dC : Nat → ClassId) (dI : Nat → Nat → Nat) (h0 : Nat) (sz : Nat)  : Met l yX0_init wsX0_init ({ frames := 2, cells := 2, slots := 202, locals := 39 } : Room) (va_Pc [.ref h0] (fun U => U.heap.size = sz ∧ zz_X U ∧ va_P (dC, dI) vwCl [(h0, .inr (0, [.null, .int 0, .int 0, .int 0]))] U.heap ∧ va_K (dC, dI) vwCl [] U ∧ va_D (fun _ => True) [(h0, .inr (0, [.null, .int 0, .int 0, .int 0]))])) (va_Qv (fun (_ : Unit) => True) (fun (_ : Unit) (t : State) => ∃ (ft : Nat) (fb : Nat), va_P (dC, dI) vwCl [(h0, .inr (0, [.ref ft, .int 0, .int 0, .int 0])), (ft, .inr (7, [.ref fb, .int 0]))] t.heap ∧ va_K (dC, dI) vwCl [] t ∧ va_D (va_A [(h0, .inr (0, [.null, .int 0, .int 0, .int 0]))] sz) [(h0, .inr (0, [.ref ft, .int 0, .int 0, .int 0])), (ft, .inr (7, [.ref fb, .int 0]))]) (va_A [(h0, .inr (0, [.null, .int 0, .int 0, .int 0]))] sz)) 2 202 (va_A [(h0, .inr (0, [.null, .int 0, .int 0, .int 0]))] sz) := by
  refine Met.ofW (cc := cX0_init) (maxL := 1) (ret := none) (by decide) rfl ?_
  intro p e s m args below meth c s₁ B hml hv
  obtain ⟨rfl, hsz, hzX, hP, hK, hD0⟩ := hv
  have hx := B.exec
  have hb := B.bytes
  have hr := B.returns
  have hts := atoms_spec (ws := wsX0_init) B.pre
  have hown : s.vm.findClass RX0 = some m.cls := findClass_of_methodNamed B.named
  have hlocks := B.notSynchronized
  have hin : meth.name = "<init>" := (name_of_methodNamed B.named B.method).1
  subst hsz
  have hD := hD0.self (sz := s.heap.size)
  generalize hAe : va_A [(h0, .inr (0, [.null, .int 0, .int 0, .int 0]))] s.heap.size = A at  hD ⊢
  have hA : ∀ q : Nat, s.heap.size ≤ q → A q := fun q h => by rw [← hAe]; exact Or.inr h
  have hS : va_S A s.heap s.heap [] := va_S.rf
  have hP : va_P (dC, dI) vwCl [(h0, .inr (0, [.null, .int 0, .int 0, .int 0]))] s.heap := hP
  have hl := lv_entry ([.ref h0]) (n := 1) (Nat.le_of_ble_eq_true rfl)
  rw [lg_entry_eq]
  generalize (lg_sl ([.ref h0]) ++ List.replicate (1 - (lg_sl ([.ref h0])).length) Slot.unset).toArray = ls at hl ⊢
  have hl : lv_has ls 1 [(0, .ref h0)] := hl
  skip
  refine lv_aload_n hx hb dX0_init_0 rfl (lv_at hl 0 rfl) ?_
  refine W.objInit hx hb hown (hts (.methodLink RX0 3 objectInit) (by decide +kernel)) (hts (.instanceMethod objectInit) (by decide +kernel)) (hts (.code objectInit ⟨#[0xb1]⟩ 1 none) (by decide +kernel)) rfl (by rw [hml]; exact hl.1) rfl dX0_init_1 (Nat.le_of_ble_eq_true rfl) (Nat.le_of_ble_eq_true rfl) ?_
  refine W.eq (g2 := F0 m 4 ls []) rfl ?_
  refine lv_aload_n hx hb dX0_init_4 rfl (lv_at hl 0 rfl) ?_
  refine va_new (ci := 7) (fs := [.null, .int 0]) (C := RX7) (T := TX7) (N := 2) hx hb hts in_X0_init_X7 tyX7 tyX7_ok hown (hts (.classLink RX0 9 RX7) (by decide +kernel)) (hts (.instantiable RX7 2) (by decide +kernel)) (hts (.initialized RX7) (by decide +kernel)) hK hP hD hS hA rfl (fun j hj => zz_defX7 j hj) (Nat.le_of_ble_eq_true rfl) (Nat.le_of_ble_eq_true rfl) dX0_init_5 (fun q_1 H hP hD hS => ?_)
  have hP : va_P (dC, dI) vwCl [(h0, .inr (0, [.null, .int 0, .int 0, .int 0])), (q_1, .inr (7, [.null, .int 0]))] H := hP
  have hD : va_D A [(h0, .inr (0, [.null, .int 0, .int 0, .int 0])), (q_1, .inr (7, [.null, .int 0]))] := hD
  refine W.widen (k := 1) (n := 2) (Nat.le_of_ble_eq_true rfl) (Nat.le_of_ble_eq_true rfl) ?_
  refine lv_dup hx hb dX0_init_8 rfl ?_
  refine lv_sipush (v := 200) hx hb dX0_init_9 (by decide) ?_
  have hPc := hP.sub (ws' := [(q_1, .inr (7, [.null, .int 0]))]) [1] rfl
  have hDc := hD.sub (ws' := [(q_1, .inr (7, [.null, .int 0]))]) [1] (by decide) rfl
  have hKc := hK.sub (tys' := []) [] rfl
  have hFc := va_free (wc := [(q_1, .inr (7, [.null, .int 0]))]) hD hS hA [1] rfl
  refine va_callv (va_runI (As := [.int 200]) (rest := [.ref q_1, .ref h0]) ⟨hx, hb, hml, hown, hts⟩ (c_Text_200 l dC dI q_1 H.size ) (cwI 1 hts gX0_init_X7_init rfl rfl rfl (hts (.initialized RX7) (by decide +kernel)) (hts (.methodLink RX0 11 yX7_init) (by decide +kernel)) (hts (.instanceMethod yX7_init) (by decide +kernel)) rfl (by decide +kernel) ⟨Nat.le_of_ble_eq_true rfl, Nat.le_of_ble_eq_true rfl⟩) ⟨fun a U g mk q => by obtain ⟨q0, q1, qX, qP, qK, qD⟩ := q; exact ⟨q0, q1, zz_X.same (u := U) (U := U.calling g mk a) rfl qX, qP, va_K.moved (u := U) (U := U.calling g mk a) (Vm.Alike.refl U.vm) qK, qD⟩, fun U hU hW => ⟨rfl, by rw [hU], zz_X.warm hW hzX, by rw [hU]; exact hPc, va_K.moved hW.alike hKc, hDc.weaken (fun _ _ _ _ => trivial)⟩⟩ rfl rfl hl.1 rfl (lv_room (Nat.le_of_ble_eq_true rfl)) dX0_init_12 ⟨Nat.le_of_ble_eq_true rfl, Nat.le_of_ble_eq_true rfl⟩) hS (fun q _ h => hFc q h) hFc (fun u t H1 locs ht hvm hw hB hz1 hk1 hS => ?_)
  obtain ⟨q_2, k_3, hP1, hK1, hD1⟩ := hB
  rw [ht] at hP1
  have hK1 := va_K.moved hvm.symm hK1
  obtain ⟨hP, hD⟩ := va_join (wr := [(h0, .inr (0, [.null, .int 0, .int 0, .int 0]))]) (w1 := [(q_1, .inr (7, [.ref q_2, .int 0])), (q_2, .inl (k_3, 200, .inl (fun _ => 0)))]) hP hD [1] [0] rfl rfl (by decide) (by decide) hk1 hFc hP1 hD1
  have hK := (hK.sub (tys' := []) [] rfl).app (hK1.sub (tys' := [(k_3, .byte)]) [0] rfl)
  generalize H1 = H at hP hS ⊢
  have hP : va_P (dC, dI) vwCl [(h0, .inr (0, [.null, .int 0, .int 0, .int 0])), (q_1, .inr (7, [.ref q_2, .int 0])), (q_2, .inl (k_3, 200, .inl (fun _ => 0)))] H := hP
  have hD : va_D A [(h0, .inr (0, [.null, .int 0, .int 0, .int 0])), (q_1, .inr (7, [.ref q_2, .int 0])), (q_2, .inl (k_3, 200, .inl (fun _ => 0)))] := hD
  have hK : va_K (dC, dI) vwCl [(k_3, .byte)] s := hK
  refine W.widen (k := 2) (n := 202) (Nat.le_of_ble_eq_true rfl) (Nat.le_of_ble_eq_true rfl) ?_
  refine va_putF (D := (dC, dI)) (ci := 0) (v := .ref q_1) (ty := .object "ClayAccounts$Text") (C := RX0) (T := TX0) (N := 4) hx hb hts in_X0_init_X0 tyX0 tyX0_ok nmX0 hown hK hP hD hS 0 rfl rfl 0 (by decide) (hts (.fieldLink RX0 14 "ClayAccounts$Fragment" "text" "LClayAccounts$Text;") (by decide +kernel)) (fun _ h9 => h9) rfl hin rfl (by decide +kernel) rfl rfl (Nat.le_of_ble_eq_true rfl) dX0_init_15 (fun H locs hP hD hS => ?_)
  have hP : va_P (dC, dI) vwCl [(h0, .inr (0, [.ref q_1, .int 0, .int 0, .int 0])), (q_1, .inr (7, [.ref q_2, .int 0])), (q_2, .inl (k_3, 200, .inl (fun _ => 0)))] H := hP
  have hD : va_D A [(h0, .inr (0, [.ref q_1, .int 0, .int 0, .int 0])), (q_1, .inr (7, [.ref q_2, .int 0])), (q_2, .inl (k_3, 200, .inl (fun _ => 0)))] := hD
  have hP9 := hP.sub (ws' := [(h0, .inr (0, [.ref q_1, .int 0, .int 0, .int 0])), (q_1, .inr (7, [.ref q_2, .int 0]))]) [0, 1] rfl
  have hD9 := hD.sub (ws' := [(h0, .inr (0, [.ref q_1, .int 0, .int 0, .int 0])), (q_1, .inr (7, [.ref q_2, .int 0]))]) [0, 1] (by decide) rfl
  have hK9 := hK.sub (tys' := []) [] rfl
  refine W.widen (k := 2) (n := 202) (Nat.le_of_ble_eq_true rfl) (Nat.le_of_ble_eq_true rfl) ?_
  exact W.vret hx hb hr (fun t ht hW => ⟨⟨(), rfl, trivial, q_1, q_2, by rw [ht]; exact hP9, va_K.moved hW.alike hK9, hD9⟩, hS.F ht⟩) hS.2.2 dX0_init_18
theorem in_X3_init_X3 : ∀ w ∈ wsX30, w ∈ wsX3_init := fun _ h => List.mem_cons_of_mem _ (List.mem_append_right _ h)
set_option maxHeartbeats 4000000 in
set_option maxRecDepth 100000 in
theorem c_Matcher (l : Launch) (dC : Nat → ClassId) (dI : Nat → Nat → Nat) (h0 : Nat) (sz : Nat)  : Met l yX3_init wsX3_init ({ frames := 1, cells := 3, slots := 4252, locals := 23 } : Room) (va_Pc [.ref h0] (fun U => U.heap.size = sz ∧ zz_X U ∧ va_P (dC, dI) vwCl [(h0, .inr (3, [.null, .int 0, .int 0, .null, .null]))] U.heap ∧ va_K (dC, dI) vwCl [] U ∧ va_D (fun _ => True) [(h0, .inr (3, [.null, .int 0, .int 0, .null, .null]))])) (va_Qv (fun (_ : Unit) => True) (fun (_ : Unit) (t : State) => ∃ (mp : Nat) (mw : Nat) (mb : Nat) (k1 : ClassId) (k3 : ClassId) (f1 : Nat → Int32), va_P (dC, dI) vwCl [(h0, .inr (3, [.ref mp, .int 0, .int 0, .ref mw, .ref mb])), (mp, .inl (k1, 12, .inl f1)), (mb, .inl (k3, 4096, .inl (fun _ => 0)))] t.heap ∧ va_K (dC, dI) vwCl [(k1, .int), (k3, .int)] t ∧ va_D (va_A [(h0, .inr (3, [.null, .int 0, .int 0, .null, .null]))] sz) [(h0, .inr (3, [.ref mp, .int 0, .int 0, .ref mw, .ref mb])), (mp, .inl (k1, 12, .inl f1)), (mb, .inl (k3, 4096, .inl (fun _ => 0)))]) (va_A [(h0, .inr (3, [.null, .int 0, .int 0, .null, .null]))] sz)) 3 4252 (va_A [(h0, .inr (3, [.null, .int 0, .int 0, .null, .null]))] sz) := by
  refine Met.ofW (cc := cX3_init) (maxL := 1) (ret := none) (by decide) rfl ?_
  intro p e s m args below meth c s₁ B hml hv
  obtain ⟨rfl, hsz, hzX, hP, hK, hD0⟩ := hv
  have hx := B.exec
  have hb := B.bytes
  have hr := B.returns
  have hts := atoms_spec (ws := wsX3_init) B.pre
  have hown : s.vm.findClass RX3 = some m.cls := findClass_of_methodNamed B.named
  have hlocks := B.notSynchronized
  have hin : meth.name = "<init>" := (name_of_methodNamed B.named B.method).1
  subst hsz
  have hD := hD0.self (sz := s.heap.size)
  generalize hAe : va_A [(h0, .inr (3, [.null, .int 0, .int 0, .null, .null]))] s.heap.size = A at  hD ⊢
  have hA : ∀ q : Nat, s.heap.size ≤ q → A q := fun q h => by rw [← hAe]; exact Or.inr h
  have hS : va_S A s.heap s.heap [] := va_S.rf
  have hP : va_P (dC, dI) vwCl [(h0, .inr (3, [.null, .int 0, .int 0, .null, .null]))] s.heap := hP
  have hl := lv_entry ([.ref h0]) (n := 1) (Nat.le_of_ble_eq_true rfl)
  rw [lg_entry_eq]
  generalize (lg_sl ([.ref h0]) ++ List.replicate (1 - (lg_sl ([.ref h0])).length) Slot.unset).toArray = ls at hl ⊢
  have hl : lv_has ls 1 [(0, .ref h0)] := hl
  skip
  refine lv_aload_n hx hb dX3_init_0 rfl (lv_at hl 0 rfl) ?_
  refine W.objInit hx hb hown (hts (.methodLink RX3 3 objectInit) (by decide +kernel)) (hts (.instanceMethod objectInit) (by decide +kernel)) (hts (.code objectInit ⟨#[0xb1]⟩ 1 none) (by decide +kernel)) rfl (by rw [hml]; exact hl.1) rfl dX3_init_1 (Nat.le_of_ble_eq_true rfl) (Nat.le_of_ble_eq_true rfl) ?_
  refine W.eq (g2 := F0 m 4 ls []) rfl ?_
  refine lv_aload_n hx hb dX3_init_4 rfl (lv_at hl 0 rfl) ?_
  refine lv_bipush (v := 12) hx hb dX3_init_5 (by decide) ?_
  refine va_newa (atype := .int) (ty := .int) (a0 := (12, .inl (fun _ => 0))) (N' := 12) hx hb (hts (.arrayClass .int) (by decide +kernel)) rfl hK hP hD hS hA (fun cA => vp_cell_i cA 12 (fun _ => 0)) (by decide) (by decide) (Nat.le_of_ble_eq_true rfl) (Nat.le_of_ble_eq_true rfl) (Nat.le_of_ble_eq_true rfl) dX3_init_7 (fun q_1 k_2 H hK hP hD hS => ?_)
  have hP : va_P (dC, dI) vwCl [(h0, .inr (3, [.null, .int 0, .int 0, .null, .null])), (q_1, .inl (k_2, 12, .inl (fun _ => 0)))] H := hP
  have hD : va_D A [(h0, .inr (3, [.null, .int 0, .int 0, .null, .null])), (q_1, .inl (k_2, 12, .inl (fun _ => 0)))] := hD
  have hK : va_K (dC, dI) vwCl [(k_2, .int)] s := hK
  refine W.widen (k := 1) (n := 12) (Nat.le_of_ble_eq_true rfl) (Nat.le_of_ble_eq_true rfl) ?_
  refine va_putF (D := (dC, dI)) (ci := 3) (v := .ref q_1) (ty := .array .int) (C := RX3) (T := TX3) (N := 5) hx hb hts in_X3_init_X3 tyX3 tyX3_ok nmX3 hown hK hP hD hS 0 rfl rfl 0 (by decide) (hts (.fieldLink RX3 9 "ClayAccounts$Matcher" "partners" "[I") (by decide +kernel)) (fun _ h9 => h9) rfl hin rfl (by decide +kernel) rfl rfl (Nat.le_of_ble_eq_true rfl) dX3_init_9 (fun H locs hP hD hS => ?_)
  have hP : va_P (dC, dI) vwCl [(h0, .inr (3, [.ref q_1, .int 0, .int 0, .null, .null])), (q_1, .inl (k_2, 12, .inl (fun _ => 0)))] H := hP
  have hD : va_D A [(h0, .inr (3, [.ref q_1, .int 0, .int 0, .null, .null])), (q_1, .inl (k_2, 12, .inl (fun _ => 0)))] := hD
  refine lv_aload_n hx hb dX3_init_12 rfl (lv_at hl 0 rfl) ?_
  refine lv_sipush (v := 144) hx hb dX3_init_13 (by decide) ?_
  refine va_newa (atype := .int) (ty := .int) (a0 := (144, .inl (fun _ => 0))) (N' := 144) hx hb (hts (.arrayClass .int) (by decide +kernel)) rfl hK hP hD hS hA (fun cA => vp_cell_i cA 144 (fun _ => 0)) (by decide) (by decide) (Nat.le_of_ble_eq_true rfl) (Nat.le_of_ble_eq_true rfl) (Nat.le_of_ble_eq_true rfl) dX3_init_16 (fun q_3 k_4 H hK hP hD hS => ?_)
  have hP : va_P (dC, dI) vwCl [(h0, .inr (3, [.ref q_1, .int 0, .int 0, .null, .null])), (q_1, .inl (k_2, 12, .inl (fun _ => 0))), (q_3, .inl (k_4, 144, .inl (fun _ => 0)))] H := hP
  have hD : va_D A [(h0, .inr (3, [.ref q_1, .int 0, .int 0, .null, .null])), (q_1, .inl (k_2, 12, .inl (fun _ => 0))), (q_3, .inl (k_4, 144, .inl (fun _ => 0)))] := hD
  have hK : va_K (dC, dI) vwCl [(k_2, .int), (k_4, .int)] s := hK
  refine W.widen (k := 2) (n := 156) (Nat.le_of_ble_eq_true rfl) (Nat.le_of_ble_eq_true rfl) ?_
  refine va_putF (D := (dC, dI)) (ci := 3) (v := .ref q_3) (ty := .array .int) (C := RX3) (T := TX3) (N := 5) hx hb hts in_X3_init_X3 tyX3 tyX3_ok nmX3 hown hK hP hD hS 0 rfl rfl 3 (by decide) (hts (.fieldLink RX3 15 "ClayAccounts$Matcher" "weights" "[I") (by decide +kernel)) (fun _ h9 => h9) rfl hin rfl (by decide +kernel) rfl rfl (Nat.le_of_ble_eq_true rfl) dX3_init_18 (fun H locs hP hD hS => ?_)
  have hP : va_P (dC, dI) vwCl [(h0, .inr (3, [.ref q_1, .int 0, .int 0, .ref q_3, .null])), (q_1, .inl (k_2, 12, .inl (fun _ => 0))), (q_3, .inl (k_4, 144, .inl (fun _ => 0)))] H := hP
  have hD : va_D A [(h0, .inr (3, [.ref q_1, .int 0, .int 0, .ref q_3, .null])), (q_1, .inl (k_2, 12, .inl (fun _ => 0))), (q_3, .inl (k_4, 144, .inl (fun _ => 0)))] := hD
  refine lv_aload_n hx hb dX3_init_21 rfl (lv_at hl 0 rfl) ?_
  refine lv_sipush (v := 4096) hx hb dX3_init_22 (by decide) ?_
  refine va_newa (atype := .int) (ty := .int) (a0 := (4096, .inl (fun _ => 0))) (N' := 4096) hx hb (hts (.arrayClass .int) (by decide +kernel)) rfl hK hP hD hS hA (fun cA => vp_cell_i cA 4096 (fun _ => 0)) (by decide) (by decide) (Nat.le_of_ble_eq_true rfl) (Nat.le_of_ble_eq_true rfl) (Nat.le_of_ble_eq_true rfl) dX3_init_25 (fun q_5 k_6 H hK hP hD hS => ?_)
  have hP : va_P (dC, dI) vwCl [(h0, .inr (3, [.ref q_1, .int 0, .int 0, .ref q_3, .null])), (q_1, .inl (k_2, 12, .inl (fun _ => 0))), (q_3, .inl (k_4, 144, .inl (fun _ => 0))), (q_5, .inl (k_6, 4096, .inl (fun _ => 0)))] H := hP
  have hD : va_D A [(h0, .inr (3, [.ref q_1, .int 0, .int 0, .ref q_3, .null])), (q_1, .inl (k_2, 12, .inl (fun _ => 0))), (q_3, .inl (k_4, 144, .inl (fun _ => 0))), (q_5, .inl (k_6, 4096, .inl (fun _ => 0)))] := hD
  have hK : va_K (dC, dI) vwCl [(k_2, .int), (k_4, .int), (k_6, .int)] s := hK
  refine W.widen (k := 3) (n := 4252) (Nat.le_of_ble_eq_true rfl) (Nat.le_of_ble_eq_true rfl) ?_
  refine va_putF (D := (dC, dI)) (ci := 3) (v := .ref q_5) (ty := .array .int) (C := RX3) (T := TX3) (N := 5) hx hb hts in_X3_init_X3 tyX3 tyX3_ok nmX3 hown hK hP hD hS 0 rfl rfl 4 (by decide) (hts (.fieldLink RX3 18 "ClayAccounts$Matcher" "best" "[I") (by decide +kernel)) (fun _ h9 => h9) rfl hin rfl (by decide +kernel) rfl rfl (Nat.le_of_ble_eq_true rfl) dX3_init_27 (fun H locs hP hD hS => ?_)
  have hP : va_P (dC, dI) vwCl [(h0, .inr (3, [.ref q_1, .int 0, .int 0, .ref q_3, .ref q_5])), (q_1, .inl (k_2, 12, .inl (fun _ => 0))), (q_3, .inl (k_4, 144, .inl (fun _ => 0))), (q_5, .inl (k_6, 4096, .inl (fun _ => 0)))] H := hP
  have hD : va_D A [(h0, .inr (3, [.ref q_1, .int 0, .int 0, .ref q_3, .ref q_5])), (q_1, .inl (k_2, 12, .inl (fun _ => 0))), (q_3, .inl (k_4, 144, .inl (fun _ => 0))), (q_5, .inl (k_6, 4096, .inl (fun _ => 0)))] := hD
  refine lv_aload_n hx hb dX3_init_30 rfl (lv_at hl 0 rfl) ?_
  refine va_get (D := (dC, dI)) (ci := 3) (v := .ref q_1) (C := RX3) (T := TX3) (N := 5) hx hb hts in_X3_init_X3 hown hK hP 0 rfl rfl 0 (by decide) (hts (.fieldLink RX3 9 "ClayAccounts$Matcher" "partners" "[I") (by decide +kernel)) (fun _ h9 => h9) rfl dX3_init_31 ?_
  refine lv_iconst (v := (-1)) hx hb dX3_init_34 (by decide) ?_
  have hPc := hP.sub (ws' := [(q_1, .inl (k_2, 12, .inl (fun _ => 0)))]) [1] rfl
  have hDc := hD.sub (ws' := [(q_1, .inl (k_2, 12, .inl (fun _ => 0)))]) [1] (by decide) rfl
  have hKc := hK.sub (tys' := [(k_2, .int)]) [0] rfl
  have hFc := va_free (wc := [(q_1, .inl (k_2, 12, .inl (fun _ => 0)))]) hD hS hA [1] rfl
  refine va_callv (va_runS (As := [.ref q_1, .int (-1)]) (rest := []) ⟨hx, hb, hml, hown, hts⟩ (c_fill_i l dC dI q_1 k_2 12 (fun _ => 0) ((-1)) H.size (by decide)) (va_cwS 2 hts gX3_init_J7_fill_53178 rfl rfl rfl (by decide +kernel) ⟨Nat.le_of_ble_eq_true rfl, Nat.le_of_ble_eq_true rfl⟩) ⟨fun a U g mk q => by obtain ⟨q0, q1, qX, qP, qK, qD⟩ := q; exact ⟨q0, q1, zz_X.same (u := U) (U := U.calling g mk a) rfl qX, qP, va_K.moved (u := U) (U := U.calling g mk a) (Vm.Alike.refl U.vm) qK, qD⟩, fun U hU hW => ⟨rfl, by rw [hU], zz_X.warm hW hzX, by rw [hU]; exact hPc, va_K.moved hW.alike hKc, hDc.weaken (fun _ _ _ _ => trivial)⟩⟩ rfl rfl hl.1 rfl (lv_room (Nat.le_of_ble_eq_true rfl)) dX3_init_35 ⟨Nat.le_of_ble_eq_true rfl, Nat.le_of_ble_eq_true rfl⟩) hS (fun q _ h => hFc q h) hFc (fun u t H1 locs ht hvm hw hB hz1 hk1 hS => ?_)
  obtain ⟨f_7, hP1, hK1, hD1⟩ := hB
  rw [ht] at hP1
  have hK1 := va_K.moved hvm.symm hK1
  obtain ⟨hP, hD⟩ := va_join (wr := [(h0, .inr (3, [.ref q_1, .int 0, .int 0, .ref q_3, .ref q_5])), (q_3, .inl (k_4, 144, .inl (fun _ => 0))), (q_5, .inl (k_6, 4096, .inl (fun _ => 0)))]) (w1 := [(q_1, .inl (k_2, 12, .inl f_7))]) hP hD [1] [0, 2, 3] rfl rfl (by decide) (by decide) hk1 hFc hP1 hD1
  have hK := (hK.sub (tys' := [(k_2, .int), (k_4, .int), (k_6, .int)]) [0, 1, 2] rfl).app (hK1.sub (tys' := []) [] rfl)
  generalize H1 = H at hP hS ⊢
  have hP : va_P (dC, dI) vwCl [(h0, .inr (3, [.ref q_1, .int 0, .int 0, .ref q_3, .ref q_5])), (q_3, .inl (k_4, 144, .inl (fun _ => 0))), (q_5, .inl (k_6, 4096, .inl (fun _ => 0))), (q_1, .inl (k_2, 12, .inl f_7))] H := hP
  have hD : va_D A [(h0, .inr (3, [.ref q_1, .int 0, .int 0, .ref q_3, .ref q_5])), (q_3, .inl (k_4, 144, .inl (fun _ => 0))), (q_5, .inl (k_6, 4096, .inl (fun _ => 0))), (q_1, .inl (k_2, 12, .inl f_7))] := hD
  have hK : va_K (dC, dI) vwCl [(k_2, .int), (k_4, .int), (k_6, .int)] s := hK
  refine W.widen (k := 3) (n := 4252) (Nat.le_of_ble_eq_true rfl) (Nat.le_of_ble_eq_true rfl) ?_
  have hP9 := hP.sub (ws' := [(h0, .inr (3, [.ref q_1, .int 0, .int 0, .ref q_3, .ref q_5])), (q_1, .inl (k_2, 12, .inl f_7)), (q_5, .inl (k_6, 4096, .inl (fun _ => 0)))]) [0, 3, 2] rfl
  have hD9 := hD.sub (ws' := [(h0, .inr (3, [.ref q_1, .int 0, .int 0, .ref q_3, .ref q_5])), (q_1, .inl (k_2, 12, .inl f_7)), (q_5, .inl (k_6, 4096, .inl (fun _ => 0)))]) [0, 3, 2] (by decide) rfl
  have hK9 := hK.sub (tys' := [(k_2, .int), (k_6, .int)]) [0, 2] rfl
  refine W.widen (k := 3) (n := 4252) (Nat.le_of_ble_eq_true rfl) (Nat.le_of_ble_eq_true rfl) ?_
  exact W.vret hx hb hr (fun t ht hW => ⟨⟨(), rfl, trivial, q_1, q_3, q_5, k_2, k_6, f_7, by rw [ht]; exact hP9, va_K.moved hW.alike hK9, hD9⟩, hS.F ht⟩) hS.2.2 dX3_init_38
end
