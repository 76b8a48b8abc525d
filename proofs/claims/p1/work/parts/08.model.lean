-- ===== printed names =====
def wsX13_in : List Cond := .code yX13_in cX13_in 3 (some .boolean) :: ([])
def wsX13_fails : List Cond := .code yX13_fails cX13_fails 2 (some .int) :: ([.fieldLink RX13 48 "LastroomModel" "code" "I"] ++ wsX130)
def wsX13_failsBoolean : List Cond := .code yX13_failsBoolean cX13_failsBoolean 2 (some .boolean) :: ([.fieldLink RX13 48 "LastroomModel" "code" "I"] ++ wsX130)
def wsX13_lowest : List Cond := .code yX13_lowest cX13_lowest 1 (some .int) :: ([])
def wsX13_highest : List Cond := .code yX13_highest cX13_highest 1 (some .int) :: ([])
def wsX13_isSystem : List Cond := .code yX13_isSystem cX13_isSystem 1 (some .boolean) :: ([])
def wsX13_isSize : List Cond := .code yX13_isSize cX13_isSize 2 (some .boolean) :: ([.methodLink RX13 52 yX13_isSystem, .static yX13_isSystem, .initialized RX13, .code yX13_isSystem cX13_isSystem 1 (some .boolean), .methodLink RX13 56 yX13_lowest, .static yX13_lowest, .code yX13_lowest cX13_lowest 1 (some .int), .methodLink RX13 60 yX13_highest, .static yX13_highest, .code yX13_highest cX13_highest 1 (some .int), .methodLink RX13 63 yX13_in, .static yX13_in, .code yX13_in cX13_in 3 (some .boolean)])
def wsX13_long3 : List Cond := .code yX13_long3 cX13_long3 2 (some .int) :: ([])
def wsX13_isModel : List Cond := .code yX13_isModel cX13_isModel 2 (some .boolean) :: ([.fieldLink RX13 10 "LastroomModel" "models" "Ljava/util/List;", .methodLink RX13 84 ⟨"java/util/List", "size", "()I"⟩, .selects RJx4a65c ⟨"java/util/List", "size", "()I"⟩ yJx4a65c_size_8abf5, .instanceMethod yJx4a65c_size_8abf5, .initialized RJx4a65c, .code yJx4a65c_size_8abf5 cJx4a65c_size_8abf5 1 (some .int), .fieldLink RJx4a65c 48 "java/util/ArrayList" "size" "I", .methodLink RX13 63 yX13_in, .static yX13_in, .initialized RX13, .code yX13_in cX13_in 3 (some .boolean)] ++ wsX130 ++ wsJx4a65c0)
def wsX13_isLast : List Cond := .code yX13_isLast cX13_isLast 3 (some .boolean) :: ([.fieldLink RX13 48 "LastroomModel" "code" "I", .methodLink RX13 99 yX13_isModel, .instanceMethod yX13_isModel, .selects RX13 yX13_isModel yX13_isModel, .initialized RX13, .code yX13_isModel cX13_isModel 2 (some .boolean), .fieldLink RX13 10 "LastroomModel" "models" "Ljava/util/List;", .methodLink RX13 84 ⟨"java/util/List", "size", "()I"⟩, .selects RJx4a65c ⟨"java/util/List", "size", "()I"⟩ yJx4a65c_size_8abf5, .instanceMethod yJx4a65c_size_8abf5, .initialized RJx4a65c, .code yJx4a65c_size_8abf5 cJx4a65c_size_8abf5 1 (some .int), .fieldLink RJx4a65c 48 "java/util/ArrayList" "size" "I", .methodLink RX13 63 yX13_in, .static yX13_in, .code yX13_in cX13_in 3 (some .boolean)] ++ wsX130 ++ wsJx4a65c0)
def wsX13_isFoot : List Cond := .code yX13_isFoot cX13_isFoot 2 (some .boolean) :: ([.methodLink RX13 63 yX13_in, .static yX13_in, .initialized RX13, .code yX13_in cX13_in 3 (some .boolean)])
def wsX13_isStyle : List Cond := .code yX13_isStyle cX13_isStyle 2 (some .boolean) :: ([.fieldLink RX13 20 "LastroomModel" "styles" "Ljava/util/List;", .methodLink RX13 84 ⟨"java/util/List", "size", "()I"⟩, .selects RJx4a65c ⟨"java/util/List", "size", "()I"⟩ yJx4a65c_size_8abf5, .instanceMethod yJx4a65c_size_8abf5, .initialized RJx4a65c, .code yJx4a65c_size_8abf5 cJx4a65c_size_8abf5 1 (some .int), .fieldLink RJx4a65c 48 "java/util/ArrayList" "size" "I", .methodLink RX13 63 yX13_in, .static yX13_in, .initialized RX13, .code yX13_in cX13_in 3 (some .boolean)] ++ wsX130 ++ wsJx4a65c0)
def wsX13_isHide : List Cond := .code yX13_isHide cX13_isHide 2 (some .boolean) :: ([.fieldLink RX13 23 "LastroomModel" "hides" "Ljava/util/List;", .methodLink RX13 84 ⟨"java/util/List", "size", "()I"⟩, .selects RJx4a65c ⟨"java/util/List", "size", "()I"⟩ yJx4a65c_size_8abf5, .instanceMethod yJx4a65c_size_8abf5, .initialized RJx4a65c, .code yJx4a65c_size_8abf5 cJx4a65c_size_8abf5 1 (some .int), .fieldLink RJx4a65c 48 "java/util/ArrayList" "size" "I", .methodLink RX13 63 yX13_in, .static yX13_in, .initialized RX13, .code yX13_in cX13_in 3 (some .boolean)] ++ wsX130 ++ wsJx4a65c0)
def wsX13_isTicket : List Cond := .code yX13_isTicket cX13_isTicket 2 (some .boolean) :: ([.fieldLink RX13 26 "LastroomModel" "tickets" "Ljava/util/List;", .methodLink RX13 84 ⟨"java/util/List", "size", "()I"⟩, .selects RJx4a65c ⟨"java/util/List", "size", "()I"⟩ yJx4a65c_size_8abf5, .instanceMethod yJx4a65c_size_8abf5, .initialized RJx4a65c, .code yJx4a65c_size_8abf5 cJx4a65c_size_8abf5 1 (some .int), .fieldLink RJx4a65c 48 "java/util/ArrayList" "size" "I", .methodLink RX13 63 yX13_in, .static yX13_in, .initialized RX13, .code yX13_in cX13_in 3 (some .boolean)] ++ wsX130 ++ wsJx4a65c0)
def wsX13_isPiece_r1 : List Cond := [Cond.fieldLink RX13 26 "LastroomModel" "tickets" "Ljava/util/List;", Cond.classLink RX13 125 "LastroomModel$Ticket", Cond.methodLink RX13 221 yX13_isTicket, Cond.instanceMethod yX13_isTicket, Cond.selects RX13 yX13_isTicket yX13_isTicket, Cond.initialized RX13, Cond.code yX13_isTicket cX13_isTicket 2 (some .boolean), Cond.methodLink RX13 84 ⟨"java/util/List", "size", "()I"⟩, Cond.selects RJx4a65c ⟨"java/util/List", "size", "()I"⟩ yJx4a65c_size_8abf5, Cond.instanceMethod yJx4a65c_size_8abf5, Cond.initialized RJx4a65c, Cond.code yJx4a65c_size_8abf5 cJx4a65c_size_8abf5 1 (some .int), Cond.fieldLink RJx4a65c 48 "java/util/ArrayList" "size" "I", Cond.methodLink RX13 63 yX13_in, Cond.static yX13_in, Cond.code yX13_in cX13_in 3 (some .boolean), Cond.methodLink RX13 94 ⟨"java/util/List", "get", "(I)Ljava/lang/Object;"⟩, Cond.selects RJx4a65c ⟨"java/util/List", "get", "(I)Ljava/lang/Object;"⟩ yJx4a65c_get_915e3, Cond.instanceMethod yJx4a65c_get_915e3, Cond.code yJx4a65c_get_915e3 cJx4a65c_get_915e3 2 (some (.object "java/lang/Object")), Cond.methodLink RJx4a65c 118 yJ15_checkIndex_7cf53, Cond.static yJ15_checkIndex_7cf53, Cond.initialized RJ15, Cond.code yJ15_checkIndex_7cf53 cJ15_checkIndex_7cf53 2 (some .int)]
def wsX13_isPiece_r2 : List Cond := [Cond.methodLink RJ15 105 yJ3_checkIndex_8e157, Cond.static yJ3_checkIndex_8e157, Cond.initialized RJ3, Cond.code yJ3_checkIndex_8e157 cJ3_checkIndex_8e157 3 (some .int), Cond.methodLink RJx4a65c 123 yJx4a65c_elementData_915e3, Cond.instanceMethod yJx4a65c_elementData_915e3, Cond.selects RJx4a65c yJx4a65c_elementData_915e3 yJx4a65c_elementData_915e3, Cond.code yJx4a65c_elementData_915e3 cJx4a65c_elementData_915e3 2 (some (.object "java/lang/Object")), Cond.fieldLink RJx4a65c 9 "java/util/ArrayList" "elementData" "[Ljava/lang/Object;"]
def wsX13_isPiece : List Cond := .code yX13_isPiece cX13_isPiece 3 (some .boolean) :: ((wsX13_isPiece_r1 ++ wsX13_isPiece_r2) ++ wsX130 ++ wsX120 ++ wsX110 ++ wsJx4a65c0)
def wsX13_isSeam_r1 : List Cond := [Cond.fieldLink RX13 26 "LastroomModel" "tickets" "Ljava/util/List;", Cond.classLink RX13 125 "LastroomModel$Ticket", Cond.methodLink RX13 221 yX13_isTicket, Cond.instanceMethod yX13_isTicket, Cond.selects RX13 yX13_isTicket yX13_isTicket, Cond.initialized RX13, Cond.code yX13_isTicket cX13_isTicket 2 (some .boolean), Cond.methodLink RX13 84 ⟨"java/util/List", "size", "()I"⟩, Cond.selects RJx4a65c ⟨"java/util/List", "size", "()I"⟩ yJx4a65c_size_8abf5, Cond.instanceMethod yJx4a65c_size_8abf5, Cond.initialized RJx4a65c, Cond.code yJx4a65c_size_8abf5 cJx4a65c_size_8abf5 1 (some .int), Cond.fieldLink RJx4a65c 48 "java/util/ArrayList" "size" "I", Cond.methodLink RX13 63 yX13_in, Cond.static yX13_in, Cond.code yX13_in cX13_in 3 (some .boolean), Cond.methodLink RX13 94 ⟨"java/util/List", "get", "(I)Ljava/lang/Object;"⟩, Cond.selects RJx4a65c ⟨"java/util/List", "get", "(I)Ljava/lang/Object;"⟩ yJx4a65c_get_915e3, Cond.instanceMethod yJx4a65c_get_915e3, Cond.code yJx4a65c_get_915e3 cJx4a65c_get_915e3 2 (some (.object "java/lang/Object")), Cond.methodLink RJx4a65c 118 yJ15_checkIndex_7cf53, Cond.static yJ15_checkIndex_7cf53, Cond.initialized RJ15, Cond.code yJ15_checkIndex_7cf53 cJ15_checkIndex_7cf53 2 (some .int)]
def wsX13_isSeam_r2 : List Cond := [Cond.methodLink RJ15 105 yJ3_checkIndex_8e157, Cond.static yJ3_checkIndex_8e157, Cond.initialized RJ3, Cond.code yJ3_checkIndex_8e157 cJ3_checkIndex_8e157 3 (some .int), Cond.methodLink RJx4a65c 123 yJx4a65c_elementData_915e3, Cond.instanceMethod yJx4a65c_elementData_915e3, Cond.selects RJx4a65c yJx4a65c_elementData_915e3 yJx4a65c_elementData_915e3, Cond.code yJx4a65c_elementData_915e3 cJx4a65c_elementData_915e3 2 (some (.object "java/lang/Object")), Cond.fieldLink RJx4a65c 9 "java/util/ArrayList" "elementData" "[Ljava/lang/Object;"]
def wsX13_isSeam : List Cond := .code yX13_isSeam cX13_isSeam 3 (some .boolean) :: ((wsX13_isSeam_r1 ++ wsX13_isSeam_r2) ++ wsX130 ++ wsX120 ++ wsX110 ++ wsJx4a65c0)
def wsX13_many_r1 : List Cond := [Cond.fieldLink RX13 26 "LastroomModel" "tickets" "Ljava/util/List;", Cond.classLink RX13 125 "LastroomModel$Ticket", Cond.methodLink RX13 111 ⟨"java/util/List", "iterator", "()Ljava/util/Iterator;"⟩, Cond.selects RJx4a65c ⟨"java/util/List", "iterator", "()Ljava/util/Iterator;"⟩ yJx4a65c_iterator_32c93, Cond.instanceMethod yJx4a65c_iterator_32c93, Cond.initialized RJx4a65c, Cond.code yJx4a65c_iterator_32c93 cJx4a65c_iterator_32c93 1 (some (.object "java/util/Iterator")), Cond.classLink RJx4a65c 267 RJx35411, Cond.instantiable RJx35411 4, Cond.initialized RJx35411, Cond.methodLink RJx4a65c 269 yJx35411_init_45d68, Cond.instanceMethod yJx35411_init_45d68, Cond.code yJx35411_init_45d68 cJx35411_init_45d68 2 none, Cond.fieldLink RJx35411 1 "java/util/ArrayList$Itr" "this$0" "Ljava/util/ArrayList;", Cond.methodLink RJx35411 7 objectInit, Cond.instanceMethod objectInit, Cond.code objectInit ⟨#[0xb1]⟩ 1 none, Cond.fieldLink RJx35411 13 "java/util/ArrayList$Itr" "lastRet" "I", Cond.fieldLink RJx35411 17 "java/util/ArrayList" "modCount" "I", Cond.sameField "java/util/ArrayList" "java/util/AbstractList" "modCount" "I", Cond.fieldLink RJx35411 22 "java/util/ArrayList$Itr" "expectedModCount" "I", Cond.methodLink RX13 115 ⟨"java/util/Iterator", "hasNext", "()Z"⟩, Cond.selects RJx35411 ⟨"java/util/Iterator", "hasNext", "()Z"⟩ yJx35411_hasNext_aae02, Cond.instanceMethod yJx35411_hasNext_aae02]
def wsX13_many_r2 : List Cond := [Cond.code yJx35411_hasNext_aae02 cJx35411_hasNext_aae02 1 (some .boolean), Cond.fieldLink RJx35411 25 "java/util/ArrayList$Itr" "cursor" "I", Cond.methodLink RX13 121 ⟨"java/util/Iterator", "next", "()Ljava/lang/Object;"⟩, Cond.selects RJx35411 ⟨"java/util/Iterator", "next", "()Ljava/lang/Object;"⟩ yJx35411_next_0502b, Cond.instanceMethod yJx35411_next_0502b, Cond.code yJx35411_next_0502b cJx35411_next_0502b 3 (some (.object "java/lang/Object")), Cond.fieldLink RJx35411 37 "java/util/ArrayList" "elementData" "[Ljava/lang/Object;", Cond.methodLink RJx35411 31 yJx35411_checkForComodification_da8c8, Cond.instanceMethod yJx35411_checkForComodification_da8c8, Cond.selects RJx35411 yJx35411_checkForComodification_da8c8 yJx35411_checkForComodification_da8c8, Cond.code yJx35411_checkForComodification_da8c8 cJx35411_checkForComodification_da8c8 1 none, Cond.methodLink RX13 309 yX12_has, Cond.instanceMethod yX12_has, Cond.selects RX12 yX12_has yX12_has, Cond.initialized RX12, Cond.code yX12_has cX12_has 3 (some .boolean), Cond.fieldLink RX12 11 "LastroomModel$Ticket" "hides" "[[I", Cond.fieldLink RX12 16 "LastroomModel$Ticket" "cutters" "[[I", Cond.fieldLink RX12 22 "LastroomModel$Ticket" "sewers" "[[I", Cond.fieldLink RX12 33 "LastroomModel$Ticket" "lot" "I", Cond.fieldLink RX12 41 "LastroomModel$Ticket" "size" "I", Cond.methodLink RX12 68 yX12_hasAny, Cond.instanceMethod yX12_hasAny, Cond.selects RX12 yX12_hasAny yX12_hasAny]
def wsX13_many_r3 : List Cond := [Cond.code yX12_hasAny cX12_hasAny 11 (some .boolean)]
def wsX13_many : List Cond := .code yX13_many cX13_many 7 (some .int) :: ((wsX13_many_r1 ++ (wsX13_many_r2 ++ wsX13_many_r3)) ++ wsX130 ++ wsX120 ++ wsJx354110 ++ wsJx4a65c0 ++ (vx_atM "java/lang/ArrayIndexOutOfBoundsException" ["java/lang/IndexOutOfBoundsException", "java/lang/RuntimeException", "java/lang/Exception"]).filter goodWord)
def wsX13_why_r1 : List Cond := [Cond.methodLink RX13 312 yX13_many, Cond.instanceMethod yX13_many, Cond.selects RX13 yX13_many yX13_many, Cond.initialized RX13, Cond.code yX13_many cX13_many 7 (some .int), Cond.fieldLink RX13 26 "LastroomModel" "tickets" "Ljava/util/List;", Cond.classLink RX13 125 "LastroomModel$Ticket", Cond.methodLink RX13 111 ⟨"java/util/List", "iterator", "()Ljava/util/Iterator;"⟩, Cond.selects RJx4a65c ⟨"java/util/List", "iterator", "()Ljava/util/Iterator;"⟩ yJx4a65c_iterator_32c93, Cond.instanceMethod yJx4a65c_iterator_32c93, Cond.initialized RJx4a65c, Cond.code yJx4a65c_iterator_32c93 cJx4a65c_iterator_32c93 1 (some (.object "java/util/Iterator")), Cond.classLink RJx4a65c 267 RJx35411, Cond.instantiable RJx35411 4, Cond.initialized RJx35411, Cond.methodLink RJx4a65c 269 yJx35411_init_45d68, Cond.instanceMethod yJx35411_init_45d68, Cond.code yJx35411_init_45d68 cJx35411_init_45d68 2 none, Cond.fieldLink RJx35411 1 "java/util/ArrayList$Itr" "this$0" "Ljava/util/ArrayList;", Cond.methodLink RJx35411 7 objectInit, Cond.instanceMethod objectInit, Cond.code objectInit ⟨#[0xb1]⟩ 1 none, Cond.fieldLink RJx35411 13 "java/util/ArrayList$Itr" "lastRet" "I", Cond.fieldLink RJx35411 17 "java/util/ArrayList" "modCount" "I"]
def wsX13_why_r2 : List Cond := [Cond.sameField "java/util/ArrayList" "java/util/AbstractList" "modCount" "I", Cond.fieldLink RJx35411 22 "java/util/ArrayList$Itr" "expectedModCount" "I", Cond.methodLink RX13 115 ⟨"java/util/Iterator", "hasNext", "()Z"⟩, Cond.selects RJx35411 ⟨"java/util/Iterator", "hasNext", "()Z"⟩ yJx35411_hasNext_aae02, Cond.instanceMethod yJx35411_hasNext_aae02, Cond.code yJx35411_hasNext_aae02 cJx35411_hasNext_aae02 1 (some .boolean), Cond.fieldLink RJx35411 25 "java/util/ArrayList$Itr" "cursor" "I", Cond.methodLink RX13 121 ⟨"java/util/Iterator", "next", "()Ljava/lang/Object;"⟩, Cond.selects RJx35411 ⟨"java/util/Iterator", "next", "()Ljava/lang/Object;"⟩ yJx35411_next_0502b, Cond.instanceMethod yJx35411_next_0502b, Cond.code yJx35411_next_0502b cJx35411_next_0502b 3 (some (.object "java/lang/Object")), Cond.fieldLink RJx35411 37 "java/util/ArrayList" "elementData" "[Ljava/lang/Object;", Cond.methodLink RJx35411 31 yJx35411_checkForComodification_da8c8, Cond.instanceMethod yJx35411_checkForComodification_da8c8, Cond.selects RJx35411 yJx35411_checkForComodification_da8c8 yJx35411_checkForComodification_da8c8, Cond.code yJx35411_checkForComodification_da8c8 cJx35411_checkForComodification_da8c8 1 none, Cond.methodLink RX13 309 yX12_has, Cond.instanceMethod yX12_has, Cond.selects RX12 yX12_has yX12_has, Cond.initialized RX12, Cond.code yX12_has cX12_has 3 (some .boolean), Cond.fieldLink RX12 11 "LastroomModel$Ticket" "hides" "[[I", Cond.fieldLink RX12 16 "LastroomModel$Ticket" "cutters" "[[I", Cond.fieldLink RX12 22 "LastroomModel$Ticket" "sewers" "[[I"]
def wsX13_why_r3 : List Cond := [Cond.fieldLink RX12 33 "LastroomModel$Ticket" "lot" "I", Cond.fieldLink RX12 41 "LastroomModel$Ticket" "size" "I", Cond.methodLink RX12 68 yX12_hasAny, Cond.instanceMethod yX12_hasAny, Cond.selects RX12 yX12_hasAny yX12_hasAny, Cond.code yX12_hasAny cX12_hasAny 11 (some .boolean)]
def wsX13_why : List Cond := .code yX13_why cX13_why 7 (some .int) :: ((wsX13_why_r1 ++ (wsX13_why_r2 ++ wsX13_why_r3)) ++ wsX130 ++ wsX120 ++ wsJx354110 ++ wsJx4a65c0 ++ (vx_atM "java/lang/ArrayIndexOutOfBoundsException" ["java/lang/IndexOutOfBoundsException", "java/lang/RuntimeException", "java/lang/Exception"]).filter goodWord)
theorem dX13_thrown_0 : decode cX13_thrown 0 = .ok (.aload_n 0, 1) := by decide +kernel
theorem dX13_thrown_1 : decode cX13_thrown 1 = .ok (.getfield 48, 3) := by decide +kernel
theorem dX13_thrown_4 : decode cX13_thrown 4 = .ok (.ireturn, 1) := by decide +kernel
theorem dX13_in_0 : decode cX13_in 0 = .ok (.iload_n 0, 1) := by decide +kernel
theorem dX13_in_1 : decode cX13_in 1 = .ok (.iload_n 1, 1) := by decide +kernel
theorem dX13_in_2 : decode cX13_in 2 = .ok (.if_icmp .lt 12, 3) := by decide +kernel
theorem dX13_in_5 : decode cX13_in 5 = .ok (.iload_n 0, 1) := by decide +kernel
theorem dX13_in_6 : decode cX13_in 6 = .ok (.iload_n 2, 1) := by decide +kernel
theorem dX13_in_7 : decode cX13_in 7 = .ok (.if_icmp .gt 7, 3) := by decide +kernel
theorem dX13_in_10 : decode cX13_in 10 = .ok (.iconst 1, 1) := by decide +kernel
theorem dX13_in_11 : decode cX13_in 11 = .ok (.goto 4, 3) := by decide +kernel
theorem dX13_in_14 : decode cX13_in 14 = .ok (.iconst 0, 1) := by decide +kernel
theorem dX13_in_15 : decode cX13_in 15 = .ok (.ireturn, 1) := by decide +kernel
theorem dX13_fails_0 : decode cX13_fails 0 = .ok (.aload_n 0, 1) := by decide +kernel
theorem dX13_fails_1 : decode cX13_fails 1 = .ok (.iload_n 1, 1) := by decide +kernel
theorem dX13_fails_2 : decode cX13_fails 2 = .ok (.putfield 48, 3) := by decide +kernel
theorem dX13_fails_5 : decode cX13_fails 5 = .ok (.iconst 0, 1) := by decide +kernel
theorem dX13_fails_6 : decode cX13_fails 6 = .ok (.ireturn, 1) := by decide +kernel
theorem dX13_failsBoolean_0 : decode cX13_failsBoolean 0 = .ok (.aload_n 0, 1) := by decide +kernel
theorem dX13_failsBoolean_1 : decode cX13_failsBoolean 1 = .ok (.iload_n 1, 1) := by decide +kernel
theorem dX13_failsBoolean_2 : decode cX13_failsBoolean 2 = .ok (.putfield 48, 3) := by decide +kernel
theorem dX13_failsBoolean_5 : decode cX13_failsBoolean 5 = .ok (.iconst 0, 1) := by decide +kernel
theorem dX13_failsBoolean_6 : decode cX13_failsBoolean 6 = .ok (.ireturn, 1) := by decide +kernel
theorem dX13_lowest_0 : decode cX13_lowest 0 = .ok (.iload_n 0, 1) := by decide +kernel
theorem dX13_lowest_1 : decode cX13_lowest 1 = .ok (.bipush 102, 2) := by decide +kernel
theorem dX13_lowest_3 : decode cX13_lowest 3 = .ok (.if_icmp .ne 8, 3) := by decide +kernel
theorem dX13_lowest_6 : decode cX13_lowest 6 = .ok (.bipush 15, 2) := by decide +kernel
theorem dX13_lowest_8 : decode cX13_lowest 8 = .ok (.goto 26, 3) := by decide +kernel
theorem dX13_lowest_11 : decode cX13_lowest 11 = .ok (.iload_n 0, 1) := by decide +kernel
theorem dX13_lowest_12 : decode cX13_lowest 12 = .ok (.bipush 117, 2) := by decide +kernel
theorem dX13_lowest_14 : decode cX13_lowest 14 = .ok (.if_icmp .ne 7, 3) := by decide +kernel
theorem dX13_lowest_17 : decode cX13_lowest 17 = .ok (.iconst 0, 1) := by decide +kernel
theorem dX13_lowest_18 : decode cX13_lowest 18 = .ok (.goto 16, 3) := by decide +kernel
theorem dX13_lowest_21 : decode cX13_lowest 21 = .ok (.iload_n 0, 1) := by decide +kernel
theorem dX13_lowest_22 : decode cX13_lowest 22 = .ok (.bipush 97, 2) := by decide +kernel
theorem dX13_lowest_24 : decode cX13_lowest 24 = .ok (.if_icmp .ne 7, 3) := by decide +kernel
theorem dX13_lowest_27 : decode cX13_lowest 27 = .ok (.iconst 1, 1) := by decide +kernel
theorem dX13_lowest_28 : decode cX13_lowest 28 = .ok (.goto 6, 3) := by decide +kernel
theorem dX13_lowest_31 : decode cX13_lowest 31 = .ok (.sipush 150, 3) := by decide +kernel
theorem dX13_lowest_34 : decode cX13_lowest 34 = .ok (.ireturn, 1) := by decide +kernel
theorem dX13_highest_0 : decode cX13_highest 0 = .ok (.iload_n 0, 1) := by decide +kernel
theorem dX13_highest_1 : decode cX13_highest 1 = .ok (.bipush 102, 2) := by decide +kernel
theorem dX13_highest_3 : decode cX13_highest 3 = .ok (.if_icmp .ne 8, 3) := by decide +kernel
theorem dX13_highest_6 : decode cX13_highest 6 = .ok (.bipush 50, 2) := by decide +kernel
theorem dX13_highest_8 : decode cX13_highest 8 = .ok (.goto 28, 3) := by decide +kernel
theorem dX13_highest_11 : decode cX13_highest 11 = .ok (.iload_n 0, 1) := by decide +kernel
theorem dX13_highest_12 : decode cX13_highest 12 = .ok (.bipush 117, 2) := by decide +kernel
theorem dX13_highest_14 : decode cX13_highest 14 = .ok (.if_icmp .ne 8, 3) := by decide +kernel
theorem dX13_highest_17 : decode cX13_highest 17 = .ok (.bipush 15, 2) := by decide +kernel
theorem dX13_highest_19 : decode cX13_highest 19 = .ok (.goto 17, 3) := by decide +kernel
theorem dX13_highest_22 : decode cX13_highest 22 = .ok (.iload_n 0, 1) := by decide +kernel
theorem dX13_highest_23 : decode cX13_highest 23 = .ok (.bipush 97, 2) := by decide +kernel
theorem dX13_highest_25 : decode cX13_highest 25 = .ok (.if_icmp .ne 8, 3) := by decide +kernel
theorem dX13_highest_28 : decode cX13_highest 28 = .ok (.bipush 16, 2) := by decide +kernel
theorem dX13_highest_30 : decode cX13_highest 30 = .ok (.goto 6, 3) := by decide +kernel
theorem dX13_highest_33 : decode cX13_highest 33 = .ok (.sipush 330, 3) := by decide +kernel
theorem dX13_highest_36 : decode cX13_highest 36 = .ok (.ireturn, 1) := by decide +kernel
theorem dX13_isSystem_0 : decode cX13_isSystem 0 = .ok (.iload_n 0, 1) := by decide +kernel
theorem dX13_isSystem_1 : decode cX13_isSystem 1 = .ok (.bipush 102, 2) := by decide +kernel
theorem dX13_isSystem_3 : decode cX13_isSystem 3 = .ok (.if_icmp .eq 21, 3) := by decide +kernel
theorem dX13_isSystem_6 : decode cX13_isSystem 6 = .ok (.iload_n 0, 1) := by decide +kernel
theorem dX13_isSystem_7 : decode cX13_isSystem 7 = .ok (.bipush 117, 2) := by decide +kernel
theorem dX13_isSystem_9 : decode cX13_isSystem 9 = .ok (.if_icmp .eq 15, 3) := by decide +kernel
theorem dX13_isSystem_12 : decode cX13_isSystem 12 = .ok (.iload_n 0, 1) := by decide +kernel
theorem dX13_isSystem_13 : decode cX13_isSystem 13 = .ok (.bipush 97, 2) := by decide +kernel
theorem dX13_isSystem_15 : decode cX13_isSystem 15 = .ok (.if_icmp .eq 9, 3) := by decide +kernel
theorem dX13_isSystem_18 : decode cX13_isSystem 18 = .ok (.iload_n 0, 1) := by decide +kernel
theorem dX13_isSystem_19 : decode cX13_isSystem 19 = .ok (.bipush 109, 2) := by decide +kernel
theorem dX13_isSystem_21 : decode cX13_isSystem 21 = .ok (.if_icmp .ne 7, 3) := by decide +kernel
theorem dX13_isSystem_24 : decode cX13_isSystem 24 = .ok (.iconst 1, 1) := by decide +kernel
theorem dX13_isSystem_25 : decode cX13_isSystem 25 = .ok (.goto 4, 3) := by decide +kernel
theorem dX13_isSystem_28 : decode cX13_isSystem 28 = .ok (.iconst 0, 1) := by decide +kernel
theorem dX13_isSystem_29 : decode cX13_isSystem 29 = .ok (.ireturn, 1) := by decide +kernel
set_option maxRecDepth 20000 in
theorem ggX13_isSize_X13_isSystem : GoodIn wsX13_isSize wsX13_isSystem := goodIn_r _ [4] (by decide +kernel) (by decide +kernel)
set_option maxRecDepth 20000 in
theorem gX13_isSize_X13_isSystem : GoodIn wsX13_isSize (va_wsS RX13 52 yX13_isSystem wsX13_isSystem) := goodIn_app (goodIn_of _ (by decide +kernel)) ggX13_isSize_X13_isSystem
set_option maxRecDepth 20000 in
theorem ggX13_isSize_X13_lowest : GoodIn wsX13_isSize wsX13_lowest := goodIn_r _ [7] (by decide +kernel) (by decide +kernel)
set_option maxRecDepth 20000 in
theorem gX13_isSize_X13_lowest : GoodIn wsX13_isSize (va_wsS RX13 56 yX13_lowest wsX13_lowest) := goodIn_app (goodIn_of _ (by decide +kernel)) ggX13_isSize_X13_lowest
set_option maxRecDepth 20000 in
theorem ggX13_isSize_X13_highest : GoodIn wsX13_isSize wsX13_highest := goodIn_r _ [10] (by decide +kernel) (by decide +kernel)
set_option maxRecDepth 20000 in
theorem gX13_isSize_X13_highest : GoodIn wsX13_isSize (va_wsS RX13 60 yX13_highest wsX13_highest) := goodIn_app (goodIn_of _ (by decide +kernel)) ggX13_isSize_X13_highest
set_option maxRecDepth 20000 in
theorem ggX13_isSize_X13_in : GoodIn wsX13_isSize wsX13_in := goodIn_r _ [13] (by decide +kernel) (by decide +kernel)
set_option maxRecDepth 20000 in
theorem gX13_isSize_X13_in : GoodIn wsX13_isSize (va_wsS RX13 63 yX13_in wsX13_in) := goodIn_app (goodIn_of _ (by decide +kernel)) ggX13_isSize_X13_in
theorem dX13_isSize_0 : decode cX13_isSize 0 = .ok (.iload_n 0, 1) := by decide +kernel
theorem dX13_isSize_1 : decode cX13_isSize 1 = .ok (.invokestatic 52, 3) := by decide +kernel
theorem dX13_isSize_4 : decode cX13_isSize 4 = .ok (.ifCond .eq 22, 3) := by decide +kernel
theorem dX13_isSize_7 : decode cX13_isSize 7 = .ok (.iload_n 1, 1) := by decide +kernel
theorem dX13_isSize_8 : decode cX13_isSize 8 = .ok (.iload_n 0, 1) := by decide +kernel
theorem dX13_isSize_9 : decode cX13_isSize 9 = .ok (.invokestatic 56, 3) := by decide +kernel
theorem dX13_isSize_12 : decode cX13_isSize 12 = .ok (.iload_n 0, 1) := by decide +kernel
theorem dX13_isSize_13 : decode cX13_isSize 13 = .ok (.invokestatic 60, 3) := by decide +kernel
theorem dX13_isSize_16 : decode cX13_isSize 16 = .ok (.invokestatic 63, 3) := by decide +kernel
theorem dX13_isSize_19 : decode cX13_isSize 19 = .ok (.ifCond .eq 7, 3) := by decide +kernel
theorem dX13_isSize_22 : decode cX13_isSize 22 = .ok (.iconst 1, 1) := by decide +kernel
theorem dX13_isSize_23 : decode cX13_isSize 23 = .ok (.goto 4, 3) := by decide +kernel
theorem dX13_isSize_26 : decode cX13_isSize 26 = .ok (.iconst 0, 1) := by decide +kernel
theorem dX13_isSize_27 : decode cX13_isSize 27 = .ok (.ireturn, 1) := by decide +kernel
theorem dX13_long3_0 : decode cX13_long3 0 = .ok (.iload_n 0, 1) := by decide +kernel
theorem dX13_long3_1 : decode cX13_long3 1 = .ok (.lookupswitch 65 #[(97, 54), (102, 35), (117, 43)], 35) := by decide +kernel
theorem dX13_long3_36 : decode cX13_long3 36 = .ok (.sipush 200, 3) := by decide +kernel
theorem dX13_long3_39 : decode cX13_long3 39 = .ok (.iload_n 1, 1) := by decide +kernel
theorem dX13_long3_40 : decode cX13_long3 40 = .ok (.imul, 1) := by decide +kernel
theorem dX13_long3_41 : decode cX13_long3 41 = .ok (.iconst 3, 1) := by decide +kernel
theorem dX13_long3_42 : decode cX13_long3 42 = .ok (.idiv, 1) := by decide +kernel
theorem dX13_long3_43 : decode cX13_long3 43 = .ok (.ireturn, 1) := by decide +kernel
theorem dX13_long3_44 : decode cX13_long3 44 = .ok (.sipush 254, 3) := by decide +kernel
theorem dX13_long3_47 : decode cX13_long3 47 = .ok (.iload_n 1, 1) := by decide +kernel
theorem dX13_long3_48 : decode cX13_long3 48 = .ok (.bipush 25, 2) := by decide +kernel
theorem dX13_long3_50 : decode cX13_long3 50 = .ok (.iadd, 1) := by decide +kernel
theorem dX13_long3_51 : decode cX13_long3 51 = .ok (.imul, 1) := by decide +kernel
theorem dX13_long3_52 : decode cX13_long3 52 = .ok (.iconst 3, 1) := by decide +kernel
theorem dX13_long3_53 : decode cX13_long3 53 = .ok (.idiv, 1) := by decide +kernel
theorem dX13_long3_54 : decode cX13_long3 54 = .ok (.ireturn, 1) := by decide +kernel
theorem dX13_long3_55 : decode cX13_long3 55 = .ok (.sipush 254, 3) := by decide +kernel
theorem dX13_long3_58 : decode cX13_long3 58 = .ok (.iload_n 1, 1) := by decide +kernel
theorem dX13_long3_59 : decode cX13_long3 59 = .ok (.bipush 24, 2) := by decide +kernel
theorem dX13_long3_61 : decode cX13_long3 61 = .ok (.iadd, 1) := by decide +kernel
theorem dX13_long3_62 : decode cX13_long3 62 = .ok (.imul, 1) := by decide +kernel
theorem dX13_long3_63 : decode cX13_long3 63 = .ok (.iconst 3, 1) := by decide +kernel
theorem dX13_long3_64 : decode cX13_long3 64 = .ok (.idiv, 1) := by decide +kernel
theorem dX13_long3_65 : decode cX13_long3 65 = .ok (.ireturn, 1) := by decide +kernel
theorem dX13_long3_66 : decode cX13_long3 66 = .ok (.bipush 10, 2) := by decide +kernel
theorem dX13_long3_68 : decode cX13_long3 68 = .ok (.iload_n 1, 1) := by decide +kernel
theorem dX13_long3_69 : decode cX13_long3 69 = .ok (.imul, 1) := by decide +kernel
theorem dX13_long3_70 : decode cX13_long3 70 = .ok (.ireturn, 1) := by decide +kernel
set_option maxRecDepth 20000 in
theorem ggX13_length_X13_isSize : GoodIn wsX13_length wsX13_isSize := goodIn_r _ [5, 6, 7, 4, 8, 9, 10, 11, 12, 13, 14, 15, 16, 17] (by decide +kernel) (by decide +kernel)
set_option maxRecDepth 20000 in
theorem gX13_length_X13_isSize : GoodIn wsX13_length (va_wsS RX13 67 yX13_isSize wsX13_isSize) := goodIn_app (goodIn_of _ (by decide +kernel)) ggX13_length_X13_isSize
set_option maxRecDepth 20000 in
theorem ggX13_length_X13_long3 : GoodIn wsX13_length wsX13_long3 := goodIn_r _ [20] (by decide +kernel) (by decide +kernel)
set_option maxRecDepth 20000 in
theorem gX13_length_X13_long3 : GoodIn wsX13_length (va_wsS RX13 71 yX13_long3 wsX13_long3) := goodIn_app (goodIn_of _ (by decide +kernel)) ggX13_length_X13_long3
set_option maxRecDepth 20000 in
theorem ggX13_length_X13_fails : GoodIn wsX13_length wsX13_fails := goodIn_r _ [24, 1, 25, 26, 27, 28, 29, 30, 31, 32, 33, 34, 35, 36, 37] (by decide +kernel) (by decide +kernel)
set_option maxRecDepth 20000 in
theorem gX13_length_X13_fails : GoodIn wsX13_length (wsV RX13 75 RX13 yX13_fails wsX13_fails) := goodIn_app (goodIn_of _ (by decide +kernel)) ggX13_length_X13_fails
theorem dX13_length_0 : decode cX13_length 0 = .ok (.aload_n 0, 1) := by decide +kernel
theorem dX13_length_1 : decode cX13_length 1 = .ok (.iconst 0, 1) := by decide +kernel
theorem dX13_length_2 : decode cX13_length 2 = .ok (.putfield 48, 3) := by decide +kernel
theorem dX13_length_5 : decode cX13_length 5 = .ok (.iload_n 1, 1) := by decide +kernel
theorem dX13_length_6 : decode cX13_length 6 = .ok (.iload_n 2, 1) := by decide +kernel
theorem dX13_length_7 : decode cX13_length 7 = .ok (.invokestatic 67, 3) := by decide +kernel
theorem dX13_length_10 : decode cX13_length 10 = .ok (.ifCond .eq 11, 3) := by decide +kernel
theorem dX13_length_13 : decode cX13_length 13 = .ok (.iload_n 1, 1) := by decide +kernel
theorem dX13_length_14 : decode cX13_length 14 = .ok (.iload_n 2, 1) := by decide +kernel
theorem dX13_length_15 : decode cX13_length 15 = .ok (.invokestatic 71, 3) := by decide +kernel
theorem dX13_length_18 : decode cX13_length 18 = .ok (.goto 8, 3) := by decide +kernel
theorem dX13_length_21 : decode cX13_length 21 = .ok (.aload_n 0, 1) := by decide +kernel
theorem dX13_length_22 : decode cX13_length 22 = .ok (.iconst 1, 1) := by decide +kernel
theorem dX13_length_23 : decode cX13_length 23 = .ok (.invokevirtual 75, 3) := by decide +kernel
theorem dX13_length_26 : decode cX13_length 26 = .ok (.ireturn, 1) := by decide +kernel
set_option maxRecDepth 20000 in
theorem ggX13_model_X13_in : GoodIn wsX13_model wsX13_in := goodIn_r _ [7] (by decide +kernel) (by decide +kernel)
set_option maxRecDepth 20000 in
theorem gX13_model_X13_in : GoodIn wsX13_model (va_wsS RX13 63 yX13_in wsX13_in) := goodIn_app (goodIn_of _ (by decide +kernel)) ggX13_model_X13_in
set_option maxRecDepth 20000 in
theorem ggX13_model_X13_fails : GoodIn wsX13_model wsX13_fails := goodIn_r _ [11, 1, 72, 73, 74, 75, 76, 77, 78, 79, 80, 81, 82, 83, 84] (by decide +kernel) (by decide +kernel)
set_option maxRecDepth 20000 in
theorem gX13_model_X13_fails : GoodIn wsX13_model (wsV RX13 75 RX13 yX13_fails wsX13_fails) := goodIn_app (goodIn_of _ (by decide +kernel)) ggX13_model_X13_fails
set_option maxRecDepth 20000 in
theorem ggX13_model_Jx4a65c_size_8abf5 : GoodIn wsX13_model wsJx4a65c_size_8abf5 := goodIn_r _ [16, 17, 85, 86, 87] (by decide +kernel) (by decide +kernel)
set_option maxRecDepth 20000 in
theorem gX13_model_Jx4a65c_size_8abf5_f84Jx4a65c : GoodIn wsX13_model (va_wsF RX13 84 RJx4a65c ⟨"java/util/List", "size", "()I"⟩ yJx4a65c_size_8abf5 wsJx4a65c_size_8abf5) := goodIn_app (goodIn_of _ (by decide +kernel)) ggX13_model_Jx4a65c_size_8abf5
set_option maxRecDepth 20000 in
theorem ggX13_model_Jx4a65c_add_9ea2d : GoodIn wsX13_model wsJx4a65c_add_9ea2d := goodIn_r _ [21, 22, 23, 24, 17, 25, 26, 27, 15, 28, 29, 30, 31, 32, 33, 34, 35, 36, 37, 38, 39, 40, 41, 42, 43, 44, 45, 46, 47, 48, 49, 50, 51, 52, 53, 54, 55, 56, 57, 58, 59, 60, 61, 62, 63, 64, 65, 66, 67, 68, 69, 70, 71, 85, 86, 87] (by decide +kernel) (by decide +kernel)
set_option maxRecDepth 20000 in
theorem gX13_model_Jx4a65c_add_9ea2d_f90Jx4a65c : GoodIn wsX13_model (va_wsF RX13 90 RJx4a65c ⟨"java/util/List", "add", "(Ljava/lang/Object;)Z"⟩ yJx4a65c_add_9ea2d wsJx4a65c_add_9ea2d) := goodIn_app (goodIn_of _ (by decide +kernel)) ggX13_model_Jx4a65c_add_9ea2d
theorem dX13_model_0 : decode cX13_model 0 = .ok (.aload_n 0, 1) := by decide +kernel
theorem dX13_model_1 : decode cX13_model 1 = .ok (.iconst 0, 1) := by decide +kernel
theorem dX13_model_2 : decode cX13_model 2 = .ok (.putfield 48, 3) := by decide +kernel
theorem dX13_model_5 : decode cX13_model 5 = .ok (.iload_n 1, 1) := by decide +kernel
theorem dX13_model_6 : decode cX13_model 6 = .ok (.sipush 1500, 3) := by decide +kernel
theorem dX13_model_9 : decode cX13_model 9 = .ok (.sipush 3500, 3) := by decide +kernel
theorem dX13_model_12 : decode cX13_model 12 = .ok (.invokestatic 63, 3) := by decide +kernel
theorem dX13_model_15 : decode cX13_model 15 = .ok (.ifCond .eq 14, 3) := by decide +kernel
theorem dX13_model_18 : decode cX13_model 18 = .ok (.iload_n 2, 1) := by decide +kernel
theorem dX13_model_19 : decode cX13_model 19 = .ok (.bipush 10, 2) := by decide +kernel
theorem dX13_model_21 : decode cX13_model 21 = .ok (.bipush 99, 2) := by decide +kernel
theorem dX13_model_23 : decode cX13_model 23 = .ok (.invokestatic 63, 3) := by decide +kernel
theorem dX13_model_26 : decode cX13_model 26 = .ok (.ifCond .ne 9, 3) := by decide +kernel
theorem dX13_model_29 : decode cX13_model 29 = .ok (.aload_n 0, 1) := by decide +kernel
theorem dX13_model_30 : decode cX13_model 30 = .ok (.iconst 1, 1) := by decide +kernel
theorem dX13_model_31 : decode cX13_model 31 = .ok (.invokevirtual 75, 3) := by decide +kernel
theorem dX13_model_34 : decode cX13_model 34 = .ok (.ireturn, 1) := by decide +kernel
theorem dX13_model_35 : decode cX13_model 35 = .ok (.aload_n 0, 1) := by decide +kernel
theorem dX13_model_36 : decode cX13_model 36 = .ok (.getfield 10, 3) := by decide +kernel
theorem dX13_model_39 : decode cX13_model 39 = .ok (.invokeinterface 84 1, 5) := by decide +kernel
theorem dX13_model_44 : decode cX13_model 44 = .ok (.iconst 5, 1) := by decide +kernel
theorem dX13_model_45 : decode cX13_model 45 = .ok (.if_icmp .ne 9, 3) := by decide +kernel
theorem dX13_model_54 : decode cX13_model 54 = .ok (.aload_n 0, 1) := by decide +kernel
theorem dX13_model_55 : decode cX13_model 55 = .ok (.getfield 10, 3) := by decide +kernel
theorem dX13_model_58 : decode cX13_model 58 = .ok (.iconst 2, 1) := by decide +kernel
theorem dX13_model_59 : decode cX13_model 59 = .ok (.newarray .int, 2) := by decide +kernel
theorem dX13_model_61 : decode cX13_model 61 = .ok (.dup, 1) := by decide +kernel
theorem dX13_model_62 : decode cX13_model 62 = .ok (.iconst 0, 1) := by decide +kernel
theorem dX13_model_63 : decode cX13_model 63 = .ok (.iload_n 1, 1) := by decide +kernel
theorem dX13_model_64 : decode cX13_model 64 = .ok (.iastore, 1) := by decide +kernel
theorem dX13_model_65 : decode cX13_model 65 = .ok (.dup, 1) := by decide +kernel
theorem dX13_model_66 : decode cX13_model 66 = .ok (.iconst 1, 1) := by decide +kernel
theorem dX13_model_67 : decode cX13_model 67 = .ok (.iload_n 2, 1) := by decide +kernel
theorem dX13_model_68 : decode cX13_model 68 = .ok (.iastore, 1) := by decide +kernel
theorem dX13_model_69 : decode cX13_model 69 = .ok (.invokeinterface 90 2, 5) := by decide +kernel
theorem dX13_model_74 : decode cX13_model 74 = .ok (.pop, 1) := by decide +kernel
theorem dX13_model_75 : decode cX13_model 75 = .ok (.aload_n 0, 1) := by decide +kernel
theorem dX13_model_76 : decode cX13_model 76 = .ok (.getfield 10, 3) := by decide +kernel
theorem dX13_model_79 : decode cX13_model 79 = .ok (.invokeinterface 84 1, 5) := by decide +kernel
theorem dX13_model_84 : decode cX13_model 84 = .ok (.iconst 1, 1) := by decide +kernel
theorem dX13_model_85 : decode cX13_model 85 = .ok (.isub, 1) := by decide +kernel
theorem dX13_model_86 : decode cX13_model 86 = .ok (.ireturn, 1) := by decide +kernel
set_option maxRecDepth 20000 in
theorem ggX13_isModel_Jx4a65c_size_8abf5 : GoodIn wsX13_isModel wsJx4a65c_size_8abf5 := goodIn_r _ [6, 7, 25, 26, 27] (by decide +kernel) (by decide +kernel)
set_option maxRecDepth 20000 in
theorem gX13_isModel_Jx4a65c_size_8abf5_f84Jx4a65c : GoodIn wsX13_isModel (va_wsF RX13 84 RJx4a65c ⟨"java/util/List", "size", "()I"⟩ yJx4a65c_size_8abf5 wsJx4a65c_size_8abf5) := goodIn_app (goodIn_of _ (by decide +kernel)) ggX13_isModel_Jx4a65c_size_8abf5
set_option maxRecDepth 20000 in
theorem ggX13_isModel_X13_in : GoodIn wsX13_isModel wsX13_in := goodIn_r _ [11] (by decide +kernel) (by decide +kernel)
set_option maxRecDepth 20000 in
theorem gX13_isModel_X13_in : GoodIn wsX13_isModel (va_wsS RX13 63 yX13_in wsX13_in) := goodIn_app (goodIn_of _ (by decide +kernel)) ggX13_isModel_X13_in
theorem dX13_isModel_0 : decode cX13_isModel 0 = .ok (.iload_n 1, 1) := by decide +kernel
theorem dX13_isModel_1 : decode cX13_isModel 1 = .ok (.iconst 0, 1) := by decide +kernel
theorem dX13_isModel_2 : decode cX13_isModel 2 = .ok (.aload_n 0, 1) := by decide +kernel
theorem dX13_isModel_3 : decode cX13_isModel 3 = .ok (.getfield 10, 3) := by decide +kernel
theorem dX13_isModel_6 : decode cX13_isModel 6 = .ok (.invokeinterface 84 1, 5) := by decide +kernel
theorem dX13_isModel_11 : decode cX13_isModel 11 = .ok (.iconst 1, 1) := by decide +kernel
theorem dX13_isModel_12 : decode cX13_isModel 12 = .ok (.isub, 1) := by decide +kernel
theorem dX13_isModel_13 : decode cX13_isModel 13 = .ok (.invokestatic 63, 3) := by decide +kernel
theorem dX13_isModel_16 : decode cX13_isModel 16 = .ok (.ireturn, 1) := by decide +kernel
set_option maxRecDepth 20000 in
theorem ggX13_isLast_X13_isModel : GoodIn wsX13_isLast wsX13_isModel := goodIn_r _ [6, 7, 8, 9, 10, 11, 12, 13, 14, 15, 5, 16, 17, 18, 19, 20, 21, 22, 23, 24, 25, 26, 27, 28, 29, 30, 31, 32] (by decide +kernel) (by decide +kernel)
set_option maxRecDepth 20000 in
theorem gX13_isLast_X13_isModel : GoodIn wsX13_isLast (wsV RX13 99 RX13 yX13_isModel wsX13_isModel) := goodIn_app (goodIn_of _ (by decide +kernel)) ggX13_isLast_X13_isModel
theorem dX13_isLast_0 : decode cX13_isLast 0 = .ok (.aload_n 0, 1) := by decide +kernel
theorem dX13_isLast_1 : decode cX13_isLast 1 = .ok (.aload_n 0, 1) := by decide +kernel
theorem dX13_isLast_2 : decode cX13_isLast 2 = .ok (.iload_n 1, 1) := by decide +kernel
theorem dX13_isLast_3 : decode cX13_isLast 3 = .ok (.invokevirtual 99, 3) := by decide +kernel
theorem dX13_isLast_6 : decode cX13_isLast 6 = .ok (.ifCond .ne 7, 3) := by decide +kernel
theorem dX13_isLast_9 : decode cX13_isLast 9 = .ok (.iconst 1, 1) := by decide +kernel
theorem dX13_isLast_10 : decode cX13_isLast 10 = .ok (.goto 19, 3) := by decide +kernel
theorem dX13_isLast_29 : decode cX13_isLast 29 = .ok (.putfield 48, 3) := by decide +kernel
theorem dX13_isLast_32 : decode cX13_isLast 32 = .ok (.aload_n 0, 1) := by decide +kernel
theorem dX13_isLast_33 : decode cX13_isLast 33 = .ok (.getfield 48, 3) := by decide +kernel
theorem dX13_isLast_36 : decode cX13_isLast 36 = .ok (.ifCond .ne 7, 3) := by decide +kernel
theorem dX13_isLast_43 : decode cX13_isLast 43 = .ok (.iconst 0, 1) := by decide +kernel
theorem dX13_isLast_44 : decode cX13_isLast 44 = .ok (.ireturn, 1) := by decide +kernel
set_option maxRecDepth 20000 in
theorem ggX13_girth_X13_isLast : GoodIn wsX13_girth wsX13_isLast := goodIn_r _ [5, 6, 7, 8, 9, 4, 10, 11, 12, 13, 14, 15, 16, 17, 18, 19, 20, 43, 44, 45, 46, 47, 48, 49, 50, 51, 52, 53, 54, 55, 56, 57, 58] (by decide +kernel) (by decide +kernel)
set_option maxRecDepth 20000 in
theorem gX13_girth_X13_isLast : GoodIn wsX13_girth (wsV RX13 103 RX13 yX13_isLast wsX13_isLast) := goodIn_app (goodIn_of _ (by decide +kernel)) ggX13_girth_X13_isLast
theorem dX13_girth_0 : decode cX13_girth 0 = .ok (.aload_n 0, 1) := by decide +kernel
theorem dX13_girth_1 : decode cX13_girth 1 = .ok (.iload_n 1, 1) := by decide +kernel
theorem dX13_girth_2 : decode cX13_girth 2 = .ok (.iload_n 2, 1) := by decide +kernel
theorem dX13_girth_3 : decode cX13_girth 3 = .ok (.invokevirtual 103, 3) := by decide +kernel
theorem dX13_girth_6 : decode cX13_girth 6 = .ok (.ifCond .eq 12, 3) := by decide +kernel
theorem dX13_girth_18 : decode cX13_girth 18 = .ok (.iconst 0, 1) := by decide +kernel
theorem dX13_girth_19 : decode cX13_girth 19 = .ok (.ireturn, 1) := by decide +kernel
set_option maxRecDepth 20000 in
theorem ggX13_setLasts_X13_isLast : GoodIn wsX13_setLasts wsX13_isLast := goodIn_r _ [6, 7, 8, 9, 10, 5, 11, 12, 13, 14, 15, 16, 17, 18, 19, 20, 21, 165, 166, 167, 168, 169, 170, 171, 172, 173, 174, 175, 176, 177, 178, 179, 180] (by decide +kernel) (by decide +kernel)
set_option maxRecDepth 20000 in
theorem gX13_setLasts_X13_isLast : GoodIn wsX13_setLasts (wsV RX13 103 RX13 yX13_isLast wsX13_isLast) := goodIn_app (goodIn_of _ (by decide +kernel)) ggX13_setLasts_X13_isLast
theorem dX13_setLasts_0 : decode cX13_setLasts 0 = .ok (.aload_n 0, 1) := by decide +kernel
theorem dX13_setLasts_1 : decode cX13_setLasts 1 = .ok (.iload_n 1, 1) := by decide +kernel
theorem dX13_setLasts_2 : decode cX13_setLasts 2 = .ok (.iload_n 2, 1) := by decide +kernel
theorem dX13_setLasts_3 : decode cX13_setLasts 3 = .ok (.invokevirtual 103, 3) := by decide +kernel
theorem dX13_setLasts_6 : decode cX13_setLasts 6 = .ok (.ifCond .ne 5, 3) := by decide +kernel
theorem dX13_setLasts_9 : decode cX13_setLasts 9 = .ok (.iconst 0, 1) := by decide +kernel
theorem dX13_setLasts_10 : decode cX13_setLasts 10 = .ok (.ireturn, 1) := by decide +kernel
set_option maxRecDepth 20000 in
theorem ggX13_freeLasts_X13_isLast : GoodIn wsX13_freeLasts wsX13_isLast := goodIn_r _ [5, 6, 7, 8, 9, 4, 10, 11, 12, 13, 14, 15, 16, 17, 18, 19, 20, 165, 166, 167, 168, 169, 170, 171, 172, 173, 174, 175, 176, 177, 178, 179, 180] (by decide +kernel) (by decide +kernel)
set_option maxRecDepth 20000 in
theorem gX13_freeLasts_X13_isLast : GoodIn wsX13_freeLasts (wsV RX13 103 RX13 yX13_isLast wsX13_isLast) := goodIn_app (goodIn_of _ (by decide +kernel)) ggX13_freeLasts_X13_isLast
theorem dX13_freeLasts_0 : decode cX13_freeLasts 0 = .ok (.aload_n 0, 1) := by decide +kernel
theorem dX13_freeLasts_1 : decode cX13_freeLasts 1 = .ok (.iload_n 1, 1) := by decide +kernel
theorem dX13_freeLasts_2 : decode cX13_freeLasts 2 = .ok (.iload_n 2, 1) := by decide +kernel
theorem dX13_freeLasts_3 : decode cX13_freeLasts 3 = .ok (.invokevirtual 103, 3) := by decide +kernel
theorem dX13_freeLasts_6 : decode cX13_freeLasts 6 = .ok (.ifCond .eq 12, 3) := by decide +kernel
theorem dX13_freeLasts_18 : decode cX13_freeLasts 18 = .ok (.iconst 0, 1) := by decide +kernel
theorem dX13_freeLasts_19 : decode cX13_freeLasts 19 = .ok (.ireturn, 1) := by decide +kernel
set_option maxRecDepth 20000 in
theorem ggX13_missingLasts_X13_isLast : GoodIn wsX13_missingLasts wsX13_isLast := goodIn_r _ [9, 10, 11, 12, 13, 8, 14, 15, 16, 17, 18, 19, 20, 21, 22, 23, 24, 166, 167, 168, 169, 170, 171, 172, 173, 174, 175, 176, 177, 178, 179, 180, 181] (by decide +kernel) (by decide +kernel)
set_option maxRecDepth 20000 in
theorem gX13_missingLasts_X13_isLast : GoodIn wsX13_missingLasts (wsV RX13 103 RX13 yX13_isLast wsX13_isLast) := goodIn_app (goodIn_of _ (by decide +kernel)) ggX13_missingLasts_X13_isLast
theorem dX13_missingLasts_0 : decode cX13_missingLasts 0 = .ok (.aload_n 0, 1) := by decide +kernel
theorem dX13_missingLasts_1 : decode cX13_missingLasts 1 = .ok (.iload_n 1, 1) := by decide +kernel
theorem dX13_missingLasts_2 : decode cX13_missingLasts 2 = .ok (.iload_n 2, 1) := by decide +kernel
theorem dX13_missingLasts_3 : decode cX13_missingLasts 3 = .ok (.invokevirtual 103, 3) := by decide +kernel
theorem dX13_missingLasts_6 : decode cX13_missingLasts 6 = .ok (.ifCond .eq 25, 3) := by decide +kernel
theorem dX13_missingLasts_31 : decode cX13_missingLasts 31 = .ok (.iconst 0, 1) := by decide +kernel
theorem dX13_missingLasts_32 : decode cX13_missingLasts 32 = .ok (.ireturn, 1) := by decide +kernel
set_option maxRecDepth 20000 in
theorem ggX13_isFoot_X13_in : GoodIn wsX13_isFoot wsX13_in := goodIn_r _ [4] (by decide +kernel) (by decide +kernel)
set_option maxRecDepth 20000 in
theorem gX13_isFoot_X13_in : GoodIn wsX13_isFoot (va_wsS RX13 63 yX13_in wsX13_in) := goodIn_app (goodIn_of _ (by decide +kernel)) ggX13_isFoot_X13_in
theorem dX13_isFoot_0 : decode cX13_isFoot 0 = .ok (.iload_n 0, 1) := by decide +kernel
theorem dX13_isFoot_1 : decode cX13_isFoot 1 = .ok (.sipush 1000, 3) := by decide +kernel
theorem dX13_isFoot_4 : decode cX13_isFoot 4 = .ok (.sipush 3500, 3) := by decide +kernel
theorem dX13_isFoot_7 : decode cX13_isFoot 7 = .ok (.invokestatic 63, 3) := by decide +kernel
theorem dX13_isFoot_10 : decode cX13_isFoot 10 = .ok (.ifCond .eq 20, 3) := by decide +kernel
theorem dX13_isFoot_13 : decode cX13_isFoot 13 = .ok (.iload_n 1, 1) := by decide +kernel
theorem dX13_isFoot_14 : decode cX13_isFoot 14 = .ok (.sipush 1000, 3) := by decide +kernel
theorem dX13_isFoot_17 : decode cX13_isFoot 17 = .ok (.sipush 4500, 3) := by decide +kernel
theorem dX13_isFoot_20 : decode cX13_isFoot 20 = .ok (.invokestatic 63, 3) := by decide +kernel
theorem dX13_isFoot_23 : decode cX13_isFoot 23 = .ok (.ifCond .eq 7, 3) := by decide +kernel
theorem dX13_isFoot_26 : decode cX13_isFoot 26 = .ok (.iconst 1, 1) := by decide +kernel
theorem dX13_isFoot_27 : decode cX13_isFoot 27 = .ok (.goto 4, 3) := by decide +kernel
theorem dX13_isFoot_30 : decode cX13_isFoot 30 = .ok (.iconst 0, 1) := by decide +kernel
theorem dX13_isFoot_31 : decode cX13_isFoot 31 = .ok (.ireturn, 1) := by decide +kernel
set_option maxRecDepth 20000 in
theorem ggX13_misfit_X13_isFoot : GoodIn wsX13_misfit wsX13_isFoot := goodIn_r _ [5, 6, 7, 4, 8] (by decide +kernel) (by decide +kernel)
set_option maxRecDepth 20000 in
theorem gX13_misfit_X13_isFoot : GoodIn wsX13_misfit (va_wsS RX13 164 yX13_isFoot wsX13_isFoot) := goodIn_app (goodIn_of _ (by decide +kernel)) ggX13_misfit_X13_isFoot
set_option maxRecDepth 20000 in
theorem ggX13_misfit_X13_in : GoodIn wsX13_misfit wsX13_in := goodIn_r _ [8] (by decide +kernel) (by decide +kernel)
set_option maxRecDepth 20000 in
theorem gX13_misfit_X13_in : GoodIn wsX13_misfit (va_wsS RX13 63 yX13_in wsX13_in) := goodIn_app (goodIn_of _ (by decide +kernel)) ggX13_misfit_X13_in
set_option maxRecDepth 20000 in
theorem ggX13_misfit_X13_isModel : GoodIn wsX13_misfit wsX13_isModel := goodIn_r _ [12, 13, 14, 15, 16, 17, 18, 19, 6, 7, 4, 8, 53, 54, 55, 56, 57, 58, 59, 60, 61, 62, 63, 64, 65, 66, 67, 68] (by decide +kernel) (by decide +kernel)
set_option maxRecDepth 20000 in
theorem gX13_misfit_X13_isModel : GoodIn wsX13_misfit (wsV RX13 99 RX13 yX13_isModel wsX13_isModel) := goodIn_app (goodIn_of _ (by decide +kernel)) ggX13_misfit_X13_isModel
theorem dX13_misfit_0 : decode cX13_misfit 0 = .ok (.aload_n 0, 1) := by decide +kernel
theorem dX13_misfit_1 : decode cX13_misfit 1 = .ok (.iload_n 1, 1) := by decide +kernel
theorem dX13_misfit_2 : decode cX13_misfit 2 = .ok (.iload_n 2, 1) := by decide +kernel
theorem dX13_misfit_3 : decode cX13_misfit 3 = .ok (.invokestatic 164, 3) := by decide +kernel
theorem dX13_misfit_6 : decode cX13_misfit 6 = .ok (.ifCond .eq 15, 3) := by decide +kernel
theorem dX13_misfit_9 : decode cX13_misfit 9 = .ok (.iload 4, 2) := by decide +kernel
theorem dX13_misfit_11 : decode cX13_misfit 11 = .ok (.bipush 15, 2) := by decide +kernel
theorem dX13_misfit_13 : decode cX13_misfit 13 = .ok (.bipush 50, 2) := by decide +kernel
theorem dX13_misfit_15 : decode cX13_misfit 15 = .ok (.invokestatic 63, 3) := by decide +kernel
theorem dX13_misfit_18 : decode cX13_misfit 18 = .ok (.ifCond .ne 7, 3) := by decide +kernel
theorem dX13_misfit_21 : decode cX13_misfit 21 = .ok (.iconst 1, 1) := by decide +kernel
theorem dX13_misfit_22 : decode cX13_misfit 22 = .ok (.goto 16, 3) := by decide +kernel
theorem dX13_misfit_25 : decode cX13_misfit 25 = .ok (.aload_n 0, 1) := by decide +kernel
theorem dX13_misfit_26 : decode cX13_misfit 26 = .ok (.iload_n 3, 1) := by decide +kernel
theorem dX13_misfit_27 : decode cX13_misfit 27 = .ok (.invokevirtual 99, 3) := by decide +kernel
theorem dX13_misfit_30 : decode cX13_misfit 30 = .ok (.ifCond .ne 7, 3) := by decide +kernel
theorem dX13_misfit_33 : decode cX13_misfit 33 = .ok (.iconst 2, 1) := by decide +kernel
theorem dX13_misfit_34 : decode cX13_misfit 34 = .ok (.goto 4, 3) := by decide +kernel
theorem dX13_misfit_38 : decode cX13_misfit 38 = .ok (.putfield 48, 3) := by decide +kernel
theorem dX13_misfit_41 : decode cX13_misfit 41 = .ok (.aload_n 0, 1) := by decide +kernel
theorem dX13_misfit_42 : decode cX13_misfit 42 = .ok (.getfield 48, 3) := by decide +kernel
theorem dX13_misfit_45 : decode cX13_misfit 45 = .ok (.ifCond .ne 15, 3) := by decide +kernel
theorem dX13_misfit_60 : decode cX13_misfit 60 = .ok (.iconst 0, 1) := by decide +kernel
theorem dX13_misfit_61 : decode cX13_misfit 61 = .ok (.ireturn, 1) := by decide +kernel
set_option maxRecDepth 20000 in
theorem ggX13_bestModel_X13_isFoot : GoodIn wsX13_bestModel wsX13_isFoot := goodIn_r _ [6, 7, 8, 5, 9] (by decide +kernel) (by decide +kernel)
set_option maxRecDepth 20000 in
theorem gX13_bestModel_X13_isFoot : GoodIn wsX13_bestModel (va_wsS RX13 164 yX13_isFoot wsX13_isFoot) := goodIn_app (goodIn_of _ (by decide +kernel)) ggX13_bestModel_X13_isFoot
set_option maxRecDepth 20000 in
theorem ggX13_bestModel_Jx4a65c_isEmpty_aae02 : GoodIn wsX13_bestModel wsJx4a65c_isEmpty_aae02 := goodIn_r _ [14, 15, 70, 71, 72] (by decide +kernel) (by decide +kernel)
set_option maxRecDepth 20000 in
theorem gX13_bestModel_Jx4a65c_isEmpty_aae02_f171Jx4a65c : GoodIn wsX13_bestModel (va_wsF RX13 171 RJx4a65c ⟨"java/util/List", "isEmpty", "()Z"⟩ yJx4a65c_isEmpty_aae02 wsJx4a65c_isEmpty_aae02) := goodIn_app (goodIn_of _ (by decide +kernel)) ggX13_bestModel_Jx4a65c_isEmpty_aae02
theorem dX13_bestModel_0 : decode cX13_bestModel 0 = .ok (.aload_n 0, 1) := by decide +kernel
theorem dX13_bestModel_1 : decode cX13_bestModel 1 = .ok (.iload_n 1, 1) := by decide +kernel
theorem dX13_bestModel_2 : decode cX13_bestModel 2 = .ok (.iload_n 2, 1) := by decide +kernel
theorem dX13_bestModel_3 : decode cX13_bestModel 3 = .ok (.invokestatic 164, 3) := by decide +kernel
theorem dX13_bestModel_6 : decode cX13_bestModel 6 = .ok (.ifCond .ne 7, 3) := by decide +kernel
theorem dX13_bestModel_9 : decode cX13_bestModel 9 = .ok (.iconst 1, 1) := by decide +kernel
theorem dX13_bestModel_10 : decode cX13_bestModel 10 = .ok (.goto 20, 3) := by decide +kernel
theorem dX13_bestModel_13 : decode cX13_bestModel 13 = .ok (.aload_n 0, 1) := by decide +kernel
theorem dX13_bestModel_14 : decode cX13_bestModel 14 = .ok (.getfield 10, 3) := by decide +kernel
theorem dX13_bestModel_17 : decode cX13_bestModel 17 = .ok (.invokeinterface 171 1, 5) := by decide +kernel
theorem dX13_bestModel_22 : decode cX13_bestModel 22 = .ok (.ifCond .eq 7, 3) := by decide +kernel
theorem dX13_bestModel_25 : decode cX13_bestModel 25 = .ok (.iconst 2, 1) := by decide +kernel
theorem dX13_bestModel_26 : decode cX13_bestModel 26 = .ok (.goto 4, 3) := by decide +kernel
theorem dX13_bestModel_30 : decode cX13_bestModel 30 = .ok (.putfield 48, 3) := by decide +kernel
theorem dX13_bestModel_33 : decode cX13_bestModel 33 = .ok (.aload_n 0, 1) := by decide +kernel
theorem dX13_bestModel_34 : decode cX13_bestModel 34 = .ok (.getfield 48, 3) := by decide +kernel
theorem dX13_bestModel_37 : decode cX13_bestModel 37 = .ok (.ifCond .ne 27, 3) := by decide +kernel
theorem dX13_bestModel_64 : decode cX13_bestModel 64 = .ok (.iconst 0, 1) := by decide +kernel
theorem dX13_bestModel_65 : decode cX13_bestModel 65 = .ok (.ireturn, 1) := by decide +kernel
set_option maxRecDepth 20000 in
theorem ggX13_bestSize_X13_isFoot : GoodIn wsX13_bestSize wsX13_isFoot := goodIn_r _ [5, 6, 7, 4, 8] (by decide +kernel) (by decide +kernel)
set_option maxRecDepth 20000 in
theorem gX13_bestSize_X13_isFoot : GoodIn wsX13_bestSize (va_wsS RX13 164 yX13_isFoot wsX13_isFoot) := goodIn_app (goodIn_of _ (by decide +kernel)) ggX13_bestSize_X13_isFoot
set_option maxRecDepth 20000 in
theorem ggX13_bestSize_X13_isModel : GoodIn wsX13_bestSize wsX13_isModel := goodIn_r _ [12, 13, 14, 15, 16, 17, 18, 19, 6, 7, 4, 8, 57, 58, 59, 60, 61, 62, 63, 64, 65, 66, 67, 68, 69, 70, 71, 72] (by decide +kernel) (by decide +kernel)
set_option maxRecDepth 20000 in
theorem gX13_bestSize_X13_isModel : GoodIn wsX13_bestSize (wsV RX13 99 RX13 yX13_isModel wsX13_isModel) := goodIn_app (goodIn_of _ (by decide +kernel)) ggX13_bestSize_X13_isModel
theorem dX13_bestSize_0 : decode cX13_bestSize 0 = .ok (.aload_n 0, 1) := by decide +kernel
theorem dX13_bestSize_1 : decode cX13_bestSize 1 = .ok (.iload_n 1, 1) := by decide +kernel
theorem dX13_bestSize_2 : decode cX13_bestSize 2 = .ok (.iload_n 2, 1) := by decide +kernel
theorem dX13_bestSize_3 : decode cX13_bestSize 3 = .ok (.invokestatic 164, 3) := by decide +kernel
theorem dX13_bestSize_6 : decode cX13_bestSize 6 = .ok (.ifCond .ne 7, 3) := by decide +kernel
theorem dX13_bestSize_9 : decode cX13_bestSize 9 = .ok (.iconst 1, 1) := by decide +kernel
theorem dX13_bestSize_10 : decode cX13_bestSize 10 = .ok (.goto 16, 3) := by decide +kernel
theorem dX13_bestSize_13 : decode cX13_bestSize 13 = .ok (.aload_n 0, 1) := by decide +kernel
theorem dX13_bestSize_14 : decode cX13_bestSize 14 = .ok (.iload_n 3, 1) := by decide +kernel
theorem dX13_bestSize_15 : decode cX13_bestSize 15 = .ok (.invokevirtual 99, 3) := by decide +kernel
theorem dX13_bestSize_18 : decode cX13_bestSize 18 = .ok (.ifCond .ne 7, 3) := by decide +kernel
theorem dX13_bestSize_21 : decode cX13_bestSize 21 = .ok (.iconst 2, 1) := by decide +kernel
theorem dX13_bestSize_22 : decode cX13_bestSize 22 = .ok (.goto 4, 3) := by decide +kernel
theorem dX13_bestSize_26 : decode cX13_bestSize 26 = .ok (.putfield 48, 3) := by decide +kernel
theorem dX13_bestSize_29 : decode cX13_bestSize 29 = .ok (.aload_n 0, 1) := by decide +kernel
theorem dX13_bestSize_30 : decode cX13_bestSize 30 = .ok (.getfield 48, 3) := by decide +kernel
theorem dX13_bestSize_33 : decode cX13_bestSize 33 = .ok (.ifCond .ne 17, 3) := by decide +kernel
theorem dX13_bestSize_50 : decode cX13_bestSize 50 = .ok (.iconst 0, 1) := by decide +kernel
theorem dX13_bestSize_51 : decode cX13_bestSize 51 = .ok (.ireturn, 1) := by decide +kernel
set_option maxRecDepth 20000 in
theorem ggX13_style_X13_isModel : GoodIn wsX13_style wsX13_isModel := goodIn_r _ [11, 12, 13, 14, 15, 16, 17, 18, 19, 20, 10, 21, 191, 192, 193, 194, 195, 196, 197, 198, 199, 200, 201, 202, 203, 211, 212, 213] (by decide +kernel) (by decide +kernel)
set_option maxRecDepth 20000 in
theorem gX13_style_X13_isModel : GoodIn wsX13_style (wsV RX13 99 RX13 yX13_isModel wsX13_isModel) := goodIn_app (goodIn_of _ (by decide +kernel)) ggX13_style_X13_isModel
set_option maxRecDepth 20000 in
theorem ggX13_style_X13_fails : GoodIn wsX13_style wsX13_fails := goodIn_r _ [25, 1, 191, 192, 193, 194, 195, 196, 197, 198, 199, 200, 201, 202, 203] (by decide +kernel) (by decide +kernel)
set_option maxRecDepth 20000 in
theorem gX13_style_X13_fails : GoodIn wsX13_style (wsV RX13 75 RX13 yX13_fails wsX13_fails) := goodIn_app (goodIn_of _ (by decide +kernel)) ggX13_style_X13_fails
theorem dX13_style_0 : decode cX13_style 0 = .ok (.aload_n 0, 1) := by decide +kernel
theorem dX13_style_1 : decode cX13_style 1 = .ok (.iconst 0, 1) := by decide +kernel
theorem dX13_style_2 : decode cX13_style 2 = .ok (.putfield 48, 3) := by decide +kernel
theorem dX13_style_5 : decode cX13_style 5 = .ok (.aload_n 0, 1) := by decide +kernel
theorem dX13_style_6 : decode cX13_style 6 = .ok (.iload_n 1, 1) := by decide +kernel
theorem dX13_style_7 : decode cX13_style 7 = .ok (.invokevirtual 99, 3) := by decide +kernel
theorem dX13_style_10 : decode cX13_style 10 = .ok (.ifCond .ne 9, 3) := by decide +kernel
theorem dX13_style_13 : decode cX13_style 13 = .ok (.aload_n 0, 1) := by decide +kernel
theorem dX13_style_14 : decode cX13_style 14 = .ok (.iconst 1, 1) := by decide +kernel
theorem dX13_style_15 : decode cX13_style 15 = .ok (.invokevirtual 75, 3) := by decide +kernel
theorem dX13_style_18 : decode cX13_style 18 = .ok (.ireturn, 1) := by decide +kernel
set_option maxRecDepth 20000 in
theorem ggX13_isStyle_Jx4a65c_size_8abf5 : GoodIn wsX13_isStyle wsJx4a65c_size_8abf5 := goodIn_r _ [6, 7, 25, 26, 27] (by decide +kernel) (by decide +kernel)
set_option maxRecDepth 20000 in
theorem gX13_isStyle_Jx4a65c_size_8abf5_f84Jx4a65c : GoodIn wsX13_isStyle (va_wsF RX13 84 RJx4a65c ⟨"java/util/List", "size", "()I"⟩ yJx4a65c_size_8abf5 wsJx4a65c_size_8abf5) := goodIn_app (goodIn_of _ (by decide +kernel)) ggX13_isStyle_Jx4a65c_size_8abf5
set_option maxRecDepth 20000 in
theorem ggX13_isStyle_X13_in : GoodIn wsX13_isStyle wsX13_in := goodIn_r _ [11] (by decide +kernel) (by decide +kernel)
set_option maxRecDepth 20000 in
theorem gX13_isStyle_X13_in : GoodIn wsX13_isStyle (va_wsS RX13 63 yX13_in wsX13_in) := goodIn_app (goodIn_of _ (by decide +kernel)) ggX13_isStyle_X13_in
theorem dX13_isStyle_0 : decode cX13_isStyle 0 = .ok (.iload_n 1, 1) := by decide +kernel
theorem dX13_isStyle_1 : decode cX13_isStyle 1 = .ok (.iconst 0, 1) := by decide +kernel
theorem dX13_isStyle_2 : decode cX13_isStyle 2 = .ok (.aload_n 0, 1) := by decide +kernel
theorem dX13_isStyle_3 : decode cX13_isStyle 3 = .ok (.getfield 20, 3) := by decide +kernel
theorem dX13_isStyle_6 : decode cX13_isStyle 6 = .ok (.invokeinterface 84 1, 5) := by decide +kernel
theorem dX13_isStyle_11 : decode cX13_isStyle 11 = .ok (.iconst 1, 1) := by decide +kernel
theorem dX13_isStyle_12 : decode cX13_isStyle 12 = .ok (.isub, 1) := by decide +kernel
theorem dX13_isStyle_13 : decode cX13_isStyle 13 = .ok (.invokestatic 63, 3) := by decide +kernel
theorem dX13_isStyle_16 : decode cX13_isStyle 16 = .ok (.ireturn, 1) := by decide +kernel
set_option maxRecDepth 20000 in
theorem ggX13_piece_X13_isStyle : GoodIn wsX13_piece wsX13_isStyle := goodIn_r _ [9, 2, 10, 11, 12, 13, 14, 15, 16, 17, 8, 18, 93, 94, 95, 96, 97, 98, 99, 100, 101, 102, 103, 104, 105, 113, 114, 115] (by decide +kernel) (by decide +kernel)
set_option maxRecDepth 20000 in
theorem gX13_piece_X13_isStyle : GoodIn wsX13_piece (wsV RX13 182 RX13 yX13_isStyle wsX13_isStyle) := goodIn_app (goodIn_of _ (by decide +kernel)) ggX13_piece_X13_isStyle
set_option maxRecDepth 20000 in
theorem ggX13_piece_X13_fails : GoodIn wsX13_piece wsX13_fails := goodIn_r _ [22, 1, 93, 94, 95, 96, 97, 98, 99, 100, 101, 102, 103, 104, 105] (by decide +kernel) (by decide +kernel)
set_option maxRecDepth 20000 in
theorem gX13_piece_X13_fails : GoodIn wsX13_piece (wsV RX13 75 RX13 yX13_fails wsX13_fails) := goodIn_app (goodIn_of _ (by decide +kernel)) ggX13_piece_X13_fails
theorem dX13_piece_0 : decode cX13_piece 0 = .ok (.aload_n 0, 1) := by decide +kernel
theorem dX13_piece_1 : decode cX13_piece 1 = .ok (.iconst 0, 1) := by decide +kernel
theorem dX13_piece_2 : decode cX13_piece 2 = .ok (.putfield 48, 3) := by decide +kernel
theorem dX13_piece_5 : decode cX13_piece 5 = .ok (.aload_n 0, 1) := by decide +kernel
theorem dX13_piece_6 : decode cX13_piece 6 = .ok (.iload_n 1, 1) := by decide +kernel
theorem dX13_piece_7 : decode cX13_piece 7 = .ok (.invokevirtual 182, 3) := by decide +kernel
theorem dX13_piece_10 : decode cX13_piece 10 = .ok (.ifCond .ne 9, 3) := by decide +kernel
theorem dX13_piece_13 : decode cX13_piece 13 = .ok (.aload_n 0, 1) := by decide +kernel
theorem dX13_piece_14 : decode cX13_piece 14 = .ok (.iconst 1, 1) := by decide +kernel
theorem dX13_piece_15 : decode cX13_piece 15 = .ok (.invokevirtual 75, 3) := by decide +kernel
theorem dX13_piece_18 : decode cX13_piece 18 = .ok (.ireturn, 1) := by decide +kernel
set_option maxRecDepth 20000 in
theorem ggX13_seam_X13_isStyle : GoodIn wsX13_seam wsX13_isStyle := goodIn_r _ [9, 2, 10, 11, 12, 13, 14, 15, 16, 17, 8, 18, 93, 94, 95, 96, 97, 98, 99, 100, 101, 102, 103, 104, 105, 113, 114, 115] (by decide +kernel) (by decide +kernel)
set_option maxRecDepth 20000 in
theorem gX13_seam_X13_isStyle : GoodIn wsX13_seam (wsV RX13 182 RX13 yX13_isStyle wsX13_isStyle) := goodIn_app (goodIn_of _ (by decide +kernel)) ggX13_seam_X13_isStyle
set_option maxRecDepth 20000 in
theorem ggX13_seam_X13_fails : GoodIn wsX13_seam wsX13_fails := goodIn_r _ [22, 1, 93, 94, 95, 96, 97, 98, 99, 100, 101, 102, 103, 104, 105] (by decide +kernel) (by decide +kernel)
set_option maxRecDepth 20000 in
theorem gX13_seam_X13_fails : GoodIn wsX13_seam (wsV RX13 75 RX13 yX13_fails wsX13_fails) := goodIn_app (goodIn_of _ (by decide +kernel)) ggX13_seam_X13_fails
theorem dX13_seam_0 : decode cX13_seam 0 = .ok (.aload_n 0, 1) := by decide +kernel
theorem dX13_seam_1 : decode cX13_seam 1 = .ok (.iconst 0, 1) := by decide +kernel
theorem dX13_seam_2 : decode cX13_seam 2 = .ok (.putfield 48, 3) := by decide +kernel
theorem dX13_seam_5 : decode cX13_seam 5 = .ok (.aload_n 0, 1) := by decide +kernel
theorem dX13_seam_6 : decode cX13_seam 6 = .ok (.iload_n 1, 1) := by decide +kernel
theorem dX13_seam_7 : decode cX13_seam 7 = .ok (.invokevirtual 182, 3) := by decide +kernel
theorem dX13_seam_10 : decode cX13_seam 10 = .ok (.ifCond .ne 9, 3) := by decide +kernel
theorem dX13_seam_13 : decode cX13_seam 13 = .ok (.aload_n 0, 1) := by decide +kernel
theorem dX13_seam_14 : decode cX13_seam 14 = .ok (.iconst 1, 1) := by decide +kernel
theorem dX13_seam_15 : decode cX13_seam 15 = .ok (.invokevirtual 75, 3) := by decide +kernel
theorem dX13_seam_18 : decode cX13_seam 18 = .ok (.ireturn, 1) := by decide +kernel
set_option maxRecDepth 20000 in
theorem ggX13_pieceCells_X13_isStyle : GoodIn wsX13_pieceCells wsX13_isStyle := goodIn_r _ [9, 2, 10, 11, 12, 13, 14, 15, 16, 17, 8, 18, 47, 48, 49, 50, 51, 52, 53, 54, 55, 56, 57, 58, 59, 67, 68, 69] (by decide +kernel) (by decide +kernel)
set_option maxRecDepth 20000 in
theorem gX13_pieceCells_X13_isStyle : GoodIn wsX13_pieceCells (wsV RX13 182 RX13 yX13_isStyle wsX13_isStyle) := goodIn_app (goodIn_of _ (by decide +kernel)) ggX13_pieceCells_X13_isStyle
set_option maxRecDepth 20000 in
theorem ggX13_pieceCells_X13_fails : GoodIn wsX13_pieceCells wsX13_fails := goodIn_r _ [39, 1, 47, 48, 49, 50, 51, 52, 53, 54, 55, 56, 57, 58, 59] (by decide +kernel) (by decide +kernel)
set_option maxRecDepth 20000 in
theorem gX13_pieceCells_X13_fails : GoodIn wsX13_pieceCells (wsV RX13 75 RX13 yX13_fails wsX13_fails) := goodIn_app (goodIn_of _ (by decide +kernel)) ggX13_pieceCells_X13_fails
theorem dX13_pieceCells_0 : decode cX13_pieceCells 0 = .ok (.aload_n 0, 1) := by decide +kernel
theorem dX13_pieceCells_1 : decode cX13_pieceCells 1 = .ok (.iconst 0, 1) := by decide +kernel
theorem dX13_pieceCells_2 : decode cX13_pieceCells 2 = .ok (.putfield 48, 3) := by decide +kernel
theorem dX13_pieceCells_5 : decode cX13_pieceCells 5 = .ok (.aload_n 0, 1) := by decide +kernel
theorem dX13_pieceCells_6 : decode cX13_pieceCells 6 = .ok (.iload_n 1, 1) := by decide +kernel
theorem dX13_pieceCells_7 : decode cX13_pieceCells 7 = .ok (.invokevirtual 182, 3) := by decide +kernel
theorem dX13_pieceCells_10 : decode cX13_pieceCells 10 = .ok (.ifCond .eq 34, 3) := by decide +kernel
theorem dX13_pieceCells_44 : decode cX13_pieceCells 44 = .ok (.aload_n 0, 1) := by decide +kernel
theorem dX13_pieceCells_45 : decode cX13_pieceCells 45 = .ok (.iconst 1, 1) := by decide +kernel
theorem dX13_pieceCells_46 : decode cX13_pieceCells 46 = .ok (.invokevirtual 75, 3) := by decide +kernel
theorem dX13_pieceCells_49 : decode cX13_pieceCells 49 = .ok (.ireturn, 1) := by decide +kernel
set_option maxRecDepth 20000 in
theorem ggX13_shortest_X13_isStyle : GoodIn wsX13_shortest wsX13_isStyle := goodIn_r _ [14, 2, 15, 16, 17, 18, 19, 20, 21, 22, 13, 23, 45, 46, 47, 48, 49, 50, 51, 52, 53, 54, 55, 56, 57, 65, 66, 67] (by decide +kernel) (by decide +kernel)
set_option maxRecDepth 20000 in
theorem gX13_shortest_X13_isStyle : GoodIn wsX13_shortest (wsV RX13 182 RX13 yX13_isStyle wsX13_isStyle) := goodIn_app (goodIn_of _ (by decide +kernel)) ggX13_shortest_X13_isStyle
set_option maxRecDepth 20000 in
theorem ggX13_shortest_X13_fails : GoodIn wsX13_shortest wsX13_fails := goodIn_r _ [27, 1, 45, 46, 47, 48, 49, 50, 51, 52, 53, 54, 55, 56, 57] (by decide +kernel) (by decide +kernel)
set_option maxRecDepth 20000 in
theorem gX13_shortest_X13_fails : GoodIn wsX13_shortest (wsV RX13 75 RX13 yX13_fails wsX13_fails) := goodIn_app (goodIn_of _ (by decide +kernel)) ggX13_shortest_X13_fails
theorem dX13_shortest_0 : decode cX13_shortest 0 = .ok (.aload_n 0, 1) := by decide +kernel
theorem dX13_shortest_1 : decode cX13_shortest 1 = .ok (.iconst 0, 1) := by decide +kernel
theorem dX13_shortest_2 : decode cX13_shortest 2 = .ok (.putfield 48, 3) := by decide +kernel
theorem dX13_shortest_5 : decode cX13_shortest 5 = .ok (.aload_n 0, 1) := by decide +kernel
theorem dX13_shortest_6 : decode cX13_shortest 6 = .ok (.iload_n 1, 1) := by decide +kernel
theorem dX13_shortest_7 : decode cX13_shortest 7 = .ok (.invokevirtual 182, 3) := by decide +kernel
theorem dX13_shortest_10 : decode cX13_shortest 10 = .ok (.ifCond .ne 9, 3) := by decide +kernel
theorem dX13_shortest_13 : decode cX13_shortest 13 = .ok (.aload_n 0, 1) := by decide +kernel
theorem dX13_shortest_14 : decode cX13_shortest 14 = .ok (.iconst 1, 1) := by decide +kernel
theorem dX13_shortest_15 : decode cX13_shortest 15 = .ok (.invokevirtual 75, 3) := by decide +kernel
theorem dX13_shortest_18 : decode cX13_shortest 18 = .ok (.ireturn, 1) := by decide +kernel
set_option maxRecDepth 20000 in
theorem ggX13_bonds_X13_isStyle : GoodIn wsX13_bonds wsX13_isStyle := goodIn_r _ [8, 2, 9, 10, 11, 12, 13, 14, 15, 16, 7, 17, 47, 48, 49, 50, 51, 52, 53, 54, 55, 56, 57, 58, 59, 60, 61, 62] (by decide +kernel) (by decide +kernel)
set_option maxRecDepth 20000 in
theorem gX13_bonds_X13_isStyle : GoodIn wsX13_bonds (wsV RX13 182 RX13 yX13_isStyle wsX13_isStyle) := goodIn_app (goodIn_of _ (by decide +kernel)) ggX13_bonds_X13_isStyle
theorem dX13_bonds_0 : decode cX13_bonds 0 = .ok (.aload_n 0, 1) := by decide +kernel
theorem dX13_bonds_1 : decode cX13_bonds 1 = .ok (.aload_n 0, 1) := by decide +kernel
theorem dX13_bonds_2 : decode cX13_bonds 2 = .ok (.iload_n 1, 1) := by decide +kernel
theorem dX13_bonds_3 : decode cX13_bonds 3 = .ok (.invokevirtual 182, 3) := by decide +kernel
theorem dX13_bonds_6 : decode cX13_bonds 6 = .ok (.ifCond .eq 7, 3) := by decide +kernel
theorem dX13_bonds_13 : decode cX13_bonds 13 = .ok (.iconst 1, 1) := by decide +kernel
theorem dX13_bonds_14 : decode cX13_bonds 14 = .ok (.putfield 48, 3) := by decide +kernel
theorem dX13_bonds_17 : decode cX13_bonds 17 = .ok (.aload_n 0, 1) := by decide +kernel
theorem dX13_bonds_18 : decode cX13_bonds 18 = .ok (.getfield 48, 3) := by decide +kernel
theorem dX13_bonds_21 : decode cX13_bonds 21 = .ok (.ifCond .ne 26, 3) := by decide +kernel
theorem dX13_bonds_47 : decode cX13_bonds 47 = .ok (.iconst 0, 1) := by decide +kernel
theorem dX13_bonds_48 : decode cX13_bonds 48 = .ok (.ireturn, 1) := by decide +kernel
set_option maxRecDepth 20000 in
theorem ggX13_isHide_Jx4a65c_size_8abf5 : GoodIn wsX13_isHide wsJx4a65c_size_8abf5 := goodIn_r _ [6, 7, 25, 26, 27] (by decide +kernel) (by decide +kernel)
set_option maxRecDepth 20000 in
theorem gX13_isHide_Jx4a65c_size_8abf5_f84Jx4a65c : GoodIn wsX13_isHide (va_wsF RX13 84 RJx4a65c ⟨"java/util/List", "size", "()I"⟩ yJx4a65c_size_8abf5 wsJx4a65c_size_8abf5) := goodIn_app (goodIn_of _ (by decide +kernel)) ggX13_isHide_Jx4a65c_size_8abf5
set_option maxRecDepth 20000 in
theorem ggX13_isHide_X13_in : GoodIn wsX13_isHide wsX13_in := goodIn_r _ [11] (by decide +kernel) (by decide +kernel)
set_option maxRecDepth 20000 in
theorem gX13_isHide_X13_in : GoodIn wsX13_isHide (va_wsS RX13 63 yX13_in wsX13_in) := goodIn_app (goodIn_of _ (by decide +kernel)) ggX13_isHide_X13_in
theorem dX13_isHide_0 : decode cX13_isHide 0 = .ok (.iload_n 1, 1) := by decide +kernel
theorem dX13_isHide_1 : decode cX13_isHide 1 = .ok (.iconst 0, 1) := by decide +kernel
theorem dX13_isHide_2 : decode cX13_isHide 2 = .ok (.aload_n 0, 1) := by decide +kernel
theorem dX13_isHide_3 : decode cX13_isHide 3 = .ok (.getfield 23, 3) := by decide +kernel
theorem dX13_isHide_6 : decode cX13_isHide 6 = .ok (.invokeinterface 84 1, 5) := by decide +kernel
theorem dX13_isHide_11 : decode cX13_isHide 11 = .ok (.iconst 1, 1) := by decide +kernel
theorem dX13_isHide_12 : decode cX13_isHide 12 = .ok (.isub, 1) := by decide +kernel
theorem dX13_isHide_13 : decode cX13_isHide 13 = .ok (.invokestatic 63, 3) := by decide +kernel
theorem dX13_isHide_16 : decode cX13_isHide 16 = .ok (.ireturn, 1) := by decide +kernel
set_option maxRecDepth 20000 in
theorem ggX13_fault_X13_isHide : GoodIn wsX13_fault wsX13_isHide := goodIn_r _ [8, 2, 9, 10, 11, 12, 13, 14, 15, 16, 7, 17, 43, 44, 45, 46, 47, 48, 49, 50, 51, 52, 53, 54, 55, 60, 61, 62] (by decide +kernel) (by decide +kernel)
set_option maxRecDepth 20000 in
theorem gX13_fault_X13_isHide : GoodIn wsX13_fault (wsV RX13 213 RX13 yX13_isHide wsX13_isHide) := goodIn_app (goodIn_of _ (by decide +kernel)) ggX13_fault_X13_isHide
set_option maxRecDepth 20000 in
theorem ggX13_fault_X13_fails : GoodIn wsX13_fault wsX13_fails := goodIn_r _ [21, 1, 43, 44, 45, 46, 47, 48, 49, 50, 51, 52, 53, 54, 55] (by decide +kernel) (by decide +kernel)
set_option maxRecDepth 20000 in
theorem gX13_fault_X13_fails : GoodIn wsX13_fault (wsV RX13 75 RX13 yX13_fails wsX13_fails) := goodIn_app (goodIn_of _ (by decide +kernel)) ggX13_fault_X13_fails
theorem dX13_fault_0 : decode cX13_fault 0 = .ok (.aload_n 0, 1) := by decide +kernel
theorem dX13_fault_1 : decode cX13_fault 1 = .ok (.iconst 0, 1) := by decide +kernel
theorem dX13_fault_2 : decode cX13_fault 2 = .ok (.putfield 48, 3) := by decide +kernel
theorem dX13_fault_5 : decode cX13_fault 5 = .ok (.aload_n 0, 1) := by decide +kernel
theorem dX13_fault_6 : decode cX13_fault 6 = .ok (.iload_n 1, 1) := by decide +kernel
theorem dX13_fault_7 : decode cX13_fault 7 = .ok (.invokevirtual 213, 3) := by decide +kernel
theorem dX13_fault_10 : decode cX13_fault 10 = .ok (.ifCond .ne 9, 3) := by decide +kernel
theorem dX13_fault_13 : decode cX13_fault 13 = .ok (.aload_n 0, 1) := by decide +kernel
theorem dX13_fault_14 : decode cX13_fault 14 = .ok (.iconst 1, 1) := by decide +kernel
theorem dX13_fault_15 : decode cX13_fault 15 = .ok (.invokevirtual 75, 3) := by decide +kernel
theorem dX13_fault_18 : decode cX13_fault 18 = .ok (.ireturn, 1) := by decide +kernel
set_option maxRecDepth 20000 in
theorem ggX13_cellOf_X13_isHide : GoodIn wsX13_cellOf wsX13_isHide := goodIn_r _ [8, 2, 9, 10, 11, 12, 13, 14, 15, 16, 7, 17, 43, 44, 45, 46, 47, 48, 49, 50, 51, 52, 53, 54, 55, 60, 61, 62] (by decide +kernel) (by decide +kernel)
set_option maxRecDepth 20000 in
theorem gX13_cellOf_X13_isHide : GoodIn wsX13_cellOf (wsV RX13 213 RX13 yX13_isHide wsX13_isHide) := goodIn_app (goodIn_of _ (by decide +kernel)) ggX13_cellOf_X13_isHide
set_option maxRecDepth 20000 in
theorem ggX13_cellOf_X13_fails : GoodIn wsX13_cellOf wsX13_fails := goodIn_r _ [21, 1, 43, 44, 45, 46, 47, 48, 49, 50, 51, 52, 53, 54, 55] (by decide +kernel) (by decide +kernel)
set_option maxRecDepth 20000 in
theorem gX13_cellOf_X13_fails : GoodIn wsX13_cellOf (wsV RX13 75 RX13 yX13_fails wsX13_fails) := goodIn_app (goodIn_of _ (by decide +kernel)) ggX13_cellOf_X13_fails
theorem dX13_cellOf_0 : decode cX13_cellOf 0 = .ok (.aload_n 0, 1) := by decide +kernel
theorem dX13_cellOf_1 : decode cX13_cellOf 1 = .ok (.iconst 0, 1) := by decide +kernel
theorem dX13_cellOf_2 : decode cX13_cellOf 2 = .ok (.putfield 48, 3) := by decide +kernel
theorem dX13_cellOf_5 : decode cX13_cellOf 5 = .ok (.aload_n 0, 1) := by decide +kernel
theorem dX13_cellOf_6 : decode cX13_cellOf 6 = .ok (.iload_n 1, 1) := by decide +kernel
theorem dX13_cellOf_7 : decode cX13_cellOf 7 = .ok (.invokevirtual 213, 3) := by decide +kernel
theorem dX13_cellOf_10 : decode cX13_cellOf 10 = .ok (.ifCond .ne 9, 3) := by decide +kernel
theorem dX13_cellOf_13 : decode cX13_cellOf 13 = .ok (.aload_n 0, 1) := by decide +kernel
theorem dX13_cellOf_14 : decode cX13_cellOf 14 = .ok (.iconst 1, 1) := by decide +kernel
theorem dX13_cellOf_15 : decode cX13_cellOf 15 = .ok (.invokevirtual 75, 3) := by decide +kernel
theorem dX13_cellOf_18 : decode cX13_cellOf 18 = .ok (.ireturn, 1) := by decide +kernel
set_option maxRecDepth 20000 in
theorem ggX13_isTicket_Jx4a65c_size_8abf5 : GoodIn wsX13_isTicket wsJx4a65c_size_8abf5 := goodIn_r _ [6, 7, 25, 26, 27] (by decide +kernel) (by decide +kernel)
set_option maxRecDepth 20000 in
theorem gX13_isTicket_Jx4a65c_size_8abf5_f84Jx4a65c : GoodIn wsX13_isTicket (va_wsF RX13 84 RJx4a65c ⟨"java/util/List", "size", "()I"⟩ yJx4a65c_size_8abf5 wsJx4a65c_size_8abf5) := goodIn_app (goodIn_of _ (by decide +kernel)) ggX13_isTicket_Jx4a65c_size_8abf5
set_option maxRecDepth 20000 in
theorem ggX13_isTicket_X13_in : GoodIn wsX13_isTicket wsX13_in := goodIn_r _ [11] (by decide +kernel) (by decide +kernel)
set_option maxRecDepth 20000 in
theorem gX13_isTicket_X13_in : GoodIn wsX13_isTicket (va_wsS RX13 63 yX13_in wsX13_in) := goodIn_app (goodIn_of _ (by decide +kernel)) ggX13_isTicket_X13_in
theorem dX13_isTicket_0 : decode cX13_isTicket 0 = .ok (.iload_n 1, 1) := by decide +kernel
theorem dX13_isTicket_1 : decode cX13_isTicket 1 = .ok (.iconst 0, 1) := by decide +kernel
theorem dX13_isTicket_2 : decode cX13_isTicket 2 = .ok (.aload_n 0, 1) := by decide +kernel
theorem dX13_isTicket_3 : decode cX13_isTicket 3 = .ok (.getfield 26, 3) := by decide +kernel
theorem dX13_isTicket_6 : decode cX13_isTicket 6 = .ok (.invokeinterface 84 1, 5) := by decide +kernel
theorem dX13_isTicket_11 : decode cX13_isTicket 11 = .ok (.iconst 1, 1) := by decide +kernel
theorem dX13_isTicket_12 : decode cX13_isTicket 12 = .ok (.isub, 1) := by decide +kernel
theorem dX13_isTicket_13 : decode cX13_isTicket 13 = .ok (.invokestatic 63, 3) := by decide +kernel
theorem dX13_isTicket_16 : decode cX13_isTicket 16 = .ok (.ireturn, 1) := by decide +kernel
set_option maxRecDepth 20000 in
theorem ggX13_isPiece_X13_isTicket : GoodIn wsX13_isPiece wsX13_isTicket := goodIn_r _ [7, 1, 8, 9, 10, 11, 12, 13, 14, 15, 6, 16, 34, 35, 36, 37, 38, 39, 40, 41, 42, 43, 44, 45, 46, 68, 69, 70] (by decide +kernel) (by decide +kernel)
set_option maxRecDepth 20000 in
theorem gX13_isPiece_X13_isTicket : GoodIn wsX13_isPiece (wsV RX13 221 RX13 yX13_isTicket wsX13_isTicket) := goodIn_app (goodIn_of _ (by decide +kernel)) ggX13_isPiece_X13_isTicket
theorem dX13_isPiece_0 : decode cX13_isPiece 0 = .ok (.aload_n 0, 1) := by decide +kernel
theorem dX13_isPiece_1 : decode cX13_isPiece 1 = .ok (.iload_n 1, 1) := by decide +kernel
theorem dX13_isPiece_2 : decode cX13_isPiece 2 = .ok (.invokevirtual 221, 3) := by decide +kernel
theorem dX13_isPiece_5 : decode cX13_isPiece 5 = .ok (.ifCond .eq 41, 3) := by decide +kernel
theorem dX13_isPiece_46 : decode cX13_isPiece 46 = .ok (.iconst 0, 1) := by decide +kernel
theorem dX13_isPiece_47 : decode cX13_isPiece 47 = .ok (.ireturn, 1) := by decide +kernel
set_option maxRecDepth 20000 in
theorem ggX13_isSeam_X13_isTicket : GoodIn wsX13_isSeam wsX13_isTicket := goodIn_r _ [7, 1, 8, 9, 10, 11, 12, 13, 14, 15, 6, 16, 34, 35, 36, 37, 38, 39, 40, 41, 42, 43, 44, 45, 46, 68, 69, 70] (by decide +kernel) (by decide +kernel)
set_option maxRecDepth 20000 in
theorem gX13_isSeam_X13_isTicket : GoodIn wsX13_isSeam (wsV RX13 221 RX13 yX13_isTicket wsX13_isTicket) := goodIn_app (goodIn_of _ (by decide +kernel)) ggX13_isSeam_X13_isTicket
theorem dX13_isSeam_0 : decode cX13_isSeam 0 = .ok (.aload_n 0, 1) := by decide +kernel
theorem dX13_isSeam_1 : decode cX13_isSeam 1 = .ok (.iload_n 1, 1) := by decide +kernel
theorem dX13_isSeam_2 : decode cX13_isSeam 2 = .ok (.invokevirtual 221, 3) := by decide +kernel
theorem dX13_isSeam_5 : decode cX13_isSeam 5 = .ok (.ifCond .eq 41, 3) := by decide +kernel
theorem dX13_isSeam_46 : decode cX13_isSeam 46 = .ok (.iconst 0, 1) := by decide +kernel
theorem dX13_isSeam_47 : decode cX13_isSeam 47 = .ok (.ireturn, 1) := by decide +kernel
set_option maxRecDepth 20000 in
theorem ggX13_cut_X13_isPiece : GoodIn wsX13_cut wsX13_isPiece := goodIn_r _ [12, 2, 3, 13, 14, 15, 11, 16, 17, 18, 19, 20, 21, 22, 23, 24, 25, 26, 27, 28, 29, 30, 31, 32, 33, 34, 35, 36, 37, 38, 39, 40, 41, 42, 76, 77, 78, 79, 80, 81, 82, 83, 84, 85, 86, 87, 88, 89, 90, 91, 92, 93, 94, 95, 96, 97, 98, 99, 100, 101, 102, 103, 104, 105, 106, 107, 108, 109, 114, 115, 116] (by decide +kernel) (by decide +kernel)
set_option maxRecDepth 20000 in
theorem gX13_cut_X13_isPiece : GoodIn wsX13_cut (wsV RX13 224 RX13 yX13_isPiece wsX13_isPiece) := goodIn_app (goodIn_of _ (by decide +kernel)) ggX13_cut_X13_isPiece
set_option maxRecDepth 20000 in
theorem ggX13_cut_X13_fails : GoodIn wsX13_cut wsX13_fails := goodIn_r _ [50, 1, 76, 77, 78, 79, 80, 81, 82, 83, 84, 85, 86, 87, 88] (by decide +kernel) (by decide +kernel)
set_option maxRecDepth 20000 in
theorem gX13_cut_X13_fails : GoodIn wsX13_cut (wsV RX13 75 RX13 yX13_fails wsX13_fails) := goodIn_app (goodIn_of _ (by decide +kernel)) ggX13_cut_X13_fails
theorem dX13_cut_0 : decode cX13_cut 0 = .ok (.aload_n 0, 1) := by decide +kernel
theorem dX13_cut_1 : decode cX13_cut 1 = .ok (.iconst 0, 1) := by decide +kernel
theorem dX13_cut_2 : decode cX13_cut 2 = .ok (.putfield 48, 3) := by decide +kernel
theorem dX13_cut_5 : decode cX13_cut 5 = .ok (.aload_n 0, 1) := by decide +kernel
theorem dX13_cut_6 : decode cX13_cut 6 = .ok (.iload_n 1, 1) := by decide +kernel
theorem dX13_cut_7 : decode cX13_cut 7 = .ok (.iload_n 3, 1) := by decide +kernel
theorem dX13_cut_8 : decode cX13_cut 8 = .ok (.invokevirtual 224, 3) := by decide +kernel
theorem dX13_cut_11 : decode cX13_cut 11 = .ok (.ifCond .eq 32, 3) := by decide +kernel
theorem dX13_cut_43 : decode cX13_cut 43 = .ok (.aload_n 0, 1) := by decide +kernel
theorem dX13_cut_44 : decode cX13_cut 44 = .ok (.iconst 1, 1) := by decide +kernel
theorem dX13_cut_45 : decode cX13_cut 45 = .ok (.invokevirtual 75, 3) := by decide +kernel
theorem dX13_cut_48 : decode cX13_cut 48 = .ok (.ireturn, 1) := by decide +kernel
set_option maxRecDepth 20000 in
theorem ggX13_firstPlace_X13_isPiece : GoodIn wsX13_firstPlace wsX13_isPiece := goodIn_r _ [11, 2, 3, 12, 13, 14, 10, 15, 16, 17, 18, 19, 20, 21, 22, 23, 24, 25, 26, 27, 28, 29, 30, 31, 32, 33, 34, 35, 36, 37, 38, 39, 40, 41, 68, 69, 70, 71, 72, 73, 74, 75, 76, 77, 78, 79, 80, 81, 82, 83, 84, 85, 86, 87, 88, 89, 90, 91, 92, 93, 94, 95, 96, 97, 98, 99, 100, 101, 106, 107, 108] (by decide +kernel) (by decide +kernel)
set_option maxRecDepth 20000 in
theorem gX13_firstPlace_X13_isPiece : GoodIn wsX13_firstPlace (wsV RX13 224 RX13 yX13_isPiece wsX13_isPiece) := goodIn_app (goodIn_of _ (by decide +kernel)) ggX13_firstPlace_X13_isPiece
set_option maxRecDepth 20000 in
theorem ggX13_firstPlace_X13_fails : GoodIn wsX13_firstPlace wsX13_fails := goodIn_r _ [49, 1, 68, 69, 70, 71, 72, 73, 74, 75, 76, 77, 78, 79, 80] (by decide +kernel) (by decide +kernel)
set_option maxRecDepth 20000 in
theorem gX13_firstPlace_X13_fails : GoodIn wsX13_firstPlace (wsV RX13 75 RX13 yX13_fails wsX13_fails) := goodIn_app (goodIn_of _ (by decide +kernel)) ggX13_firstPlace_X13_fails
theorem dX13_firstPlace_0 : decode cX13_firstPlace 0 = .ok (.aload_n 0, 1) := by decide +kernel
theorem dX13_firstPlace_1 : decode cX13_firstPlace 1 = .ok (.iconst 0, 1) := by decide +kernel
theorem dX13_firstPlace_2 : decode cX13_firstPlace 2 = .ok (.putfield 48, 3) := by decide +kernel
theorem dX13_firstPlace_5 : decode cX13_firstPlace 5 = .ok (.aload_n 0, 1) := by decide +kernel
theorem dX13_firstPlace_6 : decode cX13_firstPlace 6 = .ok (.iload_n 1, 1) := by decide +kernel
theorem dX13_firstPlace_7 : decode cX13_firstPlace 7 = .ok (.iload_n 2, 1) := by decide +kernel
theorem dX13_firstPlace_8 : decode cX13_firstPlace 8 = .ok (.invokevirtual 224, 3) := by decide +kernel
theorem dX13_firstPlace_11 : decode cX13_firstPlace 11 = .ok (.ifCond .eq 11, 3) := by decide +kernel
theorem dX13_firstPlace_22 : decode cX13_firstPlace 22 = .ok (.aload_n 0, 1) := by decide +kernel
theorem dX13_firstPlace_23 : decode cX13_firstPlace 23 = .ok (.iconst 1, 1) := by decide +kernel
theorem dX13_firstPlace_24 : decode cX13_firstPlace 24 = .ok (.invokevirtual 75, 3) := by decide +kernel
theorem dX13_firstPlace_27 : decode cX13_firstPlace 27 = .ok (.ireturn, 1) := by decide +kernel
set_option maxRecDepth 20000 in
theorem ggX13_waste_X13_isHide : GoodIn wsX13_waste wsX13_isHide := goodIn_r _ [8, 2, 9, 10, 11, 12, 13, 14, 15, 16, 7, 17, 49, 50, 51, 52, 53, 54, 55, 56, 57, 58, 59, 60, 61, 62, 63, 64] (by decide +kernel) (by decide +kernel)
set_option maxRecDepth 20000 in
theorem gX13_waste_X13_isHide : GoodIn wsX13_waste (wsV RX13 213 RX13 yX13_isHide wsX13_isHide) := goodIn_app (goodIn_of _ (by decide +kernel)) ggX13_waste_X13_isHide
set_option maxRecDepth 20000 in
theorem ggX13_waste_X13_fails : GoodIn wsX13_waste wsX13_fails := goodIn_r _ [48, 1, 49, 50, 51, 52, 53, 54, 55, 56, 57, 58, 59, 60, 61] (by decide +kernel) (by decide +kernel)
set_option maxRecDepth 20000 in
theorem gX13_waste_X13_fails : GoodIn wsX13_waste (wsV RX13 75 RX13 yX13_fails wsX13_fails) := goodIn_app (goodIn_of _ (by decide +kernel)) ggX13_waste_X13_fails
theorem dX13_waste_0 : decode cX13_waste 0 = .ok (.aload_n 0, 1) := by decide +kernel
theorem dX13_waste_1 : decode cX13_waste 1 = .ok (.iconst 0, 1) := by decide +kernel
theorem dX13_waste_2 : decode cX13_waste 2 = .ok (.putfield 48, 3) := by decide +kernel
theorem dX13_waste_5 : decode cX13_waste 5 = .ok (.aload_n 0, 1) := by decide +kernel
theorem dX13_waste_6 : decode cX13_waste 6 = .ok (.iload_n 1, 1) := by decide +kernel
theorem dX13_waste_7 : decode cX13_waste 7 = .ok (.invokevirtual 213, 3) := by decide +kernel
theorem dX13_waste_10 : decode cX13_waste 10 = .ok (.ifCond .eq 23, 3) := by decide +kernel
theorem dX13_waste_33 : decode cX13_waste 33 = .ok (.aload_n 0, 1) := by decide +kernel
theorem dX13_waste_34 : decode cX13_waste 34 = .ok (.iconst 1, 1) := by decide +kernel
theorem dX13_waste_35 : decode cX13_waste 35 = .ok (.invokevirtual 75, 3) := by decide +kernel
theorem dX13_waste_38 : decode cX13_waste 38 = .ok (.ireturn, 1) := by decide +kernel
set_option maxRecDepth 20000 in
theorem ggX13_cutBy_X13_in : GoodIn wsX13_cutBy wsX13_in := goodIn_r _ [6] (by decide +kernel) (by decide +kernel)
set_option maxRecDepth 20000 in
theorem gX13_cutBy_X13_in : GoodIn wsX13_cutBy (va_wsS RX13 63 yX13_in wsX13_in) := goodIn_app (goodIn_of _ (by decide +kernel)) ggX13_cutBy_X13_in
set_option maxRecDepth 20000 in
theorem ggX13_cutBy_X13_fails : GoodIn wsX13_cutBy wsX13_fails := goodIn_r _ [10, 1, 11, 12, 13, 14, 15, 16, 17, 18, 19, 20, 21, 22, 23] (by decide +kernel) (by decide +kernel)
set_option maxRecDepth 20000 in
theorem gX13_cutBy_X13_fails : GoodIn wsX13_cutBy (wsV RX13 75 RX13 yX13_fails wsX13_fails) := goodIn_app (goodIn_of _ (by decide +kernel)) ggX13_cutBy_X13_fails
theorem dX13_cutBy_0 : decode cX13_cutBy 0 = .ok (.aload_n 0, 1) := by decide +kernel
theorem dX13_cutBy_1 : decode cX13_cutBy 1 = .ok (.iconst 0, 1) := by decide +kernel
theorem dX13_cutBy_2 : decode cX13_cutBy 2 = .ok (.putfield 48, 3) := by decide +kernel
theorem dX13_cutBy_5 : decode cX13_cutBy 5 = .ok (.iload_n 1, 1) := by decide +kernel
theorem dX13_cutBy_6 : decode cX13_cutBy 6 = .ok (.iconst 0, 1) := by decide +kernel
theorem dX13_cutBy_7 : decode cX13_cutBy 7 = .ok (.bipush 7, 2) := by decide +kernel
theorem dX13_cutBy_9 : decode cX13_cutBy 9 = .ok (.invokestatic 63, 3) := by decide +kernel
theorem dX13_cutBy_12 : decode cX13_cutBy 12 = .ok (.ifCond .eq 12, 3) := by decide +kernel
theorem dX13_cutBy_15 : decode cX13_cutBy 15 = .ok (.aload_n 0, 1) := by decide +kernel
theorem dX13_cutBy_16 : decode cX13_cutBy 16 = .ok (.getfield 39, 3) := by decide +kernel
theorem dX13_cutBy_19 : decode cX13_cutBy 19 = .ok (.iload_n 1, 1) := by decide +kernel
theorem dX13_cutBy_20 : decode cX13_cutBy 20 = .ok (.iaload, 1) := by decide +kernel
theorem dX13_cutBy_21 : decode cX13_cutBy 21 = .ok (.goto 8, 3) := by decide +kernel
theorem dX13_cutBy_24 : decode cX13_cutBy 24 = .ok (.aload_n 0, 1) := by decide +kernel
theorem dX13_cutBy_25 : decode cX13_cutBy 25 = .ok (.iconst 1, 1) := by decide +kernel
theorem dX13_cutBy_26 : decode cX13_cutBy 26 = .ok (.invokevirtual 75, 3) := by decide +kernel
theorem dX13_cutBy_29 : decode cX13_cutBy 29 = .ok (.ireturn, 1) := by decide +kernel
set_option maxRecDepth 20000 in
theorem ggX13_setSkill_X13_in : GoodIn wsX13_setSkill wsX13_in := goodIn_r _ [6] (by decide +kernel) (by decide +kernel)
set_option maxRecDepth 20000 in
theorem gX13_setSkill_X13_in : GoodIn wsX13_setSkill (va_wsS RX13 63 yX13_in wsX13_in) := goodIn_app (goodIn_of _ (by decide +kernel)) ggX13_setSkill_X13_in
theorem dX13_setSkill_0 : decode cX13_setSkill 0 = .ok (.aload_n 0, 1) := by decide +kernel
theorem dX13_setSkill_1 : decode cX13_setSkill 1 = .ok (.iload_n 1, 1) := by decide +kernel
theorem dX13_setSkill_2 : decode cX13_setSkill 2 = .ok (.iconst 0, 1) := by decide +kernel
theorem dX13_setSkill_3 : decode cX13_setSkill 3 = .ok (.bipush 7, 2) := by decide +kernel
theorem dX13_setSkill_5 : decode cX13_setSkill 5 = .ok (.invokestatic 63, 3) := by decide +kernel
theorem dX13_setSkill_8 : decode cX13_setSkill 8 = .ok (.ifCond .ne 7, 3) := by decide +kernel
theorem dX13_setSkill_11 : decode cX13_setSkill 11 = .ok (.iconst 1, 1) := by decide +kernel
theorem dX13_setSkill_12 : decode cX13_setSkill 12 = .ok (.goto 17, 3) := by decide +kernel
theorem dX13_setSkill_15 : decode cX13_setSkill 15 = .ok (.iload_n 2, 1) := by decide +kernel
theorem dX13_setSkill_16 : decode cX13_setSkill 16 = .ok (.iconst 0, 1) := by decide +kernel
theorem dX13_setSkill_17 : decode cX13_setSkill 17 = .ok (.iconst 3, 1) := by decide +kernel
theorem dX13_setSkill_18 : decode cX13_setSkill 18 = .ok (.invokestatic 63, 3) := by decide +kernel
theorem dX13_setSkill_21 : decode cX13_setSkill 21 = .ok (.ifCond .ne 7, 3) := by decide +kernel
theorem dX13_setSkill_24 : decode cX13_setSkill 24 = .ok (.iconst 2, 1) := by decide +kernel
theorem dX13_setSkill_25 : decode cX13_setSkill 25 = .ok (.goto 4, 3) := by decide +kernel
theorem dX13_setSkill_28 : decode cX13_setSkill 28 = .ok (.iconst 0, 1) := by decide +kernel
theorem dX13_setSkill_29 : decode cX13_setSkill 29 = .ok (.putfield 48, 3) := by decide +kernel
theorem dX13_setSkill_32 : decode cX13_setSkill 32 = .ok (.aload_n 0, 1) := by decide +kernel
theorem dX13_setSkill_33 : decode cX13_setSkill 33 = .ok (.getfield 48, 3) := by decide +kernel
theorem dX13_setSkill_36 : decode cX13_setSkill 36 = .ok (.ifCond .le 5, 3) := by decide +kernel
theorem dX13_setSkill_39 : decode cX13_setSkill 39 = .ok (.iconst 0, 1) := by decide +kernel
theorem dX13_setSkill_40 : decode cX13_setSkill 40 = .ok (.ireturn, 1) := by decide +kernel
theorem dX13_setSkill_41 : decode cX13_setSkill 41 = .ok (.aload_n 0, 1) := by decide +kernel
theorem dX13_setSkill_42 : decode cX13_setSkill 42 = .ok (.getfield 29, 3) := by decide +kernel
theorem dX13_setSkill_45 : decode cX13_setSkill 45 = .ok (.iconst 4, 1) := by decide +kernel
theorem dX13_setSkill_46 : decode cX13_setSkill 46 = .ok (.iload_n 1, 1) := by decide +kernel
theorem dX13_setSkill_47 : decode cX13_setSkill 47 = .ok (.imul, 1) := by decide +kernel
theorem dX13_setSkill_48 : decode cX13_setSkill 48 = .ok (.iload_n 2, 1) := by decide +kernel
theorem dX13_setSkill_49 : decode cX13_setSkill 49 = .ok (.iadd, 1) := by decide +kernel
theorem dX13_setSkill_50 : decode cX13_setSkill 50 = .ok (.baload, 1) := by decide +kernel
theorem dX13_setSkill_51 : decode cX13_setSkill 51 = .ok (.istore 4, 2) := by decide +kernel
theorem dX13_setSkill_53 : decode cX13_setSkill 53 = .ok (.aload_n 0, 1) := by decide +kernel
theorem dX13_setSkill_54 : decode cX13_setSkill 54 = .ok (.getfield 29, 3) := by decide +kernel
theorem dX13_setSkill_57 : decode cX13_setSkill 57 = .ok (.iconst 4, 1) := by decide +kernel
theorem dX13_setSkill_58 : decode cX13_setSkill 58 = .ok (.iload_n 1, 1) := by decide +kernel
theorem dX13_setSkill_59 : decode cX13_setSkill 59 = .ok (.imul, 1) := by decide +kernel
theorem dX13_setSkill_60 : decode cX13_setSkill 60 = .ok (.iload_n 2, 1) := by decide +kernel
theorem dX13_setSkill_61 : decode cX13_setSkill 61 = .ok (.iadd, 1) := by decide +kernel
theorem dX13_setSkill_62 : decode cX13_setSkill 62 = .ok (.iload_n 3, 1) := by decide +kernel
theorem dX13_setSkill_63 : decode cX13_setSkill 63 = .ok (.bastore, 1) := by decide +kernel
theorem dX13_setSkill_64 : decode cX13_setSkill 64 = .ok (.iload 4, 2) := by decide +kernel
theorem dX13_setSkill_66 : decode cX13_setSkill 66 = .ok (.ireturn, 1) := by decide +kernel
set_option maxRecDepth 20000 in
theorem ggX13_setAbsent_X13_in : GoodIn wsX13_setAbsent wsX13_in := goodIn_r _ [6] (by decide +kernel) (by decide +kernel)
set_option maxRecDepth 20000 in
theorem gX13_setAbsent_X13_in : GoodIn wsX13_setAbsent (va_wsS RX13 63 yX13_in wsX13_in) := goodIn_app (goodIn_of _ (by decide +kernel)) ggX13_setAbsent_X13_in
set_option maxRecDepth 20000 in
theorem ggX13_setAbsent_X13_failsBoolean : GoodIn wsX13_setAbsent wsX13_failsBoolean := goodIn_r _ [10, 1, 11, 12, 13, 14, 15, 16, 17, 18, 19, 20, 21, 22, 23] (by decide +kernel) (by decide +kernel)
set_option maxRecDepth 20000 in
theorem gX13_setAbsent_X13_failsBoolean : GoodIn wsX13_setAbsent (wsV RX13 257 RX13 yX13_failsBoolean wsX13_failsBoolean) := goodIn_app (goodIn_of _ (by decide +kernel)) ggX13_setAbsent_X13_failsBoolean
theorem dX13_setAbsent_0 : decode cX13_setAbsent 0 = .ok (.iload_n 1, 1) := by decide +kernel
theorem dX13_setAbsent_1 : decode cX13_setAbsent 1 = .ok (.iconst 0, 1) := by decide +kernel
theorem dX13_setAbsent_2 : decode cX13_setAbsent 2 = .ok (.bipush 7, 2) := by decide +kernel
theorem dX13_setAbsent_4 : decode cX13_setAbsent 4 = .ok (.invokestatic 63, 3) := by decide +kernel
theorem dX13_setAbsent_7 : decode cX13_setAbsent 7 = .ok (.ifCond .ne 9, 3) := by decide +kernel
theorem dX13_setAbsent_10 : decode cX13_setAbsent 10 = .ok (.aload_n 0, 1) := by decide +kernel
theorem dX13_setAbsent_11 : decode cX13_setAbsent 11 = .ok (.iconst 1, 1) := by decide +kernel
theorem dX13_setAbsent_12 : decode cX13_setAbsent 12 = .ok (.invokevirtual 257, 3) := by decide +kernel
theorem dX13_setAbsent_15 : decode cX13_setAbsent 15 = .ok (.ireturn, 1) := by decide +kernel
theorem dX13_setAbsent_16 : decode cX13_setAbsent 16 = .ok (.aload_n 0, 1) := by decide +kernel
theorem dX13_setAbsent_17 : decode cX13_setAbsent 17 = .ok (.iconst 0, 1) := by decide +kernel
theorem dX13_setAbsent_18 : decode cX13_setAbsent 18 = .ok (.putfield 48, 3) := by decide +kernel
theorem dX13_setAbsent_21 : decode cX13_setAbsent 21 = .ok (.aload_n 0, 1) := by decide +kernel
theorem dX13_setAbsent_22 : decode cX13_setAbsent 22 = .ok (.getfield 33, 3) := by decide +kernel
theorem dX13_setAbsent_25 : decode cX13_setAbsent 25 = .ok (.iload_n 1, 1) := by decide +kernel
theorem dX13_setAbsent_26 : decode cX13_setAbsent 26 = .ok (.baload, 1) := by decide +kernel
theorem dX13_setAbsent_27 : decode cX13_setAbsent 27 = .ok (.istore_n 3, 1) := by decide +kernel
theorem dX13_setAbsent_28 : decode cX13_setAbsent 28 = .ok (.aload_n 0, 1) := by decide +kernel
theorem dX13_setAbsent_29 : decode cX13_setAbsent 29 = .ok (.getfield 33, 3) := by decide +kernel
theorem dX13_setAbsent_32 : decode cX13_setAbsent 32 = .ok (.iload_n 1, 1) := by decide +kernel
theorem dX13_setAbsent_33 : decode cX13_setAbsent 33 = .ok (.iload_n 2, 1) := by decide +kernel
theorem dX13_setAbsent_34 : decode cX13_setAbsent 34 = .ok (.bastore, 1) := by decide +kernel
theorem dX13_setAbsent_35 : decode cX13_setAbsent 35 = .ok (.iload_n 3, 1) := by decide +kernel
theorem dX13_setAbsent_36 : decode cX13_setAbsent 36 = .ok (.ireturn, 1) := by decide +kernel
set_option maxRecDepth 20000 in
theorem ggX13_ticket_X13_isStyle : GoodIn wsX13_ticket wsX13_isStyle := goodIn_r _ [12, 3, 13, 14, 15, 16, 17, 18, 19, 20, 11, 21, 116, 117, 118, 119, 120, 121, 122, 123, 124, 125, 126, 127, 128, 150, 151, 152] (by decide +kernel) (by decide +kernel)
set_option maxRecDepth 20000 in
theorem gX13_ticket_X13_isStyle : GoodIn wsX13_ticket (wsV RX13 182 RX13 yX13_isStyle wsX13_isStyle) := goodIn_app (goodIn_of _ (by decide +kernel)) ggX13_ticket_X13_isStyle
set_option maxRecDepth 20000 in
theorem ggX13_ticket_X13_fails : GoodIn wsX13_ticket wsX13_fails := goodIn_r _ [25, 1, 116, 117, 118, 119, 120, 121, 122, 123, 124, 125, 126, 127, 128] (by decide +kernel) (by decide +kernel)
set_option maxRecDepth 20000 in
theorem gX13_ticket_X13_fails : GoodIn wsX13_ticket (wsV RX13 75 RX13 yX13_fails wsX13_fails) := goodIn_app (goodIn_of _ (by decide +kernel)) ggX13_ticket_X13_fails
theorem dX13_ticket_0 : decode cX13_ticket 0 = .ok (.aload_n 0, 1) := by decide +kernel
theorem dX13_ticket_1 : decode cX13_ticket 1 = .ok (.iconst 0, 1) := by decide +kernel
theorem dX13_ticket_2 : decode cX13_ticket 2 = .ok (.putfield 48, 3) := by decide +kernel
theorem dX13_ticket_5 : decode cX13_ticket 5 = .ok (.aload_n 0, 1) := by decide +kernel
theorem dX13_ticket_6 : decode cX13_ticket 6 = .ok (.iload_n 1, 1) := by decide +kernel
theorem dX13_ticket_7 : decode cX13_ticket 7 = .ok (.invokevirtual 182, 3) := by decide +kernel
theorem dX13_ticket_10 : decode cX13_ticket 10 = .ok (.ifCond .ne 9, 3) := by decide +kernel
theorem dX13_ticket_13 : decode cX13_ticket 13 = .ok (.aload_n 0, 1) := by decide +kernel
theorem dX13_ticket_14 : decode cX13_ticket 14 = .ok (.iconst 1, 1) := by decide +kernel
theorem dX13_ticket_15 : decode cX13_ticket 15 = .ok (.invokevirtual 75, 3) := by decide +kernel
theorem dX13_ticket_18 : decode cX13_ticket 18 = .ok (.ireturn, 1) := by decide +kernel
set_option maxRecDepth 20000 in
theorem ggX13_pass_X13_in : GoodIn wsX13_pass wsX13_in := goodIn_r _ [6] (by decide +kernel) (by decide +kernel)
set_option maxRecDepth 20000 in
theorem gX13_pass_X13_in : GoodIn wsX13_pass (va_wsS RX13 63 yX13_in wsX13_in) := goodIn_app (goodIn_of _ (by decide +kernel)) ggX13_pass_X13_in
set_option maxRecDepth 20000 in
theorem ggX13_pass_X13_fails : GoodIn wsX13_pass wsX13_fails := goodIn_r _ [10, 1, 11, 12, 13, 14, 15, 16, 17, 18, 19, 20, 21, 22, 23] (by decide +kernel) (by decide +kernel)
set_option maxRecDepth 20000 in
theorem gX13_pass_X13_fails : GoodIn wsX13_pass (wsV RX13 75 RX13 yX13_fails wsX13_fails) := goodIn_app (goodIn_of _ (by decide +kernel)) ggX13_pass_X13_fails
theorem dX13_pass_0 : decode cX13_pass 0 = .ok (.aload_n 0, 1) := by decide +kernel
theorem dX13_pass_1 : decode cX13_pass 1 = .ok (.iconst 0, 1) := by decide +kernel
theorem dX13_pass_2 : decode cX13_pass 2 = .ok (.putfield 48, 3) := by decide +kernel
theorem dX13_pass_5 : decode cX13_pass 5 = .ok (.iload_n 1, 1) := by decide +kernel
theorem dX13_pass_6 : decode cX13_pass 6 = .ok (.iconst 1, 1) := by decide +kernel
theorem dX13_pass_7 : decode cX13_pass 7 = .ok (.sipush 240, 3) := by decide +kernel
theorem dX13_pass_10 : decode cX13_pass 10 = .ok (.invokestatic 63, 3) := by decide +kernel
theorem dX13_pass_13 : decode cX13_pass 13 = .ok (.ifCond .ne 9, 3) := by decide +kernel
theorem dX13_pass_16 : decode cX13_pass 16 = .ok (.aload_n 0, 1) := by decide +kernel
theorem dX13_pass_17 : decode cX13_pass 17 = .ok (.iconst 1, 1) := by decide +kernel
theorem dX13_pass_18 : decode cX13_pass 18 = .ok (.invokevirtual 75, 3) := by decide +kernel
theorem dX13_pass_21 : decode cX13_pass 21 = .ok (.ireturn, 1) := by decide +kernel
theorem dX13_pass_22 : decode cX13_pass 22 = .ok (.aload_n 0, 1) := by decide +kernel
theorem dX13_pass_23 : decode cX13_pass 23 = .ok (.dup, 1) := by decide +kernel
theorem dX13_pass_24 : decode cX13_pass 24 = .ok (.getfield 138, 3) := by decide +kernel
theorem dX13_pass_27 : decode cX13_pass 27 = .ok (.iload_n 1, 1) := by decide +kernel
theorem dX13_pass_28 : decode cX13_pass 28 = .ok (.iadd, 1) := by decide +kernel
theorem dX13_pass_29 : decode cX13_pass 29 = .ok (.putfield 138, 3) := by decide +kernel
theorem dX13_pass_32 : decode cX13_pass 32 = .ok (.aload_n 0, 1) := by decide +kernel
theorem dX13_pass_33 : decode cX13_pass 33 = .ok (.getfield 138, 3) := by decide +kernel
theorem dX13_pass_36 : decode cX13_pass 36 = .ok (.ireturn, 1) := by decide +kernel
set_option maxRecDepth 20000 in
theorem ggX13_sew_X13_isSeam : GoodIn wsX13_sew wsX13_isSeam := goodIn_r _ [12, 2, 3, 13, 14, 15, 11, 16, 17, 18, 19, 20, 21, 22, 23, 24, 25, 26, 27, 28, 29, 30, 31, 32, 33, 34, 35, 36, 37, 38, 39, 40, 41, 42, 63, 64, 65, 66, 67, 68, 69, 70, 71, 72, 73, 74, 75, 76, 77, 78, 79, 80, 81, 82, 83, 84, 85, 86, 87, 88, 89, 90, 91, 92, 93, 94, 95, 96, 97, 98, 99] (by decide +kernel) (by decide +kernel)
set_option maxRecDepth 20000 in
theorem gX13_sew_X13_isSeam : GoodIn wsX13_sew (wsV RX13 263 RX13 yX13_isSeam wsX13_isSeam) := goodIn_app (goodIn_of _ (by decide +kernel)) ggX13_sew_X13_isSeam
set_option maxRecDepth 20000 in
theorem ggX13_sew_X13_fails : GoodIn wsX13_sew wsX13_fails := goodIn_r _ [46, 1, 63, 64, 65, 66, 67, 68, 69, 70, 71, 72, 73, 74, 75] (by decide +kernel) (by decide +kernel)
set_option maxRecDepth 20000 in
theorem gX13_sew_X13_fails : GoodIn wsX13_sew (wsV RX13 75 RX13 yX13_fails wsX13_fails) := goodIn_app (goodIn_of _ (by decide +kernel)) ggX13_sew_X13_fails
theorem dX13_sew_0 : decode cX13_sew 0 = .ok (.aload_n 0, 1) := by decide +kernel
theorem dX13_sew_1 : decode cX13_sew 1 = .ok (.iconst 0, 1) := by decide +kernel
theorem dX13_sew_2 : decode cX13_sew 2 = .ok (.putfield 48, 3) := by decide +kernel
theorem dX13_sew_5 : decode cX13_sew 5 = .ok (.aload_n 0, 1) := by decide +kernel
theorem dX13_sew_6 : decode cX13_sew 6 = .ok (.iload_n 1, 1) := by decide +kernel
theorem dX13_sew_7 : decode cX13_sew 7 = .ok (.iload_n 3, 1) := by decide +kernel
theorem dX13_sew_8 : decode cX13_sew 8 = .ok (.invokevirtual 263, 3) := by decide +kernel
theorem dX13_sew_11 : decode cX13_sew 11 = .ok (.ifCond .eq 23, 3) := by decide +kernel
theorem dX13_sew_34 : decode cX13_sew 34 = .ok (.aload_n 0, 1) := by decide +kernel
theorem dX13_sew_35 : decode cX13_sew 35 = .ok (.iconst 1, 1) := by decide +kernel
theorem dX13_sew_36 : decode cX13_sew 36 = .ok (.invokevirtual 75, 3) := by decide +kernel
theorem dX13_sew_39 : decode cX13_sew 39 = .ok (.ireturn, 1) := by decide +kernel
set_option maxRecDepth 20000 in
theorem ggX13_room_X13_isTicket : GoodIn wsX13_room wsX13_isTicket := goodIn_r _ [9, 2, 10, 11, 12, 13, 14, 15, 16, 17, 8, 18, 47, 48, 49, 50, 51, 52, 53, 54, 55, 56, 57, 58, 59, 60, 61, 62] (by decide +kernel) (by decide +kernel)
set_option maxRecDepth 20000 in
theorem gX13_room_X13_isTicket : GoodIn wsX13_room (wsV RX13 221 RX13 yX13_isTicket wsX13_isTicket) := goodIn_app (goodIn_of _ (by decide +kernel)) ggX13_room_X13_isTicket
theorem dX13_room_0 : decode cX13_room 0 = .ok (.aload_n 0, 1) := by decide +kernel
theorem dX13_room_1 : decode cX13_room 1 = .ok (.aload_n 0, 1) := by decide +kernel
theorem dX13_room_2 : decode cX13_room 2 = .ok (.iload_n 1, 1) := by decide +kernel
theorem dX13_room_3 : decode cX13_room 3 = .ok (.invokevirtual 221, 3) := by decide +kernel
theorem dX13_room_6 : decode cX13_room 6 = .ok (.ifCond .eq 7, 3) := by decide +kernel
theorem dX13_room_13 : decode cX13_room 13 = .ok (.iconst 1, 1) := by decide +kernel
theorem dX13_room_14 : decode cX13_room 14 = .ok (.putfield 48, 3) := by decide +kernel
theorem dX13_room_17 : decode cX13_room 17 = .ok (.aload_n 0, 1) := by decide +kernel
theorem dX13_room_18 : decode cX13_room 18 = .ok (.getfield 48, 3) := by decide +kernel
theorem dX13_room_21 : decode cX13_room 21 = .ok (.ifCond .le 7, 3) := by decide +kernel
theorem dX13_room_24 : decode cX13_room 24 = .ok (.iconst 0, 1) := by decide +kernel
theorem dX13_room_25 : decode cX13_room 25 = .ok (.goto 23, 3) := by decide +kernel
theorem dX13_room_48 : decode cX13_room 48 = .ok (.ireturn, 1) := by decide +kernel
set_option maxRecDepth 20000 in
theorem ggX13_bottleneck_Jx4a65c_iterator_32c93 : GoodIn wsX13_bottleneck wsJx4a65c_iterator_32c93 := goodIn_r _ [13, 14, 15, 16, 17, 18, 19, 20, 21, 22, 23, 24, 25, 26, 27, 114, 115, 116, 117, 118, 119, 120] (by decide +kernel) (by decide +kernel)
set_option maxRecDepth 20000 in
theorem gX13_bottleneck_Jx4a65c_iterator_32c93_f111Jx4a65c : GoodIn wsX13_bottleneck (va_wsF RX13 111 RJx4a65c ⟨"java/util/List", "iterator", "()Ljava/util/Iterator;"⟩ yJx4a65c_iterator_32c93 wsJx4a65c_iterator_32c93) := goodIn_app (goodIn_of _ (by decide +kernel)) ggX13_bottleneck_Jx4a65c_iterator_32c93
set_option maxRecDepth 20000 in
theorem ggX13_bottleneck_Jx35411_hasNext_aae02 : GoodIn wsX13_bottleneck wsJx35411_hasNext_aae02 := goodIn_r _ [31, 32, 20, 114, 115, 116, 117, 118, 119, 120] (by decide +kernel) (by decide +kernel)
set_option maxRecDepth 20000 in
theorem gX13_bottleneck_Jx35411_hasNext_aae02_f115Jx35411 : GoodIn wsX13_bottleneck (va_wsF RX13 115 RJx35411 ⟨"java/util/Iterator", "hasNext", "()Z"⟩ yJx35411_hasNext_aae02 wsJx35411_hasNext_aae02) := goodIn_app (goodIn_of _ (by decide +kernel)) ggX13_bottleneck_Jx35411_hasNext_aae02
set_option maxRecDepth 20000 in
theorem ggX13_bottleneck_X13_fails : GoodIn wsX13_bottleneck wsX13_fails := goodIn_r _ [79, 1, 80, 81, 82, 83, 84, 85, 86, 87, 88, 89, 90, 91, 92] (by decide +kernel) (by decide +kernel)
set_option maxRecDepth 20000 in
theorem gX13_bottleneck_X13_fails : GoodIn wsX13_bottleneck (wsV RX13 75 RX13 yX13_fails wsX13_fails) := goodIn_app (goodIn_of _ (by decide +kernel)) ggX13_bottleneck_X13_fails
theorem dX13_bottleneck_0 : decode cX13_bottleneck 0 = .ok (.aload_n 0, 1) := by decide +kernel
theorem dX13_bottleneck_1 : decode cX13_bottleneck 1 = .ok (.iconst 0, 1) := by decide +kernel
theorem dX13_bottleneck_2 : decode cX13_bottleneck 2 = .ok (.putfield 48, 3) := by decide +kernel
theorem dX13_bottleneck_5 : decode cX13_bottleneck 5 = .ok (.iconst (-1), 1) := by decide +kernel
theorem dX13_bottleneck_6 : decode cX13_bottleneck 6 = .ok (.istore_n 1, 1) := by decide +kernel
theorem dX13_bottleneck_7 : decode cX13_bottleneck 7 = .ok (.iconst 0, 1) := by decide +kernel
theorem dX13_bottleneck_8 : decode cX13_bottleneck 8 = .ok (.istore_n 2, 1) := by decide +kernel
theorem dX13_bottleneck_9 : decode cX13_bottleneck 9 = .ok (.iconst 0, 1) := by decide +kernel
theorem dX13_bottleneck_10 : decode cX13_bottleneck 10 = .ok (.istore_n 3, 1) := by decide +kernel
theorem dX13_bottleneck_11 : decode cX13_bottleneck 11 = .ok (.iload_n 3, 1) := by decide +kernel
theorem dX13_bottleneck_12 : decode cX13_bottleneck 12 = .ok (.iconst 4, 1) := by decide +kernel
theorem dX13_bottleneck_13 : decode cX13_bottleneck 13 = .ok (.if_icmp .ge 298, 3) := by decide +kernel
theorem dX13_bottleneck_16 : decode cX13_bottleneck 16 = .ok (.iconst 0, 1) := by decide +kernel
theorem dX13_bottleneck_17 : decode cX13_bottleneck 17 = .ok (.istore 4, 2) := by decide +kernel
theorem dX13_bottleneck_19 : decode cX13_bottleneck 19 = .ok (.aload_n 0, 1) := by decide +kernel
theorem dX13_bottleneck_20 : decode cX13_bottleneck 20 = .ok (.getfield 26, 3) := by decide +kernel
theorem dX13_bottleneck_23 : decode cX13_bottleneck 23 = .ok (.invokeinterface 111 1, 5) := by decide +kernel
theorem dX13_bottleneck_28 : decode cX13_bottleneck 28 = .ok (.astore 5, 2) := by decide +kernel
theorem dX13_bottleneck_30 : decode cX13_bottleneck 30 = .ok (.aload 5, 2) := by decide +kernel
theorem dX13_bottleneck_32 : decode cX13_bottleneck 32 = .ok (.invokeinterface 115 1, 5) := by decide +kernel
theorem dX13_bottleneck_37 : decode cX13_bottleneck 37 = .ok (.ifCond .eq 141, 3) := by decide +kernel
theorem dX13_bottleneck_178 : decode cX13_bottleneck 178 = .ok (.iconst 0, 1) := by decide +kernel
theorem dX13_bottleneck_179 : decode cX13_bottleneck 179 = .ok (.istore 5, 2) := by decide +kernel
theorem dX13_bottleneck_181 : decode cX13_bottleneck 181 = .ok (.iconst 0, 1) := by decide +kernel
theorem dX13_bottleneck_182 : decode cX13_bottleneck 182 = .ok (.istore 6, 2) := by decide +kernel
theorem dX13_bottleneck_184 : decode cX13_bottleneck 184 = .ok (.iload 6, 2) := by decide +kernel
theorem dX13_bottleneck_186 : decode cX13_bottleneck 186 = .ok (.bipush 8, 2) := by decide +kernel
theorem dX13_bottleneck_188 : decode cX13_bottleneck 188 = .ok (.if_icmp .ge 43, 3) := by decide +kernel
theorem dX13_bottleneck_191 : decode cX13_bottleneck 191 = .ok (.iload 5, 2) := by decide +kernel
theorem dX13_bottleneck_193 : decode cX13_bottleneck 193 = .ok (.aload_n 0, 1) := by decide +kernel
theorem dX13_bottleneck_194 : decode cX13_bottleneck 194 = .ok (.getfield 29, 3) := by decide +kernel
theorem dX13_bottleneck_197 : decode cX13_bottleneck 197 = .ok (.iconst 4, 1) := by decide +kernel
theorem dX13_bottleneck_198 : decode cX13_bottleneck 198 = .ok (.iload 6, 2) := by decide +kernel
theorem dX13_bottleneck_200 : decode cX13_bottleneck 200 = .ok (.imul, 1) := by decide +kernel
theorem dX13_bottleneck_201 : decode cX13_bottleneck 201 = .ok (.iload_n 3, 1) := by decide +kernel
theorem dX13_bottleneck_202 : decode cX13_bottleneck 202 = .ok (.iadd, 1) := by decide +kernel
theorem dX13_bottleneck_203 : decode cX13_bottleneck 203 = .ok (.baload, 1) := by decide +kernel
theorem dX13_bottleneck_204 : decode cX13_bottleneck 204 = .ok (.ifCond .eq 17, 3) := by decide +kernel
theorem dX13_bottleneck_221 : decode cX13_bottleneck 221 = .ok (.iconst 0, 1) := by decide +kernel
theorem dX13_bottleneck_222 : decode cX13_bottleneck 222 = .ok (.iadd, 1) := by decide +kernel
theorem dX13_bottleneck_223 : decode cX13_bottleneck 223 = .ok (.istore 5, 2) := by decide +kernel
theorem dX13_bottleneck_225 : decode cX13_bottleneck 225 = .ok (.iinc 6 1, 3) := by decide +kernel
theorem dX13_bottleneck_228 : decode cX13_bottleneck 228 = .ok (.goto (-44), 3) := by decide +kernel
theorem dX13_bottleneck_231 : decode cX13_bottleneck 231 = .ok (.iload 4, 2) := by decide +kernel
theorem dX13_bottleneck_233 : decode cX13_bottleneck 233 = .ok (.ifCond .ne 7, 3) := by decide +kernel
theorem dX13_bottleneck_236 : decode cX13_bottleneck 236 = .ok (.iconst (-1), 1) := by decide +kernel
theorem dX13_bottleneck_237 : decode cX13_bottleneck 237 = .ok (.goto 19, 3) := by decide +kernel
theorem dX13_bottleneck_256 : decode cX13_bottleneck 256 = .ok (.istore 6, 2) := by decide +kernel
theorem dX13_bottleneck_258 : decode cX13_bottleneck 258 = .ok (.iload 6, 2) := by decide +kernel
theorem dX13_bottleneck_260 : decode cX13_bottleneck 260 = .ok (.iconst (-1), 1) := by decide +kernel
theorem dX13_bottleneck_261 : decode cX13_bottleneck 261 = .ok (.if_icmp .eq 18, 3) := by decide +kernel
theorem dX13_bottleneck_279 : decode cX13_bottleneck 279 = .ok (.iconst 0, 1) := by decide +kernel
theorem dX13_bottleneck_280 : decode cX13_bottleneck 280 = .ok (.istore 7, 2) := by decide +kernel
theorem dX13_bottleneck_282 : decode cX13_bottleneck 282 = .ok (.iload 7, 2) := by decide +kernel
theorem dX13_bottleneck_284 : decode cX13_bottleneck 284 = .ok (.ifCond .eq 7, 3) := by decide +kernel
theorem dX13_bottleneck_291 : decode cX13_bottleneck 291 = .ok (.iload_n 1, 1) := by decide +kernel
theorem dX13_bottleneck_292 : decode cX13_bottleneck 292 = .ok (.istore_n 1, 1) := by decide +kernel
theorem dX13_bottleneck_293 : decode cX13_bottleneck 293 = .ok (.iload 7, 2) := by decide +kernel
theorem dX13_bottleneck_295 : decode cX13_bottleneck 295 = .ok (.ifCond .eq 8, 3) := by decide +kernel
theorem dX13_bottleneck_303 : decode cX13_bottleneck 303 = .ok (.iload_n 2, 1) := by decide +kernel
theorem dX13_bottleneck_304 : decode cX13_bottleneck 304 = .ok (.istore_n 2, 1) := by decide +kernel
theorem dX13_bottleneck_305 : decode cX13_bottleneck 305 = .ok (.iinc 3 1, 3) := by decide +kernel
theorem dX13_bottleneck_308 : decode cX13_bottleneck 308 = .ok (.goto (-297), 3) := by decide +kernel
theorem dX13_bottleneck_311 : decode cX13_bottleneck 311 = .ok (.iload_n 1, 1) := by decide +kernel
theorem dX13_bottleneck_312 : decode cX13_bottleneck 312 = .ok (.iconst (-1), 1) := by decide +kernel
theorem dX13_bottleneck_313 : decode cX13_bottleneck 313 = .ok (.if_icmp .ne 11, 3) := by decide +kernel
theorem dX13_bottleneck_316 : decode cX13_bottleneck 316 = .ok (.aload_n 0, 1) := by decide +kernel
theorem dX13_bottleneck_317 : decode cX13_bottleneck 317 = .ok (.iconst 1, 1) := by decide +kernel
theorem dX13_bottleneck_318 : decode cX13_bottleneck 318 = .ok (.invokevirtual 75, 3) := by decide +kernel
theorem dX13_bottleneck_321 : decode cX13_bottleneck 321 = .ok (.goto 4, 3) := by decide +kernel
theorem dX13_bottleneck_325 : decode cX13_bottleneck 325 = .ok (.ireturn, 1) := by decide +kernel
set_option maxRecDepth 20000 in
theorem ggX13_setStand_X13_in : GoodIn wsX13_setStand wsX13_in := goodIn_r _ [6] (by decide +kernel) (by decide +kernel)
set_option maxRecDepth 20000 in
theorem gX13_setStand_X13_in : GoodIn wsX13_setStand (va_wsS RX13 63 yX13_in wsX13_in) := goodIn_app (goodIn_of _ (by decide +kernel)) ggX13_setStand_X13_in
set_option maxRecDepth 20000 in
theorem ggX13_setStand_X13_fails : GoodIn wsX13_setStand wsX13_fails := goodIn_r _ [10, 1, 11, 12, 13, 14, 15, 16, 17, 18, 19, 20, 21, 22, 23] (by decide +kernel) (by decide +kernel)
set_option maxRecDepth 20000 in
theorem gX13_setStand_X13_fails : GoodIn wsX13_setStand (wsV RX13 75 RX13 yX13_fails wsX13_fails) := goodIn_app (goodIn_of _ (by decide +kernel)) ggX13_setStand_X13_fails
theorem dX13_setStand_0 : decode cX13_setStand 0 = .ok (.aload_n 0, 1) := by decide +kernel
theorem dX13_setStand_1 : decode cX13_setStand 1 = .ok (.iconst 0, 1) := by decide +kernel
theorem dX13_setStand_2 : decode cX13_setStand 2 = .ok (.putfield 48, 3) := by decide +kernel
theorem dX13_setStand_5 : decode cX13_setStand 5 = .ok (.iload_n 1, 1) := by decide +kernel
theorem dX13_setStand_6 : decode cX13_setStand 6 = .ok (.iconst 0, 1) := by decide +kernel
theorem dX13_setStand_7 : decode cX13_setStand 7 = .ok (.iconst 4, 1) := by decide +kernel
theorem dX13_setStand_8 : decode cX13_setStand 8 = .ok (.invokestatic 63, 3) := by decide +kernel
theorem dX13_setStand_11 : decode cX13_setStand 11 = .ok (.ifCond .eq 14, 3) := by decide +kernel
theorem dX13_setStand_14 : decode cX13_setStand 14 = .ok (.iload_n 2, 1) := by decide +kernel
theorem dX13_setStand_15 : decode cX13_setStand 15 = .ok (.iconst 1, 1) := by decide +kernel
theorem dX13_setStand_16 : decode cX13_setStand 16 = .ok (.sipush 240, 3) := by decide +kernel
theorem dX13_setStand_19 : decode cX13_setStand 19 = .ok (.invokestatic 63, 3) := by decide +kernel
theorem dX13_setStand_22 : decode cX13_setStand 22 = .ok (.ifCond .ne 9, 3) := by decide +kernel
theorem dX13_setStand_25 : decode cX13_setStand 25 = .ok (.aload_n 0, 1) := by decide +kernel
theorem dX13_setStand_26 : decode cX13_setStand 26 = .ok (.iconst 1, 1) := by decide +kernel
theorem dX13_setStand_27 : decode cX13_setStand 27 = .ok (.invokevirtual 75, 3) := by decide +kernel
theorem dX13_setStand_30 : decode cX13_setStand 30 = .ok (.ireturn, 1) := by decide +kernel
theorem dX13_setStand_31 : decode cX13_setStand 31 = .ok (.aload_n 0, 1) := by decide +kernel
theorem dX13_setStand_32 : decode cX13_setStand 32 = .ok (.getfield 42, 3) := by decide +kernel
theorem dX13_setStand_35 : decode cX13_setStand 35 = .ok (.iload_n 1, 1) := by decide +kernel
theorem dX13_setStand_36 : decode cX13_setStand 36 = .ok (.iaload, 1) := by decide +kernel
theorem dX13_setStand_37 : decode cX13_setStand 37 = .ok (.istore_n 3, 1) := by decide +kernel
theorem dX13_setStand_38 : decode cX13_setStand 38 = .ok (.aload_n 0, 1) := by decide +kernel
theorem dX13_setStand_39 : decode cX13_setStand 39 = .ok (.getfield 42, 3) := by decide +kernel
theorem dX13_setStand_42 : decode cX13_setStand 42 = .ok (.iload_n 1, 1) := by decide +kernel
theorem dX13_setStand_43 : decode cX13_setStand 43 = .ok (.iload_n 2, 1) := by decide +kernel
theorem dX13_setStand_44 : decode cX13_setStand 44 = .ok (.iastore, 1) := by decide +kernel
theorem dX13_setStand_45 : decode cX13_setStand 45 = .ok (.iload_n 3, 1) := by decide +kernel
theorem dX13_setStand_46 : decode cX13_setStand 46 = .ok (.ireturn, 1) := by decide +kernel
set_option maxRecDepth 20000 in
theorem ggX13_lastOn_X13_isTicket : GoodIn wsX13_lastOn wsX13_isTicket := goodIn_r _ [9, 2, 10, 11, 12, 13, 14, 15, 16, 17, 8, 18, 180, 181, 182, 183, 184, 185, 186, 187, 188, 189, 190, 191, 192, 214, 215, 216] (by decide +kernel) (by decide +kernel)
set_option maxRecDepth 20000 in
theorem gX13_lastOn_X13_isTicket : GoodIn wsX13_lastOn (wsV RX13 221 RX13 yX13_isTicket wsX13_isTicket) := goodIn_app (goodIn_of _ (by decide +kernel)) ggX13_lastOn_X13_isTicket
set_option maxRecDepth 20000 in
theorem ggX13_lastOn_X13_fails : GoodIn wsX13_lastOn wsX13_fails := goodIn_r _ [22, 1, 180, 181, 182, 183, 184, 185, 186, 187, 188, 189, 190, 191, 192] (by decide +kernel) (by decide +kernel)
set_option maxRecDepth 20000 in
theorem gX13_lastOn_X13_fails : GoodIn wsX13_lastOn (wsV RX13 75 RX13 yX13_fails wsX13_fails) := goodIn_app (goodIn_of _ (by decide +kernel)) ggX13_lastOn_X13_fails
theorem dX13_lastOn_0 : decode cX13_lastOn 0 = .ok (.aload_n 0, 1) := by decide +kernel
theorem dX13_lastOn_1 : decode cX13_lastOn 1 = .ok (.iconst 0, 1) := by decide +kernel
theorem dX13_lastOn_2 : decode cX13_lastOn 2 = .ok (.putfield 48, 3) := by decide +kernel
theorem dX13_lastOn_5 : decode cX13_lastOn 5 = .ok (.aload_n 0, 1) := by decide +kernel
theorem dX13_lastOn_6 : decode cX13_lastOn 6 = .ok (.iload_n 1, 1) := by decide +kernel
theorem dX13_lastOn_7 : decode cX13_lastOn 7 = .ok (.invokevirtual 221, 3) := by decide +kernel
theorem dX13_lastOn_10 : decode cX13_lastOn 10 = .ok (.ifCond .ne 9, 3) := by decide +kernel
theorem dX13_lastOn_13 : decode cX13_lastOn 13 = .ok (.aload_n 0, 1) := by decide +kernel
theorem dX13_lastOn_14 : decode cX13_lastOn 14 = .ok (.iconst 1, 1) := by decide +kernel
theorem dX13_lastOn_15 : decode cX13_lastOn 15 = .ok (.invokevirtual 75, 3) := by decide +kernel
theorem dX13_lastOn_18 : decode cX13_lastOn 18 = .ok (.ireturn, 1) := by decide +kernel
set_option maxRecDepth 20000 in
theorem ggX13_open_X13_in : GoodIn wsX13_open wsX13_in := goodIn_r _ [8] (by decide +kernel) (by decide +kernel)
set_option maxRecDepth 20000 in
theorem gX13_open_X13_in : GoodIn wsX13_open (va_wsS RX13 63 yX13_in wsX13_in) := goodIn_app (goodIn_of _ (by decide +kernel)) ggX13_open_X13_in
set_option maxRecDepth 20000 in
theorem ggX13_open_X13_fails : GoodIn wsX13_open wsX13_fails := goodIn_r _ [12, 1, 73, 74, 75, 76, 77, 78, 79, 80, 81, 82, 83, 84, 85] (by decide +kernel) (by decide +kernel)
set_option maxRecDepth 20000 in
theorem gX13_open_X13_fails : GoodIn wsX13_open (wsV RX13 75 RX13 yX13_fails wsX13_fails) := goodIn_app (goodIn_of _ (by decide +kernel)) ggX13_open_X13_fails
set_option maxRecDepth 20000 in
theorem ggX13_open_Jx4a65c_size_8abf5 : GoodIn wsX13_open wsJx4a65c_size_8abf5 := goodIn_r _ [17, 18, 86, 87, 88] (by decide +kernel) (by decide +kernel)
set_option maxRecDepth 20000 in
theorem gX13_open_Jx4a65c_size_8abf5_f84Jx4a65c : GoodIn wsX13_open (va_wsF RX13 84 RJx4a65c ⟨"java/util/List", "size", "()I"⟩ yJx4a65c_size_8abf5 wsJx4a65c_size_8abf5) := goodIn_app (goodIn_of _ (by decide +kernel)) ggX13_open_Jx4a65c_size_8abf5
set_option maxRecDepth 20000 in
theorem ggX13_open_Jx4a65c_add_9ea2d : GoodIn wsX13_open wsJx4a65c_add_9ea2d := goodIn_r _ [22, 23, 24, 25, 18, 26, 27, 28, 16, 29, 30, 31, 32, 33, 34, 35, 36, 37, 38, 39, 40, 41, 42, 43, 44, 45, 46, 47, 48, 49, 50, 51, 52, 53, 54, 55, 56, 57, 58, 59, 60, 61, 62, 63, 64, 65, 66, 67, 68, 69, 70, 71, 72, 86, 87, 88] (by decide +kernel) (by decide +kernel)
set_option maxRecDepth 20000 in
theorem gX13_open_Jx4a65c_add_9ea2d_f90Jx4a65c : GoodIn wsX13_open (va_wsF RX13 90 RJx4a65c ⟨"java/util/List", "add", "(Ljava/lang/Object;)Z"⟩ yJx4a65c_add_9ea2d wsJx4a65c_add_9ea2d) := goodIn_app (goodIn_of _ (by decide +kernel)) ggX13_open_Jx4a65c_add_9ea2d
theorem dX13_open_0 : decode cX13_open 0 = .ok (.aload_n 0, 1) := by decide +kernel
theorem dX13_open_1 : decode cX13_open 1 = .ok (.iconst 0, 1) := by decide +kernel
theorem dX13_open_2 : decode cX13_open 2 = .ok (.putfield 48, 3) := by decide +kernel
theorem dX13_open_5 : decode cX13_open 5 = .ok (.iload_n 1, 1) := by decide +kernel
theorem dX13_open_6 : decode cX13_open 6 = .ok (.iconst 1, 1) := by decide +kernel
theorem dX13_open_7 : decode cX13_open 7 = .ok (.sipush 240, 3) := by decide +kernel
theorem dX13_open_10 : decode cX13_open 10 = .ok (.invokestatic 63, 3) := by decide +kernel
theorem dX13_open_13 : decode cX13_open 13 = .ok (.ifCond .ne 9, 3) := by decide +kernel
theorem dX13_open_16 : decode cX13_open 16 = .ok (.aload_n 0, 1) := by decide +kernel
theorem dX13_open_17 : decode cX13_open 17 = .ok (.iconst 1, 1) := by decide +kernel
theorem dX13_open_18 : decode cX13_open 18 = .ok (.invokevirtual 75, 3) := by decide +kernel
theorem dX13_open_21 : decode cX13_open 21 = .ok (.ireturn, 1) := by decide +kernel
theorem dX13_open_22 : decode cX13_open 22 = .ok (.aload_n 0, 1) := by decide +kernel
theorem dX13_open_23 : decode cX13_open 23 = .ok (.getfield 45, 3) := by decide +kernel
theorem dX13_open_26 : decode cX13_open 26 = .ok (.invokeinterface 84 1, 5) := by decide +kernel
theorem dX13_open_31 : decode cX13_open 31 = .ok (.bipush 20, 2) := by decide +kernel
theorem dX13_open_33 : decode cX13_open 33 = .ok (.if_icmp .ne 9, 3) := by decide +kernel
theorem dX13_open_42 : decode cX13_open 42 = .ok (.aload_n 0, 1) := by decide +kernel
theorem dX13_open_43 : decode cX13_open 43 = .ok (.getfield 45, 3) := by decide +kernel
theorem dX13_open_46 : decode cX13_open 46 = .ok (.iconst 2, 1) := by decide +kernel
theorem dX13_open_47 : decode cX13_open 47 = .ok (.newarray .int, 2) := by decide +kernel
theorem dX13_open_49 : decode cX13_open 49 = .ok (.dup, 1) := by decide +kernel
theorem dX13_open_50 : decode cX13_open 50 = .ok (.iconst 0, 1) := by decide +kernel
theorem dX13_open_51 : decode cX13_open 51 = .ok (.aload_n 0, 1) := by decide +kernel
theorem dX13_open_52 : decode cX13_open 52 = .ok (.getfield 138, 3) := by decide +kernel
theorem dX13_open_55 : decode cX13_open 55 = .ok (.iastore, 1) := by decide +kernel
theorem dX13_open_56 : decode cX13_open 56 = .ok (.dup, 1) := by decide +kernel
theorem dX13_open_57 : decode cX13_open 57 = .ok (.iconst 1, 1) := by decide +kernel
theorem dX13_open_58 : decode cX13_open 58 = .ok (.aload_n 0, 1) := by decide +kernel
theorem dX13_open_59 : decode cX13_open 59 = .ok (.getfield 138, 3) := by decide +kernel
theorem dX13_open_62 : decode cX13_open 62 = .ok (.iload_n 1, 1) := by decide +kernel
theorem dX13_open_63 : decode cX13_open 63 = .ok (.iadd, 1) := by decide +kernel
theorem dX13_open_64 : decode cX13_open 64 = .ok (.iastore, 1) := by decide +kernel
theorem dX13_open_65 : decode cX13_open 65 = .ok (.invokeinterface 90 2, 5) := by decide +kernel
theorem dX13_open_70 : decode cX13_open 70 = .ok (.pop, 1) := by decide +kernel
theorem dX13_open_71 : decode cX13_open 71 = .ok (.aload_n 0, 1) := by decide +kernel
theorem dX13_open_72 : decode cX13_open 72 = .ok (.getfield 45, 3) := by decide +kernel
theorem dX13_open_75 : decode cX13_open 75 = .ok (.invokeinterface 84 1, 5) := by decide +kernel
theorem dX13_open_80 : decode cX13_open 80 = .ok (.iconst 1, 1) := by decide +kernel
theorem dX13_open_81 : decode cX13_open 81 = .ok (.isub, 1) := by decide +kernel
theorem dX13_open_82 : decode cX13_open 82 = .ok (.ireturn, 1) := by decide +kernel
set_option maxRecDepth 20000 in
theorem ggX13_sole_X13_isTicket : GoodIn wsX13_sole wsX13_isTicket := goodIn_r _ [12, 3, 13, 14, 15, 16, 17, 18, 19, 20, 11, 21, 56, 57, 58, 59, 60, 61, 62, 63, 64, 65, 66, 67, 68, 90, 91, 92] (by decide +kernel) (by decide +kernel)
set_option maxRecDepth 20000 in
theorem gX13_sole_X13_isTicket : GoodIn wsX13_sole (wsV RX13 221 RX13 yX13_isTicket wsX13_isTicket) := goodIn_app (goodIn_of _ (by decide +kernel)) ggX13_sole_X13_isTicket
set_option maxRecDepth 20000 in
theorem ggX13_sole_X13_failsBoolean : GoodIn wsX13_sole wsX13_failsBoolean := goodIn_r _ [25, 1, 56, 57, 58, 59, 60, 61, 62, 63, 64, 65, 66, 67, 68] (by decide +kernel) (by decide +kernel)
set_option maxRecDepth 20000 in
theorem gX13_sole_X13_failsBoolean : GoodIn wsX13_sole (wsV RX13 257 RX13 yX13_failsBoolean wsX13_failsBoolean) := goodIn_app (goodIn_of _ (by decide +kernel)) ggX13_sole_X13_failsBoolean
theorem dX13_sole_0 : decode cX13_sole 0 = .ok (.aload_n 0, 1) := by decide +kernel
theorem dX13_sole_1 : decode cX13_sole 1 = .ok (.iconst 0, 1) := by decide +kernel
theorem dX13_sole_2 : decode cX13_sole 2 = .ok (.putfield 48, 3) := by decide +kernel
theorem dX13_sole_5 : decode cX13_sole 5 = .ok (.aload_n 0, 1) := by decide +kernel
theorem dX13_sole_6 : decode cX13_sole 6 = .ok (.iload_n 1, 1) := by decide +kernel
theorem dX13_sole_7 : decode cX13_sole 7 = .ok (.invokevirtual 221, 3) := by decide +kernel
theorem dX13_sole_10 : decode cX13_sole 10 = .ok (.ifCond .eq 22, 3) := by decide +kernel
theorem dX13_sole_32 : decode cX13_sole 32 = .ok (.aload_n 0, 1) := by decide +kernel
theorem dX13_sole_33 : decode cX13_sole 33 = .ok (.iconst 1, 1) := by decide +kernel
theorem dX13_sole_34 : decode cX13_sole 34 = .ok (.invokevirtual 257, 3) := by decide +kernel
theorem dX13_sole_37 : decode cX13_sole 37 = .ok (.ireturn, 1) := by decide +kernel
set_option maxRecDepth 20000 in
theorem ggX13_takeOff_X13_isTicket : GoodIn wsX13_takeOff wsX13_isTicket := goodIn_r _ [9, 2, 10, 11, 12, 13, 14, 15, 16, 17, 8, 18, 180, 181, 182, 183, 184, 185, 186, 187, 188, 189, 190, 191, 192, 214, 215, 216] (by decide +kernel) (by decide +kernel)
set_option maxRecDepth 20000 in
theorem gX13_takeOff_X13_isTicket : GoodIn wsX13_takeOff (wsV RX13 221 RX13 yX13_isTicket wsX13_isTicket) := goodIn_app (goodIn_of _ (by decide +kernel)) ggX13_takeOff_X13_isTicket
set_option maxRecDepth 20000 in
theorem ggX13_takeOff_X13_fails : GoodIn wsX13_takeOff wsX13_fails := goodIn_r _ [22, 1, 180, 181, 182, 183, 184, 185, 186, 187, 188, 189, 190, 191, 192] (by decide +kernel) (by decide +kernel)
set_option maxRecDepth 20000 in
theorem gX13_takeOff_X13_fails : GoodIn wsX13_takeOff (wsV RX13 75 RX13 yX13_fails wsX13_fails) := goodIn_app (goodIn_of _ (by decide +kernel)) ggX13_takeOff_X13_fails
theorem dX13_takeOff_0 : decode cX13_takeOff 0 = .ok (.aload_n 0, 1) := by decide +kernel
theorem dX13_takeOff_1 : decode cX13_takeOff 1 = .ok (.iconst 0, 1) := by decide +kernel
theorem dX13_takeOff_2 : decode cX13_takeOff 2 = .ok (.putfield 48, 3) := by decide +kernel
theorem dX13_takeOff_5 : decode cX13_takeOff 5 = .ok (.aload_n 0, 1) := by decide +kernel
theorem dX13_takeOff_6 : decode cX13_takeOff 6 = .ok (.iload_n 1, 1) := by decide +kernel
theorem dX13_takeOff_7 : decode cX13_takeOff 7 = .ok (.invokevirtual 221, 3) := by decide +kernel
theorem dX13_takeOff_10 : decode cX13_takeOff 10 = .ok (.ifCond .ne 9, 3) := by decide +kernel
theorem dX13_takeOff_13 : decode cX13_takeOff 13 = .ok (.aload_n 0, 1) := by decide +kernel
theorem dX13_takeOff_14 : decode cX13_takeOff 14 = .ok (.iconst 1, 1) := by decide +kernel
theorem dX13_takeOff_15 : decode cX13_takeOff 15 = .ok (.invokevirtual 75, 3) := by decide +kernel
theorem dX13_takeOff_18 : decode cX13_takeOff 18 = .ok (.ireturn, 1) := by decide +kernel
set_option maxRecDepth 20000 in
theorem ggX13_pack_X13_isTicket : GoodIn wsX13_pack wsX13_isTicket := goodIn_r _ [8, 1, 9, 10, 11, 12, 13, 14, 15, 16, 7, 17, 52, 53, 54, 55, 56, 57, 58, 59, 60, 61, 62, 63, 64, 79, 80, 81] (by decide +kernel) (by decide +kernel)
set_option maxRecDepth 20000 in
theorem gX13_pack_X13_isTicket : GoodIn wsX13_pack (wsV RX13 221 RX13 yX13_isTicket wsX13_isTicket) := goodIn_app (goodIn_of _ (by decide +kernel)) ggX13_pack_X13_isTicket
theorem dX13_pack_0 : decode cX13_pack 0 = .ok (.aload_n 0, 1) := by decide +kernel
theorem dX13_pack_1 : decode cX13_pack 1 = .ok (.aload_n 0, 1) := by decide +kernel
theorem dX13_pack_2 : decode cX13_pack 2 = .ok (.iload_n 1, 1) := by decide +kernel
theorem dX13_pack_3 : decode cX13_pack 3 = .ok (.invokevirtual 221, 3) := by decide +kernel
theorem dX13_pack_6 : decode cX13_pack 6 = .ok (.ifCond .ne 7, 3) := by decide +kernel
theorem dX13_pack_9 : decode cX13_pack 9 = .ok (.iconst 1, 1) := by decide +kernel
theorem dX13_pack_10 : decode cX13_pack 10 = .ok (.goto 53, 3) := by decide +kernel
theorem dX13_pack_63 : decode cX13_pack 63 = .ok (.putfield 48, 3) := by decide +kernel
theorem dX13_pack_66 : decode cX13_pack 66 = .ok (.aload_n 0, 1) := by decide +kernel
theorem dX13_pack_67 : decode cX13_pack 67 = .ok (.getfield 48, 3) := by decide +kernel
theorem dX13_pack_70 : decode cX13_pack 70 = .ok (.ifCond .le 5, 3) := by decide +kernel
theorem dX13_pack_73 : decode cX13_pack 73 = .ok (.iconst 0, 1) := by decide +kernel
theorem dX13_pack_74 : decode cX13_pack 74 = .ok (.ireturn, 1) := by decide +kernel
set_option maxRecDepth 20000 in
theorem ggX13_test_X13_isTicket : GoodIn wsX13_test wsX13_isTicket := goodIn_r _ [8, 2, 9, 10, 11, 12, 13, 14, 15, 16, 7, 17, 139, 140, 141, 142, 143, 144, 145, 146, 147, 148, 149, 150, 151, 166, 167, 168] (by decide +kernel) (by decide +kernel)
set_option maxRecDepth 20000 in
theorem gX13_test_X13_isTicket : GoodIn wsX13_test (wsV RX13 221 RX13 yX13_isTicket wsX13_isTicket) := goodIn_app (goodIn_of _ (by decide +kernel)) ggX13_test_X13_isTicket
set_option maxRecDepth 20000 in
theorem ggX13_test_X13_fails : GoodIn wsX13_test wsX13_fails := goodIn_r _ [21, 1, 139, 140, 141, 142, 143, 144, 145, 146, 147, 148, 149, 150, 151] (by decide +kernel) (by decide +kernel)
set_option maxRecDepth 20000 in
theorem gX13_test_X13_fails : GoodIn wsX13_test (wsV RX13 75 RX13 yX13_fails wsX13_fails) := goodIn_app (goodIn_of _ (by decide +kernel)) ggX13_test_X13_fails
theorem dX13_test_0 : decode cX13_test 0 = .ok (.aload_n 0, 1) := by decide +kernel
theorem dX13_test_1 : decode cX13_test 1 = .ok (.iconst 0, 1) := by decide +kernel
theorem dX13_test_2 : decode cX13_test 2 = .ok (.putfield 48, 3) := by decide +kernel
theorem dX13_test_5 : decode cX13_test 5 = .ok (.aload_n 0, 1) := by decide +kernel
theorem dX13_test_6 : decode cX13_test 6 = .ok (.iload_n 1, 1) := by decide +kernel
theorem dX13_test_7 : decode cX13_test 7 = .ok (.invokevirtual 221, 3) := by decide +kernel
theorem dX13_test_10 : decode cX13_test 10 = .ok (.ifCond .ne 9, 3) := by decide +kernel
theorem dX13_test_13 : decode cX13_test 13 = .ok (.aload_n 0, 1) := by decide +kernel
theorem dX13_test_14 : decode cX13_test 14 = .ok (.iconst 1, 1) := by decide +kernel
theorem dX13_test_15 : decode cX13_test 15 = .ok (.invokevirtual 75, 3) := by decide +kernel
theorem dX13_test_18 : decode cX13_test 18 = .ok (.ireturn, 1) := by decide +kernel
set_option maxRecDepth 20000 in
theorem ggX13_many_Jx4a65c_iterator_32c93 : GoodIn wsX13_many wsJx4a65c_iterator_32c93 := goodIn_r _ [7, 8, 9, 10, 11, 12, 13, 14, 15, 16, 17, 18, 19, 20, 21, 77, 78, 79, 80, 81, 82, 83] (by decide +kernel) (by decide +kernel)
set_option maxRecDepth 20000 in
theorem gX13_many_Jx4a65c_iterator_32c93_f111Jx4a65c : GoodIn wsX13_many (va_wsF RX13 111 RJx4a65c ⟨"java/util/List", "iterator", "()Ljava/util/Iterator;"⟩ yJx4a65c_iterator_32c93 wsJx4a65c_iterator_32c93) := goodIn_app (goodIn_of _ (by decide +kernel)) ggX13_many_Jx4a65c_iterator_32c93
set_option maxRecDepth 20000 in
theorem ggX13_many_Jx35411_hasNext_aae02 : GoodIn wsX13_many wsJx35411_hasNext_aae02 := goodIn_r _ [25, 26, 14, 77, 78, 79, 80, 81, 82, 83] (by decide +kernel) (by decide +kernel)
set_option maxRecDepth 20000 in
theorem gX13_many_Jx35411_hasNext_aae02_f115Jx35411 : GoodIn wsX13_many (va_wsF RX13 115 RJx35411 ⟨"java/util/Iterator", "hasNext", "()Z"⟩ yJx35411_hasNext_aae02 wsJx35411_hasNext_aae02) := goodIn_app (goodIn_of _ (by decide +kernel)) ggX13_many_Jx35411_hasNext_aae02
theorem dX13_many_0 : decode cX13_many 0 = .ok (.iconst 0, 1) := by decide +kernel
theorem dX13_many_1 : decode cX13_many 1 = .ok (.istore 4, 2) := by decide +kernel
theorem dX13_many_3 : decode cX13_many 3 = .ok (.aload_n 0, 1) := by decide +kernel
theorem dX13_many_4 : decode cX13_many 4 = .ok (.getfield 26, 3) := by decide +kernel
theorem dX13_many_7 : decode cX13_many 7 = .ok (.invokeinterface 111 1, 5) := by decide +kernel
theorem dX13_many_12 : decode cX13_many 12 = .ok (.astore 5, 2) := by decide +kernel
theorem dX13_many_14 : decode cX13_many 14 = .ok (.aload 5, 2) := by decide +kernel
theorem dX13_many_16 : decode cX13_many 16 = .ok (.invokeinterface 115 1, 5) := by decide +kernel
theorem dX13_many_21 : decode cX13_many 21 = .ok (.ifCond .eq 52, 3) := by decide +kernel
theorem dX13_many_73 : decode cX13_many 73 = .ok (.iload 4, 2) := by decide +kernel
theorem dX13_many_75 : decode cX13_many 75 = .ok (.ireturn, 1) := by decide +kernel
set_option maxRecDepth 20000 in
theorem ggX13_comeBack_X13_isTicket : GoodIn wsX13_comeBack wsX13_isTicket := goodIn_r _ [8, 2, 9, 10, 11, 12, 13, 14, 15, 16, 7, 17, 89, 90, 91, 92, 93, 94, 95, 96, 97, 98, 99, 100, 101, 116, 117, 118] (by decide +kernel) (by decide +kernel)
set_option maxRecDepth 20000 in
theorem gX13_comeBack_X13_isTicket : GoodIn wsX13_comeBack (wsV RX13 221 RX13 yX13_isTicket wsX13_isTicket) := goodIn_app (goodIn_of _ (by decide +kernel)) ggX13_comeBack_X13_isTicket
set_option maxRecDepth 20000 in
theorem ggX13_comeBack_X13_fails : GoodIn wsX13_comeBack wsX13_fails := goodIn_r _ [21, 1, 89, 90, 91, 92, 93, 94, 95, 96, 97, 98, 99, 100, 101] (by decide +kernel) (by decide +kernel)
set_option maxRecDepth 20000 in
theorem gX13_comeBack_X13_fails : GoodIn wsX13_comeBack (wsV RX13 75 RX13 yX13_fails wsX13_fails) := goodIn_app (goodIn_of _ (by decide +kernel)) ggX13_comeBack_X13_fails
theorem dX13_comeBack_0 : decode cX13_comeBack 0 = .ok (.aload_n 0, 1) := by decide +kernel
theorem dX13_comeBack_1 : decode cX13_comeBack 1 = .ok (.iconst 0, 1) := by decide +kernel
theorem dX13_comeBack_2 : decode cX13_comeBack 2 = .ok (.putfield 48, 3) := by decide +kernel
theorem dX13_comeBack_5 : decode cX13_comeBack 5 = .ok (.aload_n 0, 1) := by decide +kernel
theorem dX13_comeBack_6 : decode cX13_comeBack 6 = .ok (.iload_n 1, 1) := by decide +kernel
theorem dX13_comeBack_7 : decode cX13_comeBack 7 = .ok (.invokevirtual 221, 3) := by decide +kernel
theorem dX13_comeBack_10 : decode cX13_comeBack 10 = .ok (.ifCond .ne 9, 3) := by decide +kernel
theorem dX13_comeBack_13 : decode cX13_comeBack 13 = .ok (.aload_n 0, 1) := by decide +kernel
theorem dX13_comeBack_14 : decode cX13_comeBack 14 = .ok (.iconst 1, 1) := by decide +kernel
theorem dX13_comeBack_15 : decode cX13_comeBack 15 = .ok (.invokevirtual 75, 3) := by decide +kernel
theorem dX13_comeBack_18 : decode cX13_comeBack 18 = .ok (.ireturn, 1) := by decide +kernel
set_option maxRecDepth 20000 in
theorem ggX13_why_X13_many : GoodIn wsX13_why wsX13_many := goodIn_ca (goodIn_r _ [5, 6, 7, 8, 9, 10, 11, 12, 13, 14, 15, 16, 17, 18, 19, 20, 21, 22, 23, 24, 25, 26, 27, 28, 29, 30, 31, 32, 33, 34, 35, 36, 37, 38, 39, 40, 41, 42, 43, 44, 45, 46, 47, 48, 49, 50, 51, 52, 53, 54, 55, 56, 57, 58, 59, 60, 61, 62, 63, 64, 65, 66, 67, 68, 69, 70, 71, 72, 73, 74, 75, 76, 77, 78, 79, 80, 81, 82, 83, 84, 85, 86, 87, 88] (by decide +kernel) (by decide +kernel)) (goodIn_sub (fun _ h => List.mem_cons_of_mem _ (List.mem_append_right _ h)) (by decide +kernel))
set_option maxRecDepth 20000 in
theorem gX13_why_X13_many : GoodIn wsX13_why (wsV RX13 312 RX13 yX13_many wsX13_many) := goodIn_app (goodIn_of _ (by decide +kernel)) ggX13_why_X13_many
theorem dX13_why_0 : decode cX13_why 0 = .ok (.aload_n 0, 1) := by decide +kernel
theorem dX13_why_1 : decode cX13_why 1 = .ok (.bipush 114, 2) := by decide +kernel
theorem dX13_why_3 : decode cX13_why 3 = .ok (.iconst (-1), 1) := by decide +kernel
theorem dX13_why_4 : decode cX13_why 4 = .ok (.iconst 0, 1) := by decide +kernel
theorem dX13_why_5 : decode cX13_why 5 = .ok (.invokevirtual 312, 3) := by decide +kernel
theorem dX13_why_8 : decode cX13_why 8 = .ok (.istore_n 1, 1) := by decide +kernel
theorem dX13_why_9 : decode cX13_why 9 = .ok (.iconst (-1), 1) := by decide +kernel
theorem dX13_why_10 : decode cX13_why 10 = .ok (.istore_n 2, 1) := by decide +kernel
theorem dX13_why_11 : decode cX13_why 11 = .ok (.iconst 0, 1) := by decide +kernel
theorem dX13_why_12 : decode cX13_why 12 = .ok (.istore_n 3, 1) := by decide +kernel
theorem dX13_why_13 : decode cX13_why 13 = .ok (.iload_n 3, 1) := by decide +kernel
theorem dX13_why_14 : decode cX13_why 14 = .ok (.sipush 500, 3) := by decide +kernel
theorem dX13_why_17 : decode cX13_why 17 = .ok (.if_icmp .ge 89, 3) := by decide +kernel
theorem dX13_why_20 : decode cX13_why 20 = .ok (.iload_n 1, 1) := by decide +kernel
theorem dX13_why_21 : decode cX13_why 21 = .ok (.ifCond .le 85, 3) := by decide +kernel
theorem dX13_why_106 : decode cX13_why 106 = .ok (.iload_n 2, 1) := by decide +kernel
theorem dX13_why_107 : decode cX13_why 107 = .ok (.ireturn, 1) := by decide +kernel
set_option maxRecDepth 20000 in
theorem ggX13_cause_X13_why : GoodIn wsX13_cause wsX13_why := goodIn_ca (goodIn_r _ [6, 7, 8, 9, 5, 10, 11, 12, 13, 14, 15, 16, 17, 18, 19, 20, 21, 22, 23, 24, 25, 26, 27, 28, 29, 30, 31, 32, 33, 34, 35, 36, 37, 38, 39, 40, 41, 42, 43, 44, 45, 46, 47, 48, 49, 50, 51, 52, 53, 54, 55, 56, 57, 58, 59, 101, 102, 103, 104, 105, 106, 107, 108, 109, 110, 111, 112, 113, 114, 115, 116, 117, 118, 119, 120, 121, 122, 123, 124, 125, 126, 127, 128, 129, 130, 131, 132, 133, 134] (by decide +kernel) (by decide +kernel)) (goodIn_sub (fun _ h => List.mem_cons_of_mem _ (List.mem_append_right _ h)) (by decide +kernel))
set_option maxRecDepth 20000 in
theorem gX13_cause_X13_why : GoodIn wsX13_cause (wsV RX13 316 RX13 yX13_why wsX13_why) := goodIn_app (goodIn_of _ (by decide +kernel)) ggX13_cause_X13_why
theorem dX13_cause_0 : decode cX13_cause 0 = .ok (.aload_n 0, 1) := by decide +kernel
theorem dX13_cause_1 : decode cX13_cause 1 = .ok (.invokevirtual 316, 3) := by decide +kernel
theorem dX13_cause_4 : decode cX13_cause 4 = .ok (.istore_n 1, 1) := by decide +kernel
theorem dX13_cause_5 : decode cX13_cause 5 = .ok (.aload_n 0, 1) := by decide +kernel
theorem dX13_cause_6 : decode cX13_cause 6 = .ok (.iload_n 1, 1) := by decide +kernel
theorem dX13_cause_7 : decode cX13_cause 7 = .ok (.iconst (-1), 1) := by decide +kernel
theorem dX13_cause_8 : decode cX13_cause 8 = .ok (.if_icmp .ne 7, 3) := by decide +kernel
theorem dX13_cause_11 : decode cX13_cause 11 = .ok (.iconst 1, 1) := by decide +kernel
theorem dX13_cause_12 : decode cX13_cause 12 = .ok (.goto 4, 3) := by decide +kernel
theorem dX13_cause_16 : decode cX13_cause 16 = .ok (.putfield 48, 3) := by decide +kernel
theorem dX13_cause_19 : decode cX13_cause 19 = .ok (.aload_n 0, 1) := by decide +kernel
theorem dX13_cause_20 : decode cX13_cause 20 = .ok (.getfield 48, 3) := by decide +kernel
theorem dX13_cause_23 : decode cX13_cause 23 = .ok (.ifCond .le 7, 3) := by decide +kernel
theorem dX13_cause_26 : decode cX13_cause 26 = .ok (.iconst 0, 1) := by decide +kernel
theorem dX13_cause_27 : decode cX13_cause 27 = .ok (.goto 13, 3) := by decide +kernel
theorem dX13_cause_40 : decode cX13_cause 40 = .ok (.ireturn, 1) := by decide +kernel
set_option maxRecDepth 20000 in
theorem ggX13_causeOf_X13_why : GoodIn wsX13_causeOf wsX13_why := goodIn_ca (goodIn_r _ [6, 7, 8, 9, 5, 10, 11, 12, 13, 14, 15, 16, 17, 18, 19, 20, 21, 22, 23, 24, 25, 26, 27, 28, 29, 30, 31, 32, 33, 34, 35, 36, 37, 38, 39, 40, 41, 42, 43, 44, 45, 46, 47, 48, 49, 50, 51, 52, 53, 54, 55, 56, 57, 58, 59, 60, 61, 62, 63, 64, 65, 66, 67, 68, 69, 70, 71, 72, 73, 74, 75, 76, 77, 78, 79, 80, 81, 82, 83, 84, 85, 86, 87, 88, 89, 90, 91, 92, 93] (by decide +kernel) (by decide +kernel)) (goodIn_sub (fun _ h => List.mem_cons_of_mem _ (List.mem_append_right _ h)) (by decide +kernel))
set_option maxRecDepth 20000 in
theorem gX13_causeOf_X13_why : GoodIn wsX13_causeOf (wsV RX13 316 RX13 yX13_why wsX13_why) := goodIn_app (goodIn_of _ (by decide +kernel)) ggX13_causeOf_X13_why
theorem dX13_causeOf_0 : decode cX13_causeOf 0 = .ok (.aload_n 0, 1) := by decide +kernel
theorem dX13_causeOf_1 : decode cX13_causeOf 1 = .ok (.invokevirtual 316, 3) := by decide +kernel
theorem dX13_causeOf_4 : decode cX13_causeOf 4 = .ok (.istore_n 1, 1) := by decide +kernel
theorem dX13_causeOf_5 : decode cX13_causeOf 5 = .ok (.aload_n 0, 1) := by decide +kernel
theorem dX13_causeOf_6 : decode cX13_causeOf 6 = .ok (.iload_n 1, 1) := by decide +kernel
theorem dX13_causeOf_7 : decode cX13_causeOf 7 = .ok (.iconst (-1), 1) := by decide +kernel
theorem dX13_causeOf_8 : decode cX13_causeOf 8 = .ok (.if_icmp .ne 7, 3) := by decide +kernel
theorem dX13_causeOf_11 : decode cX13_causeOf 11 = .ok (.iconst 1, 1) := by decide +kernel
theorem dX13_causeOf_12 : decode cX13_causeOf 12 = .ok (.goto 4, 3) := by decide +kernel
theorem dX13_causeOf_16 : decode cX13_causeOf 16 = .ok (.putfield 48, 3) := by decide +kernel
theorem dX13_causeOf_19 : decode cX13_causeOf 19 = .ok (.aload_n 0, 1) := by decide +kernel
theorem dX13_causeOf_20 : decode cX13_causeOf 20 = .ok (.getfield 48, 3) := by decide +kernel
theorem dX13_causeOf_23 : decode cX13_causeOf 23 = .ok (.ifCond .le 7, 3) := by decide +kernel
theorem dX13_causeOf_26 : decode cX13_causeOf 26 = .ok (.iconst 0, 1) := by decide +kernel
theorem dX13_causeOf_27 : decode cX13_causeOf 27 = .ok (.goto 7, 3) := by decide +kernel
theorem dX13_causeOf_34 : decode cX13_causeOf 34 = .ok (.ireturn, 1) := by decide +kernel
set_option maxRecDepth 20000 in
theorem ggX13_hideOf_X13_isPiece : GoodIn wsX13_hideOf wsX13_isPiece := goodIn_r _ [8, 2, 3, 9, 10, 11, 7, 12, 13, 14, 15, 16, 17, 18, 19, 20, 21, 22, 23, 24, 25, 26, 27, 28, 29, 30, 31, 32, 33, 34, 35, 36, 37, 38, 43, 44, 45, 46, 47, 48, 49, 50, 51, 52, 53, 54, 55, 56, 57, 58, 59, 60, 61, 62, 63, 64, 65, 66, 67, 68, 69, 70, 71, 72, 73, 74, 75, 76, 77, 78, 79] (by decide +kernel) (by decide +kernel)
set_option maxRecDepth 20000 in
theorem gX13_hideOf_X13_isPiece : GoodIn wsX13_hideOf (wsV RX13 224 RX13 yX13_isPiece wsX13_isPiece) := goodIn_app (goodIn_of _ (by decide +kernel)) ggX13_hideOf_X13_isPiece
set_option maxRecDepth 20000 in
theorem ggX13_hideOf_X13_fails : GoodIn wsX13_hideOf wsX13_fails := goodIn_r _ [42, 1, 43, 44, 45, 46, 47, 48, 49, 50, 51, 52, 53, 54, 55] (by decide +kernel) (by decide +kernel)
set_option maxRecDepth 20000 in
theorem gX13_hideOf_X13_fails : GoodIn wsX13_hideOf (wsV RX13 75 RX13 yX13_fails wsX13_fails) := goodIn_app (goodIn_of _ (by decide +kernel)) ggX13_hideOf_X13_fails
theorem dX13_hideOf_0 : decode cX13_hideOf 0 = .ok (.aload_n 0, 1) := by decide +kernel
theorem dX13_hideOf_1 : decode cX13_hideOf 1 = .ok (.iconst 0, 1) := by decide +kernel
theorem dX13_hideOf_2 : decode cX13_hideOf 2 = .ok (.putfield 48, 3) := by decide +kernel
theorem dX13_hideOf_5 : decode cX13_hideOf 5 = .ok (.aload_n 0, 1) := by decide +kernel
theorem dX13_hideOf_6 : decode cX13_hideOf 6 = .ok (.iload_n 1, 1) := by decide +kernel
theorem dX13_hideOf_7 : decode cX13_hideOf 7 = .ok (.iload_n 3, 1) := by decide +kernel
theorem dX13_hideOf_8 : decode cX13_hideOf 8 = .ok (.invokevirtual 224, 3) := by decide +kernel
theorem dX13_hideOf_11 : decode cX13_hideOf 11 = .ok (.ifCond .eq 12, 3) := by decide +kernel
theorem dX13_hideOf_23 : decode cX13_hideOf 23 = .ok (.aload_n 0, 1) := by decide +kernel
theorem dX13_hideOf_24 : decode cX13_hideOf 24 = .ok (.iconst 1, 1) := by decide +kernel
theorem dX13_hideOf_25 : decode cX13_hideOf 25 = .ok (.invokevirtual 75, 3) := by decide +kernel
theorem dX13_hideOf_28 : decode cX13_hideOf 28 = .ok (.ireturn, 1) := by decide +kernel
set_option maxRecDepth 20000 in
theorem ggX13_sewerOf_X13_isSeam : GoodIn wsX13_sewerOf wsX13_isSeam := goodIn_r _ [8, 2, 3, 9, 10, 11, 7, 12, 13, 14, 15, 16, 17, 18, 19, 20, 21, 22, 23, 24, 25, 26, 27, 28, 29, 30, 31, 32, 33, 34, 35, 36, 37, 38, 43, 44, 45, 46, 47, 48, 49, 50, 51, 52, 53, 54, 55, 56, 57, 58, 59, 60, 61, 62, 63, 64, 65, 66, 67, 68, 69, 70, 71, 72, 73, 74, 75, 76, 77, 78, 79] (by decide +kernel) (by decide +kernel)
set_option maxRecDepth 20000 in
theorem gX13_sewerOf_X13_isSeam : GoodIn wsX13_sewerOf (wsV RX13 263 RX13 yX13_isSeam wsX13_isSeam) := goodIn_app (goodIn_of _ (by decide +kernel)) ggX13_sewerOf_X13_isSeam
set_option maxRecDepth 20000 in
theorem ggX13_sewerOf_X13_fails : GoodIn wsX13_sewerOf wsX13_fails := goodIn_r _ [42, 1, 43, 44, 45, 46, 47, 48, 49, 50, 51, 52, 53, 54, 55] (by decide +kernel) (by decide +kernel)
set_option maxRecDepth 20000 in
theorem gX13_sewerOf_X13_fails : GoodIn wsX13_sewerOf (wsV RX13 75 RX13 yX13_fails wsX13_fails) := goodIn_app (goodIn_of _ (by decide +kernel)) ggX13_sewerOf_X13_fails
theorem dX13_sewerOf_0 : decode cX13_sewerOf 0 = .ok (.aload_n 0, 1) := by decide +kernel
theorem dX13_sewerOf_1 : decode cX13_sewerOf 1 = .ok (.iconst 0, 1) := by decide +kernel
theorem dX13_sewerOf_2 : decode cX13_sewerOf 2 = .ok (.putfield 48, 3) := by decide +kernel
theorem dX13_sewerOf_5 : decode cX13_sewerOf 5 = .ok (.aload_n 0, 1) := by decide +kernel
theorem dX13_sewerOf_6 : decode cX13_sewerOf 6 = .ok (.iload_n 1, 1) := by decide +kernel
theorem dX13_sewerOf_7 : decode cX13_sewerOf 7 = .ok (.iload_n 3, 1) := by decide +kernel
theorem dX13_sewerOf_8 : decode cX13_sewerOf 8 = .ok (.invokevirtual 263, 3) := by decide +kernel
theorem dX13_sewerOf_11 : decode cX13_sewerOf 11 = .ok (.ifCond .eq 12, 3) := by decide +kernel
theorem dX13_sewerOf_23 : decode cX13_sewerOf 23 = .ok (.aload_n 0, 1) := by decide +kernel
theorem dX13_sewerOf_24 : decode cX13_sewerOf 24 = .ok (.iconst 1, 1) := by decide +kernel
theorem dX13_sewerOf_25 : decode cX13_sewerOf 25 = .ok (.invokevirtual 75, 3) := by decide +kernel
theorem dX13_sewerOf_28 : decode cX13_sewerOf 28 = .ok (.ireturn, 1) := by decide +kernel
set_option maxRecDepth 20000 in
theorem ggX13_checksum_Jx4a65c_iterator_32c93 : GoodIn wsX13_checksum wsJx4a65c_iterator_32c93 := goodIn_r _ [11, 12, 13, 14, 15, 16, 17, 18, 19, 20, 21, 22, 23, 24, 25, 82, 83, 84, 85, 86, 87, 88] (by decide +kernel) (by decide +kernel)
set_option maxRecDepth 20000 in
theorem gX13_checksum_Jx4a65c_iterator_32c93_f111Jx4a65c : GoodIn wsX13_checksum (va_wsF RX13 111 RJx4a65c ⟨"java/util/List", "iterator", "()Ljava/util/Iterator;"⟩ yJx4a65c_iterator_32c93 wsJx4a65c_iterator_32c93) := goodIn_app (goodIn_of _ (by decide +kernel)) ggX13_checksum_Jx4a65c_iterator_32c93
set_option maxRecDepth 20000 in
theorem ggX13_checksum_Jx35411_hasNext_aae02 : GoodIn wsX13_checksum wsJx35411_hasNext_aae02 := goodIn_r _ [29, 30, 18, 82, 83, 84, 85, 86, 87, 88] (by decide +kernel) (by decide +kernel)
set_option maxRecDepth 20000 in
theorem gX13_checksum_Jx35411_hasNext_aae02_f115Jx35411 : GoodIn wsX13_checksum (va_wsF RX13 115 RJx35411 ⟨"java/util/Iterator", "hasNext", "()Z"⟩ yJx35411_hasNext_aae02 wsJx35411_hasNext_aae02) := goodIn_app (goodIn_of _ (by decide +kernel)) ggX13_checksum_Jx35411_hasNext_aae02
theorem dX13_checksum_0 : decode cX13_checksum 0 = .ok (.aload_n 0, 1) := by decide +kernel
theorem dX13_checksum_1 : decode cX13_checksum 1 = .ok (.iconst 0, 1) := by decide +kernel
theorem dX13_checksum_2 : decode cX13_checksum 2 = .ok (.putfield 48, 3) := by decide +kernel
theorem dX13_checksum_5 : decode cX13_checksum 5 = .ok (.lconst 0, 1) := by decide +kernel
theorem dX13_checksum_6 : decode cX13_checksum 6 = .ok (.lstore_n 1, 1) := by decide +kernel
theorem dX13_checksum_7 : decode cX13_checksum 7 = .ok (.aload_n 0, 1) := by decide +kernel
theorem dX13_checksum_8 : decode cX13_checksum 8 = .ok (.getfield 26, 3) := by decide +kernel
theorem dX13_checksum_11 : decode cX13_checksum 11 = .ok (.invokeinterface 111 1, 5) := by decide +kernel
theorem dX13_checksum_16 : decode cX13_checksum 16 = .ok (.astore_n 3, 1) := by decide +kernel
theorem dX13_checksum_17 : decode cX13_checksum 17 = .ok (.aload_n 3, 1) := by decide +kernel
theorem dX13_checksum_18 : decode cX13_checksum 18 = .ok (.invokeinterface 115 1, 5) := by decide +kernel
theorem dX13_checksum_23 : decode cX13_checksum 23 = .ok (.ifCond .eq 51, 3) := by decide +kernel
theorem dX13_checksum_74 : decode cX13_checksum 74 = .ok (.lload_n 1, 1) := by decide +kernel
theorem dX13_checksum_75 : decode cX13_checksum 75 = .ok (.lreturn, 1) := by decide +kernel
set_option maxRecDepth 20000 in
theorem ggX13_packedShare_Jx4a65c_isEmpty_aae02 : GoodIn wsX13_packedShare wsJx4a65c_isEmpty_aae02 := goodIn_r _ [7, 8, 78, 79, 80] (by decide +kernel) (by decide +kernel)
set_option maxRecDepth 20000 in
theorem gX13_packedShare_Jx4a65c_isEmpty_aae02_f171Jx4a65c : GoodIn wsX13_packedShare (va_wsF RX13 171 RJx4a65c ⟨"java/util/List", "isEmpty", "()Z"⟩ yJx4a65c_isEmpty_aae02 wsJx4a65c_isEmpty_aae02) := goodIn_app (goodIn_of _ (by decide +kernel)) ggX13_packedShare_Jx4a65c_isEmpty_aae02
theorem dX13_packedShare_0 : decode cX13_packedShare 0 = .ok (.aload_n 0, 1) := by decide +kernel
theorem dX13_packedShare_1 : decode cX13_packedShare 1 = .ok (.aload_n 0, 1) := by decide +kernel
theorem dX13_packedShare_2 : decode cX13_packedShare 2 = .ok (.getfield 26, 3) := by decide +kernel
theorem dX13_packedShare_5 : decode cX13_packedShare 5 = .ok (.invokeinterface 171 1, 5) := by decide +kernel
theorem dX13_packedShare_10 : decode cX13_packedShare 10 = .ok (.ifCond .eq 7, 3) := by decide +kernel
theorem dX13_packedShare_13 : decode cX13_packedShare 13 = .ok (.iconst 1, 1) := by decide +kernel
theorem dX13_packedShare_14 : decode cX13_packedShare 14 = .ok (.goto 4, 3) := by decide +kernel
theorem dX13_packedShare_18 : decode cX13_packedShare 18 = .ok (.putfield 48, 3) := by decide +kernel
theorem dX13_packedShare_21 : decode cX13_packedShare 21 = .ok (.aload_n 0, 1) := by decide +kernel
theorem dX13_packedShare_22 : decode cX13_packedShare 22 = .ok (.getfield 48, 3) := by decide +kernel
theorem dX13_packedShare_25 : decode cX13_packedShare 25 = .ok (.ifCond .le 7, 3) := by decide +kernel
theorem dX13_packedShare_28 : decode cX13_packedShare 28 = .ok (.fconst 0, 1) := by decide +kernel
theorem dX13_packedShare_29 : decode cX13_packedShare 29 = .ok (.goto 32, 3) := by decide +kernel
theorem dX13_packedShare_61 : decode cX13_packedShare 61 = .ok (.freturn, 1) := by decide +kernel
set_option maxRecDepth 20000 in
theorem ggX13_meanWaste_Jx4a65c_iterator_32c93 : GoodIn wsX13_meanWaste wsJx4a65c_iterator_32c93 := goodIn_r _ [8, 9, 10, 11, 12, 13, 14, 15, 16, 17, 18, 19, 20, 21, 22, 70, 71, 72, 73, 74, 75, 76] (by decide +kernel) (by decide +kernel)
set_option maxRecDepth 20000 in
theorem gX13_meanWaste_Jx4a65c_iterator_32c93_f111Jx4a65c : GoodIn wsX13_meanWaste (va_wsF RX13 111 RJx4a65c ⟨"java/util/List", "iterator", "()Ljava/util/Iterator;"⟩ yJx4a65c_iterator_32c93 wsJx4a65c_iterator_32c93) := goodIn_app (goodIn_of _ (by decide +kernel)) ggX13_meanWaste_Jx4a65c_iterator_32c93
set_option maxRecDepth 20000 in
theorem ggX13_meanWaste_Jx35411_hasNext_aae02 : GoodIn wsX13_meanWaste wsJx35411_hasNext_aae02 := goodIn_r _ [26, 27, 15, 70, 71, 72, 73, 74, 75, 76] (by decide +kernel) (by decide +kernel)
set_option maxRecDepth 20000 in
theorem gX13_meanWaste_Jx35411_hasNext_aae02_f115Jx35411 : GoodIn wsX13_meanWaste (va_wsF RX13 115 RJx35411 ⟨"java/util/Iterator", "hasNext", "()Z"⟩ yJx35411_hasNext_aae02 wsJx35411_hasNext_aae02) := goodIn_app (goodIn_of _ (by decide +kernel)) ggX13_meanWaste_Jx35411_hasNext_aae02
set_option maxRecDepth 20000 in
theorem ggX13_meanWaste_Jx4a65c_isEmpty_aae02 : GoodIn wsX13_meanWaste wsJx4a65c_isEmpty_aae02 := goodIn_r _ [51, 52, 74, 75, 76] (by decide +kernel) (by decide +kernel)
set_option maxRecDepth 20000 in
theorem gX13_meanWaste_Jx4a65c_isEmpty_aae02_f171Jx4a65c : GoodIn wsX13_meanWaste (va_wsF RX13 171 RJx4a65c ⟨"java/util/List", "isEmpty", "()Z"⟩ yJx4a65c_isEmpty_aae02 wsJx4a65c_isEmpty_aae02) := goodIn_app (goodIn_of _ (by decide +kernel)) ggX13_meanWaste_Jx4a65c_isEmpty_aae02
theorem dX13_meanWaste_0 : decode cX13_meanWaste 0 = .ok (.iconst 0, 1) := by decide +kernel
theorem dX13_meanWaste_1 : decode cX13_meanWaste 1 = .ok (.istore_n 1, 1) := by decide +kernel
theorem dX13_meanWaste_2 : decode cX13_meanWaste 2 = .ok (.aload_n 0, 1) := by decide +kernel
theorem dX13_meanWaste_3 : decode cX13_meanWaste 3 = .ok (.getfield 23, 3) := by decide +kernel
theorem dX13_meanWaste_6 : decode cX13_meanWaste 6 = .ok (.invokeinterface 111 1, 5) := by decide +kernel
theorem dX13_meanWaste_11 : decode cX13_meanWaste 11 = .ok (.astore_n 2, 1) := by decide +kernel
theorem dX13_meanWaste_12 : decode cX13_meanWaste 12 = .ok (.aload_n 2, 1) := by decide +kernel
theorem dX13_meanWaste_13 : decode cX13_meanWaste 13 = .ok (.invokeinterface 115 1, 5) := by decide +kernel
theorem dX13_meanWaste_18 : decode cX13_meanWaste 18 = .ok (.ifCond .eq 24, 3) := by decide +kernel
theorem dX13_meanWaste_42 : decode cX13_meanWaste 42 = .ok (.aload_n 0, 1) := by decide +kernel
theorem dX13_meanWaste_43 : decode cX13_meanWaste 43 = .ok (.aload_n 0, 1) := by decide +kernel
theorem dX13_meanWaste_44 : decode cX13_meanWaste 44 = .ok (.getfield 23, 3) := by decide +kernel
theorem dX13_meanWaste_47 : decode cX13_meanWaste 47 = .ok (.invokeinterface 171 1, 5) := by decide +kernel
theorem dX13_meanWaste_52 : decode cX13_meanWaste 52 = .ok (.ifCond .eq 7, 3) := by decide +kernel
theorem dX13_meanWaste_55 : decode cX13_meanWaste 55 = .ok (.iconst 1, 1) := by decide +kernel
theorem dX13_meanWaste_56 : decode cX13_meanWaste 56 = .ok (.goto 4, 3) := by decide +kernel
theorem dX13_meanWaste_60 : decode cX13_meanWaste 60 = .ok (.putfield 48, 3) := by decide +kernel
theorem dX13_meanWaste_63 : decode cX13_meanWaste 63 = .ok (.aload_n 0, 1) := by decide +kernel
theorem dX13_meanWaste_64 : decode cX13_meanWaste 64 = .ok (.getfield 48, 3) := by decide +kernel
theorem dX13_meanWaste_67 : decode cX13_meanWaste 67 = .ok (.ifCond .le 7, 3) := by decide +kernel
theorem dX13_meanWaste_70 : decode cX13_meanWaste 70 = .ok (.dconst 0, 1) := by decide +kernel
theorem dX13_meanWaste_71 : decode cX13_meanWaste 71 = .ok (.goto 16, 3) := by decide +kernel
theorem dX13_meanWaste_87 : decode cX13_meanWaste 87 = .ok (.dreturn, 1) := by decide +kernel
theorem dX13_isSound_0 : decode cX13_isSound 0 = .ok (.aload_n 0, 1) := by decide +kernel
theorem dX13_isSound_1 : decode cX13_isSound 1 = .ok (.iconst 0, 1) := by decide +kernel
theorem dX13_isSound_2 : decode cX13_isSound 2 = .ok (.putfield 48, 3) := by decide +kernel
theorem dX13_isSound_5 : decode cX13_isSound 5 = .ok (.iconst 1, 1) := by decide +kernel
theorem dX13_isSound_6 : decode cX13_isSound 6 = .ok (.ireturn, 1) := by decide +kernel
theorem in_rg {n hi : Int32} {N : Nat} (h : rg n 0 hi = true) (hN : hi.toInt + 1 ≤ N) : vp_in n N := by
  obtain ⟨h1, h2⟩ := rg_iff.mp h
  rw [Int32.le_iff_toInt_le] at h1 h2
  rw [vp_in_iff]
  have e : (0 : Int32).toInt = 0 := by decide
  omega
theorem in_rg4 {a b : Int32} (h1 : rg a 0 7 = true) (h2 : rg b 0 3 = true) : vp_in (4 * a + b) 32 := by
  obtain ⟨i, hi, rfl⟩ := vp_in_of (in_rg h1 (N := 8) (by decide)) (by decide)
  obtain ⟨j, hj, rfl⟩ := vp_in_of (in_rg h2 (N := 4) (by decide)) (by decide)
  rw [show (4 : Int32) = nI 4 from rfl, pk_mul, nI_add]
  exact vp_in_nI (by omega) (by decide)
-- ===== rows =====
set_option maxHeartbeats 4000000 in
set_option maxRecDepth 100000 in
/-- in(n, lo, hi) -/
theorem m_in (l : Launch) (D : va_G) (tC tE sz : Nat) (n lo hi : Int32) : Met l yX13_in wsX13_in ({ frames := 0, cells := 0, slots := 0, locals := 0 }) (Pg D tC tE sz [] [] [.int n, .int lo, .int hi]) (Qgi (S := Unit) D (fun u => []) (fun u => []) (fun r _ => (r = 1 ∧ rg n lo hi = true) ∨ (r = 0 ∧ rg n lo hi = false)) (va_A [] sz)) 0 0 (va_A [] sz) := by
  refine og_m (cc := cX13_in) (maxL := 3) (ret := (some .boolean)) (Qc := Qgi (S := Unit) D (fun u => []) (fun u => []) (fun r _ => (r = 1 ∧ rg n lo hi = true) ∨ (r = 0 ∧ rg n lo hi = false))) (by decide) rfl (Nat.le_of_ble_eq_true rfl) ?_
  intro p e s m below meth c A hx hb hr hml hts hown hlocks hin hP hD hK hG hA hS ls hl
  have hl : lv_has ls 3 [(0, .int n), (1, .int lo), (2, .int hi)] := hl
  refine lv_iload_n hx hb dX13_in_0 rfl (lv_at hl 0 rfl) ?_
  refine lv_iload_n hx hb dX13_in_1 rfl (lv_at hl 1 rfl) ?_
  refine lv_icmp_lt (tgt := 14) hx hb dX13_in_2 (by decide) (fun c_1 => ?_) (fun c_1 => ?_)
  · refine lv_iconst (v := 0) hx hb dX13_in_14 (by decide) ?_
    have hP9 := hP.sub (ws' := []) [] rfl
    have hD9 := hD.sub (ws' := []) [] (by decide) rfl
    have hK9 := hK.sub (tys' := []) [] rfl
    exact end_z hx hb hr hlocks (by decide) hP9 hD9 hK9 hS () rfl rfl (Or.inr ⟨rfl, rg_a c_1⟩) (Nat.le_of_ble_eq_true rfl) (Nat.le_of_ble_eq_true rfl) dX13_in_15
  · refine lv_iload_n hx hb dX13_in_5 rfl (lv_at hl 0 rfl) ?_
    refine lv_iload_n hx hb dX13_in_6 rfl (lv_at hl 2 rfl) ?_
    refine lv_icmp_gt (tgt := 14) hx hb dX13_in_7 (by decide) (fun c_2 => ?_) (fun c_2 => ?_)
    · refine lv_iconst (v := 0) hx hb dX13_in_14 (by decide) ?_
      have hP9 := hP.sub (ws' := []) [] rfl
      have hD9 := hD.sub (ws' := []) [] (by decide) rfl
      have hK9 := hK.sub (tys' := []) [] rfl
      exact end_z hx hb hr hlocks (by decide) hP9 hD9 hK9 hS () rfl rfl (Or.inr ⟨rfl, rg_b2 c_2⟩) (Nat.le_of_ble_eq_true rfl) (Nat.le_of_ble_eq_true rfl) dX13_in_15
    · refine lv_iconst (v := 1) hx hb dX13_in_10 (by decide) ?_
      refine lv_goto (tgt := 15) hx hb dX13_in_11 (by decide) ?_
      have hP9 := hP.sub (ws' := []) [] rfl
      have hD9 := hD.sub (ws' := []) [] (by decide) rfl
      have hK9 := hK.sub (tys' := []) [] rfl
      exact end_z hx hb hr hlocks (by decide) hP9 hD9 hK9 hS () rfl rfl (Or.inl ⟨rfl, rg_t2 c_1 c_2⟩) (Nat.le_of_ble_eq_true rfl) (Nat.le_of_ble_eq_true rfl) dX13_in_15
set_option maxHeartbeats 4000000 in
set_option maxRecDepth 100000 in
/-- isSystem(c) -/
theorem m_isSystem (l : Launch) (D : va_G) (tC tE sz : Nat) (c0 : Int32) : Met l yX13_isSystem wsX13_isSystem ({ frames := 0, cells := 0, slots := 0, locals := 0 }) (Pg D tC tE sz [] [] [.int c0]) (Qgi (S := Unit) D (fun u => []) (fun u => []) (fun r _ => (r = 1 ∧ sysB c0 = true) ∨ (r = 0 ∧ sysB c0 = false)) (va_A [] sz)) 0 0 (va_A [] sz) := by
  refine og_m (cc := cX13_isSystem) (maxL := 1) (ret := (some .boolean)) (Qc := Qgi (S := Unit) D (fun u => []) (fun u => []) (fun r _ => (r = 1 ∧ sysB c0 = true) ∨ (r = 0 ∧ sysB c0 = false))) (by decide) rfl (Nat.le_of_ble_eq_true rfl) ?_
  intro p e s m below meth c A hx hb hr hml hts hown hlocks hin hP hD hK hG hA hS ls hl
  have hl : lv_has ls 1 [(0, .int c0)] := hl
  refine lv_iload_n hx hb dX13_isSystem_0 rfl (lv_at hl 0 rfl) ?_
  refine lv_bipush (v := 102) hx hb dX13_isSystem_1 (by decide) ?_
  refine lv_icmp_eq (tgt := 24) hx hb dX13_isSystem_3 (by decide) (fun c_1 => ?_) (fun c_1 => ?_)
  · refine lv_iconst (v := 1) hx hb dX13_isSystem_24 (by decide) ?_
    refine lv_goto (tgt := 29) hx hb dX13_isSystem_25 (by decide) ?_
    have hP9 := hP.sub (ws' := []) [] rfl
    have hD9 := hD.sub (ws' := []) [] (by decide) rfl
    have hK9 := hK.sub (tys' := []) [] rfl
    exact end_z hx hb hr hlocks (by decide) hP9 hD9 hK9 hS () rfl rfl (Or.inl ⟨rfl, by simp [sysB, c_1]⟩) (Nat.le_of_ble_eq_true rfl) (Nat.le_of_ble_eq_true rfl) dX13_isSystem_29
  · refine lv_iload_n hx hb dX13_isSystem_6 rfl (lv_at hl 0 rfl) ?_
    refine lv_bipush (v := 117) hx hb dX13_isSystem_7 (by decide) ?_
    refine lv_icmp_eq (tgt := 24) hx hb dX13_isSystem_9 (by decide) (fun c_2 => ?_) (fun c_2 => ?_)
    · refine lv_iconst (v := 1) hx hb dX13_isSystem_24 (by decide) ?_
      refine lv_goto (tgt := 29) hx hb dX13_isSystem_25 (by decide) ?_
      have hP9 := hP.sub (ws' := []) [] rfl
      have hD9 := hD.sub (ws' := []) [] (by decide) rfl
      have hK9 := hK.sub (tys' := []) [] rfl
      exact end_z hx hb hr hlocks (by decide) hP9 hD9 hK9 hS () rfl rfl (Or.inl ⟨rfl, by simp [sysB, c_1, c_2]⟩) (Nat.le_of_ble_eq_true rfl) (Nat.le_of_ble_eq_true rfl) dX13_isSystem_29
    · refine lv_iload_n hx hb dX13_isSystem_12 rfl (lv_at hl 0 rfl) ?_
      refine lv_bipush (v := 97) hx hb dX13_isSystem_13 (by decide) ?_
      refine lv_icmp_eq (tgt := 24) hx hb dX13_isSystem_15 (by decide) (fun c_3 => ?_) (fun c_3 => ?_)
      · refine lv_iconst (v := 1) hx hb dX13_isSystem_24 (by decide) ?_
        refine lv_goto (tgt := 29) hx hb dX13_isSystem_25 (by decide) ?_
        have hP9 := hP.sub (ws' := []) [] rfl
        have hD9 := hD.sub (ws' := []) [] (by decide) rfl
        have hK9 := hK.sub (tys' := []) [] rfl
        exact end_z hx hb hr hlocks (by decide) hP9 hD9 hK9 hS () rfl rfl (Or.inl ⟨rfl, by simp [sysB, c_1, c_2, c_3]⟩) (Nat.le_of_ble_eq_true rfl) (Nat.le_of_ble_eq_true rfl) dX13_isSystem_29
      · refine lv_iload_n hx hb dX13_isSystem_18 rfl (lv_at hl 0 rfl) ?_
        refine lv_bipush (v := 109) hx hb dX13_isSystem_19 (by decide) ?_
        refine lv_icmp_ne (tgt := 28) hx hb dX13_isSystem_21 (by decide) (fun c_4 => ?_) (fun c_4 => ?_)
        · refine lv_iconst (v := 0) hx hb dX13_isSystem_28 (by decide) ?_
          have hP9 := hP.sub (ws' := []) [] rfl
          have hD9 := hD.sub (ws' := []) [] (by decide) rfl
          have hK9 := hK.sub (tys' := []) [] rfl
          exact end_z hx hb hr hlocks (by decide) hP9 hD9 hK9 hS () rfl rfl (Or.inr ⟨rfl, by simp [sysB, c_1, c_2, c_3, c_4]⟩) (Nat.le_of_ble_eq_true rfl) (Nat.le_of_ble_eq_true rfl) dX13_isSystem_29
        · refine lv_iconst (v := 1) hx hb dX13_isSystem_24 (by decide) ?_
          refine lv_goto (tgt := 29) hx hb dX13_isSystem_25 (by decide) ?_
          have hP9 := hP.sub (ws' := []) [] rfl
          have hD9 := hD.sub (ws' := []) [] (by decide) rfl
          have hK9 := hK.sub (tys' := []) [] rfl
          exact end_z hx hb hr hlocks (by decide) hP9 hD9 hK9 hS () rfl rfl (Or.inl ⟨rfl, by simp [sysB, c_1, c_2, c_3, c_4]⟩) (Nat.le_of_ble_eq_true rfl) (Nat.le_of_ble_eq_true rfl) dX13_isSystem_29
set_option maxHeartbeats 4000000 in
set_option maxRecDepth 100000 in
/-- lowest(c) -/
theorem m_lowest (l : Launch) (D : va_G) (tC tE sz : Nat) (c0 : Int32) : Met l yX13_lowest wsX13_lowest ({ frames := 0, cells := 0, slots := 0, locals := 0 }) (Pg D tC tE sz [] [] [.int c0]) (Qgi (S := Unit) D (fun u => []) (fun u => []) (fun r _ => r = lowS c0) (va_A [] sz)) 0 0 (va_A [] sz) := by
  refine og_m (cc := cX13_lowest) (maxL := 1) (ret := (some .int)) (Qc := Qgi (S := Unit) D (fun u => []) (fun u => []) (fun r _ => r = lowS c0)) (by decide) rfl (Nat.le_of_ble_eq_true rfl) ?_
  intro p e s m below meth c A hx hb hr hml hts hown hlocks hin hP hD hK hG hA hS ls hl
  have hl : lv_has ls 1 [(0, .int c0)] := hl
  refine lv_iload_n hx hb dX13_lowest_0 rfl (lv_at hl 0 rfl) ?_
  refine lv_bipush (v := 102) hx hb dX13_lowest_1 (by decide) ?_
  refine lv_icmp_ne (tgt := 11) hx hb dX13_lowest_3 (by decide) (fun c_1 => ?_) (fun c_1 => ?_)
  · refine lv_iload_n hx hb dX13_lowest_11 rfl (lv_at hl 0 rfl) ?_
    refine lv_bipush (v := 117) hx hb dX13_lowest_12 (by decide) ?_
    refine lv_icmp_ne (tgt := 21) hx hb dX13_lowest_14 (by decide) (fun c_2 => ?_) (fun c_2 => ?_)
    · refine lv_iload_n hx hb dX13_lowest_21 rfl (lv_at hl 0 rfl) ?_
      refine lv_bipush (v := 97) hx hb dX13_lowest_22 (by decide) ?_
      refine lv_icmp_ne (tgt := 31) hx hb dX13_lowest_24 (by decide) (fun c_3 => ?_) (fun c_3 => ?_)
      · refine lv_sipush (v := 150) hx hb dX13_lowest_31 (by decide) ?_
        have hP9 := hP.sub (ws' := []) [] rfl
        have hD9 := hD.sub (ws' := []) [] (by decide) rfl
        have hK9 := hK.sub (tys' := []) [] rfl
        exact end_i hx hb hr hlocks hP9 hD9 hK9 hS () rfl rfl (by simp [lowS, c_1, c_2, c_3]) (Nat.le_of_ble_eq_true rfl) (Nat.le_of_ble_eq_true rfl) dX13_lowest_34
      · refine lv_iconst (v := 1) hx hb dX13_lowest_27 (by decide) ?_
        refine lv_goto (tgt := 34) hx hb dX13_lowest_28 (by decide) ?_
        have hP9 := hP.sub (ws' := []) [] rfl
        have hD9 := hD.sub (ws' := []) [] (by decide) rfl
        have hK9 := hK.sub (tys' := []) [] rfl
        exact end_i hx hb hr hlocks hP9 hD9 hK9 hS () rfl rfl (by simp [lowS, c_1, c_2, c_3]) (Nat.le_of_ble_eq_true rfl) (Nat.le_of_ble_eq_true rfl) dX13_lowest_34
    · refine lv_iconst (v := 0) hx hb dX13_lowest_17 (by decide) ?_
      refine lv_goto (tgt := 34) hx hb dX13_lowest_18 (by decide) ?_
      have hP9 := hP.sub (ws' := []) [] rfl
      have hD9 := hD.sub (ws' := []) [] (by decide) rfl
      have hK9 := hK.sub (tys' := []) [] rfl
      exact end_i hx hb hr hlocks hP9 hD9 hK9 hS () rfl rfl (by simp [lowS, c_1, c_2]) (Nat.le_of_ble_eq_true rfl) (Nat.le_of_ble_eq_true rfl) dX13_lowest_34
  · refine lv_bipush (v := 15) hx hb dX13_lowest_6 (by decide) ?_
    refine lv_goto (tgt := 34) hx hb dX13_lowest_8 (by decide) ?_
    have hP9 := hP.sub (ws' := []) [] rfl
    have hD9 := hD.sub (ws' := []) [] (by decide) rfl
    have hK9 := hK.sub (tys' := []) [] rfl
    exact end_i hx hb hr hlocks hP9 hD9 hK9 hS () rfl rfl (by simp [lowS, c_1]) (Nat.le_of_ble_eq_true rfl) (Nat.le_of_ble_eq_true rfl) dX13_lowest_34
set_option maxHeartbeats 4000000 in
set_option maxRecDepth 100000 in
/-- highest(c) -/
theorem m_highest (l : Launch) (D : va_G) (tC tE sz : Nat) (c0 : Int32) : Met l yX13_highest wsX13_highest ({ frames := 0, cells := 0, slots := 0, locals := 0 }) (Pg D tC tE sz [] [] [.int c0]) (Qgi (S := Unit) D (fun u => []) (fun u => []) (fun r _ => r = highS c0) (va_A [] sz)) 0 0 (va_A [] sz) := by
  refine og_m (cc := cX13_highest) (maxL := 1) (ret := (some .int)) (Qc := Qgi (S := Unit) D (fun u => []) (fun u => []) (fun r _ => r = highS c0)) (by decide) rfl (Nat.le_of_ble_eq_true rfl) ?_
  intro p e s m below meth c A hx hb hr hml hts hown hlocks hin hP hD hK hG hA hS ls hl
  have hl : lv_has ls 1 [(0, .int c0)] := hl
  refine lv_iload_n hx hb dX13_highest_0 rfl (lv_at hl 0 rfl) ?_
  refine lv_bipush (v := 102) hx hb dX13_highest_1 (by decide) ?_
  refine lv_icmp_ne (tgt := 11) hx hb dX13_highest_3 (by decide) (fun c_1 => ?_) (fun c_1 => ?_)
  · refine lv_iload_n hx hb dX13_highest_11 rfl (lv_at hl 0 rfl) ?_
    refine lv_bipush (v := 117) hx hb dX13_highest_12 (by decide) ?_
    refine lv_icmp_ne (tgt := 22) hx hb dX13_highest_14 (by decide) (fun c_2 => ?_) (fun c_2 => ?_)
    · refine lv_iload_n hx hb dX13_highest_22 rfl (lv_at hl 0 rfl) ?_
      refine lv_bipush (v := 97) hx hb dX13_highest_23 (by decide) ?_
      refine lv_icmp_ne (tgt := 33) hx hb dX13_highest_25 (by decide) (fun c_3 => ?_) (fun c_3 => ?_)
      · refine lv_sipush (v := 330) hx hb dX13_highest_33 (by decide) ?_
        have hP9 := hP.sub (ws' := []) [] rfl
        have hD9 := hD.sub (ws' := []) [] (by decide) rfl
        have hK9 := hK.sub (tys' := []) [] rfl
        exact end_i hx hb hr hlocks hP9 hD9 hK9 hS () rfl rfl (by simp [highS, c_1, c_2, c_3]) (Nat.le_of_ble_eq_true rfl) (Nat.le_of_ble_eq_true rfl) dX13_highest_36
      · refine lv_bipush (v := 16) hx hb dX13_highest_28 (by decide) ?_
        refine lv_goto (tgt := 36) hx hb dX13_highest_30 (by decide) ?_
        have hP9 := hP.sub (ws' := []) [] rfl
        have hD9 := hD.sub (ws' := []) [] (by decide) rfl
        have hK9 := hK.sub (tys' := []) [] rfl
        exact end_i hx hb hr hlocks hP9 hD9 hK9 hS () rfl rfl (by simp [highS, c_1, c_2, c_3]) (Nat.le_of_ble_eq_true rfl) (Nat.le_of_ble_eq_true rfl) dX13_highest_36
    · refine lv_bipush (v := 15) hx hb dX13_highest_17 (by decide) ?_
      refine lv_goto (tgt := 36) hx hb dX13_highest_19 (by decide) ?_
      have hP9 := hP.sub (ws' := []) [] rfl
      have hD9 := hD.sub (ws' := []) [] (by decide) rfl
      have hK9 := hK.sub (tys' := []) [] rfl
      exact end_i hx hb hr hlocks hP9 hD9 hK9 hS () rfl rfl (by simp [highS, c_1, c_2]) (Nat.le_of_ble_eq_true rfl) (Nat.le_of_ble_eq_true rfl) dX13_highest_36
  · refine lv_bipush (v := 50) hx hb dX13_highest_6 (by decide) ?_
    refine lv_goto (tgt := 36) hx hb dX13_highest_8 (by decide) ?_
    have hP9 := hP.sub (ws' := []) [] rfl
    have hD9 := hD.sub (ws' := []) [] (by decide) rfl
    have hK9 := hK.sub (tys' := []) [] rfl
    exact end_i hx hb hr hlocks hP9 hD9 hK9 hS () rfl rfl (by simp [highS, c_1]) (Nat.le_of_ble_eq_true rfl) (Nat.le_of_ble_eq_true rfl) dX13_highest_36
set_option maxHeartbeats 4000000 in
set_option maxRecDepth 100000 in
/-- long3(c, n) -/
theorem m_long3 (l : Launch) (D : va_G) (tC tE sz : Nat) (c0 n : Int32) : Met l yX13_long3 wsX13_long3 ({ frames := 0, cells := 0, slots := 0, locals := 0 }) (Pg D tC tE sz [] [] [.int c0, .int n]) (Qgi (S := Unit) D (fun u => []) (fun u => []) (fun r _ => r = lenS c0 n) (va_A [] sz)) 0 0 (va_A [] sz) := by
  refine og_m (cc := cX13_long3) (maxL := 2) (ret := (some .int)) (Qc := Qgi (S := Unit) D (fun u => []) (fun u => []) (fun r _ => r = lenS c0 n)) (by decide) rfl (Nat.le_of_ble_eq_true rfl) ?_
  intro p e s m below meth c A hx hb hr hml hts hown hlocks hin hP hD hK hG hA hS ls hl
  have hl : lv_has ls 2 [(0, .int c0), (1, .int n)] := hl
  refine lv_iload_n hx hb dX13_long3_0 rfl (lv_at hl 0 rfl) ?_
  by_cases c_1 : c0 = 97
  · subst c_1
    refine lv_lookup (off := 54) (tgt := 55) hx hb dX13_long3_1 (by decide) (by decide) (by decide) ?_
    refine lv_sipush (v := 254) hx hb dX13_long3_55 (by decide) ?_
    refine lv_iload_n hx hb dX13_long3_58 rfl (lv_at hl 1 rfl) ?_
    refine lv_bipush (v := 24) hx hb dX13_long3_59 (by decide) ?_
    refine lv_iadd hx hb dX13_long3_61 ?_
    refine lv_imul hx hb dX13_long3_62 ?_
    refine lv_iconst (v := 3) hx hb dX13_long3_63 (by decide) ?_
    refine lv_idiv hx hb dX13_long3_64 (by decide) ?_
    have hP9 := hP.sub (ws' := []) [] rfl
    have hD9 := hD.sub (ws' := []) [] (by decide) rfl
    have hK9 := hK.sub (tys' := []) [] rfl
    exact end_i hx hb hr hlocks hP9 hD9 hK9 hS () rfl rfl (by simp [lenS]) (Nat.le_of_ble_eq_true rfl) (Nat.le_of_ble_eq_true rfl) dX13_long3_65
  · by_cases c_2 : c0 = 102
    · subst c_2
      refine lv_lookup (off := 35) (tgt := 36) hx hb dX13_long3_1 (by decide) (by decide) (by decide) ?_
      refine lv_sipush (v := 200) hx hb dX13_long3_36 (by decide) ?_
      refine lv_iload_n hx hb dX13_long3_39 rfl (lv_at hl 1 rfl) ?_
      refine lv_imul hx hb dX13_long3_40 ?_
      refine lv_iconst (v := 3) hx hb dX13_long3_41 (by decide) ?_
      refine lv_idiv hx hb dX13_long3_42 (by decide) ?_
      have hP9 := hP.sub (ws' := []) [] rfl
      have hD9 := hD.sub (ws' := []) [] (by decide) rfl
      have hK9 := hK.sub (tys' := []) [] rfl
      exact end_i hx hb hr hlocks hP9 hD9 hK9 hS () rfl rfl (by simp [lenS]) (Nat.le_of_ble_eq_true rfl) (Nat.le_of_ble_eq_true rfl) dX13_long3_43
    · by_cases c_3 : c0 = 117
      · subst c_3
        refine lv_lookup (off := 43) (tgt := 44) hx hb dX13_long3_1 (by decide) (by decide) (by decide) ?_
        refine lv_sipush (v := 254) hx hb dX13_long3_44 (by decide) ?_
        refine lv_iload_n hx hb dX13_long3_47 rfl (lv_at hl 1 rfl) ?_
        refine lv_bipush (v := 25) hx hb dX13_long3_48 (by decide) ?_
        refine lv_iadd hx hb dX13_long3_50 ?_
        refine lv_imul hx hb dX13_long3_51 ?_
        refine lv_iconst (v := 3) hx hb dX13_long3_52 (by decide) ?_
        refine lv_idiv hx hb dX13_long3_53 (by decide) ?_
        have hP9 := hP.sub (ws' := []) [] rfl
        have hD9 := hD.sub (ws' := []) [] (by decide) rfl
        have hK9 := hK.sub (tys' := []) [] rfl
        exact end_i hx hb hr hlocks hP9 hD9 hK9 hS () rfl rfl (by simp [lenS]) (Nat.le_of_ble_eq_true rfl) (Nat.le_of_ble_eq_true rfl) dX13_long3_54
      · refine lv_lookup (off := 65) (tgt := 66) hx hb dX13_long3_1 (by decide) ((lv_osw c_1 rfl).trans ((lv_osw c_2 rfl).trans ((lv_osw c_3 rfl).trans rfl))) (by decide) ?_
        refine lv_bipush (v := 10) hx hb dX13_long3_66 (by decide) ?_
        refine lv_iload_n hx hb dX13_long3_68 rfl (lv_at hl 1 rfl) ?_
        refine lv_imul hx hb dX13_long3_69 ?_
        have hP9 := hP.sub (ws' := []) [] rfl
        have hD9 := hD.sub (ws' := []) [] (by decide) rfl
        have hK9 := hK.sub (tys' := []) [] rfl
        exact end_i hx hb hr hlocks hP9 hD9 hK9 hS () rfl rfl (by simp [lenS, c_1, c_2, c_3]) (Nat.le_of_ble_eq_true rfl) (Nat.le_of_ble_eq_true rfl) dX13_long3_70
set_option maxHeartbeats 4000000 in
set_option maxRecDepth 100000 in
/-- isSize(c, n) -/
theorem m_isSize (l : Launch) (D : va_G) (tC tE sz : Nat) (c0 n : Int32) : Met l yX13_isSize wsX13_isSize ({ frames := 1, cells := 0, slots := 0, locals := 22 }) (Pg D tC tE sz [] [] [.int c0, .int n]) (Qgi (S := Unit) D (fun u => []) (fun u => []) (fun r _ => (r = 1 ∧ szB c0 n = true) ∨ (r = 0 ∧ szB c0 n = false)) (va_A [] sz)) 0 0 (va_A [] sz) := by
  refine og_m (cc := cX13_isSize) (maxL := 2) (ret := (some .boolean)) (Qc := Qgi (S := Unit) D (fun u => []) (fun u => []) (fun r _ => (r = 1 ∧ szB c0 n = true) ∨ (r = 0 ∧ szB c0 n = false))) (by decide) rfl (Nat.le_of_ble_eq_true rfl) ?_
  intro p e s m below meth c A hx hb hr hml hts hown hlocks hin hP hD hK hG hA hS ls hl
  have hl : lv_has ls 2 [(0, .int c0), (1, .int n)] := hl
  refine lv_iload_n hx hb dX13_isSize_0 rfl (lv_at hl 0 rfl) ?_
  have hFc := va_free (wc := []) hD hS hA [] rfl
  refine va_calli (va_runS (As := [.int c0]) (rest := []) ⟨hx, hb, hml, hown, hts⟩ (m_isSystem l D tC tE s.heap.size c0) (va_cwS 1 hts gX13_isSize_X13_isSystem rfl rfl rfl (by decide +kernel) ⟨(Nat.le_of_ble_eq_true rfl), (Nat.le_of_ble_eq_true rfl)⟩) ⟨pg_blind, (pg_pre hP hD hK hG hS hFc [] rfl (by decide) [] rfl _)⟩ rfl rfl hl.1 rfl (lv_room (Nat.le_of_ble_eq_true rfl)) dX13_isSize_1 ⟨(Nat.le_of_ble_eq_true rfl), (Nat.le_of_ble_eq_true rfl)⟩) hS (fun q _ h => hFc q h) hFc (fun r_1 u_2 t H locs ht hvm hw hB hz1 hk1 hS => ?_)
  obtain ⟨hP, hD, hK⟩ := jn (wr := []) (w1 := []) (t1 := []) (tr := []) hP hD hK [] [] rfl rfl (by decide) (by decide) [] rfl hk1 hFc hB rfl rfl ht hvm
  have hP : va_P D vwCl [] H := hP
  have hD : va_D A [] := hD
  have hK : va_K D vwCl [] s := hK
  refine W.widen (k := 0) (n := 0) (Nat.le_of_ble_eq_true rfl) (Nat.le_of_ble_eq_true rfl) ?_
  rcases hw with ⟨q_4, h_3⟩ | ⟨q_4, h_3⟩
  · subst q_4
    refine lv_if_eq (tgt := 26) hx hb dX13_isSize_4 (by decide) (fun c_5 => absurd c_5 (show ¬ (1 : Int32) = 0 from (by decide))) (fun c_5 => ?_)
    refine lv_iload_n hx hb dX13_isSize_7 rfl (lv_at hl 1 rfl) ?_
    refine lv_iload_n hx hb dX13_isSize_8 rfl (lv_at hl 0 rfl) ?_
    have hFc := va_free (wc := []) hD hS hA [] rfl
    refine va_calli (va_runS (As := [.int c0]) (rest := [.int n]) ⟨hx, hb, hml, hown, hts⟩ (m_lowest l D tC tE H.size c0) (va_cwS 1 hts gX13_isSize_X13_lowest rfl rfl rfl (by decide +kernel) ⟨(Nat.le_of_ble_eq_true rfl), (Nat.le_of_ble_eq_true rfl)⟩) ⟨pg_blind, (pg_pre hP hD hK hG hS hFc [] rfl (by decide) [] rfl _)⟩ rfl rfl hl.1 rfl (lv_room (Nat.le_of_ble_eq_true rfl)) dX13_isSize_9 ⟨(Nat.le_of_ble_eq_true rfl), (Nat.le_of_ble_eq_true rfl)⟩) hS (fun q _ h => hFc q h) hFc (fun r_6 u_7 t H locs ht hvm hw hB hz1 hk1 hS => ?_)
    subst hw
    obtain ⟨hP, hD, hK⟩ := jn (wr := []) (w1 := []) (t1 := []) (tr := []) hP hD hK [] [] rfl rfl (by decide) (by decide) [] rfl hk1 hFc hB rfl rfl ht hvm
    have hP : va_P D vwCl [] H := hP
    have hD : va_D A [] := hD
    have hK : va_K D vwCl [] s := hK
    refine W.widen (k := 0) (n := 0) (Nat.le_of_ble_eq_true rfl) (Nat.le_of_ble_eq_true rfl) ?_
    refine lv_iload_n hx hb dX13_isSize_12 rfl (lv_at hl 0 rfl) ?_
    have hFc := va_free (wc := []) hD hS hA [] rfl
    refine va_calli (va_runS (As := [.int c0]) (rest := [.int (lowS c0), .int n]) ⟨hx, hb, hml, hown, hts⟩ (m_highest l D tC tE H.size c0) (va_cwS 1 hts gX13_isSize_X13_highest rfl rfl rfl (by decide +kernel) ⟨(Nat.le_of_ble_eq_true rfl), (Nat.le_of_ble_eq_true rfl)⟩) ⟨pg_blind, (pg_pre hP hD hK hG hS hFc [] rfl (by decide) [] rfl _)⟩ rfl rfl hl.1 rfl (lv_room (Nat.le_of_ble_eq_true rfl)) dX13_isSize_13 ⟨(Nat.le_of_ble_eq_true rfl), (Nat.le_of_ble_eq_true rfl)⟩) hS (fun q _ h => hFc q h) hFc (fun r_8 u_9 t H locs ht hvm hw hB hz1 hk1 hS => ?_)
    subst hw
    obtain ⟨hP, hD, hK⟩ := jn (wr := []) (w1 := []) (t1 := []) (tr := []) hP hD hK [] [] rfl rfl (by decide) (by decide) [] rfl hk1 hFc hB rfl rfl ht hvm
    have hP : va_P D vwCl [] H := hP
    have hD : va_D A [] := hD
    have hK : va_K D vwCl [] s := hK
    refine W.widen (k := 0) (n := 0) (Nat.le_of_ble_eq_true rfl) (Nat.le_of_ble_eq_true rfl) ?_
    have hFc := va_free (wc := []) hD hS hA [] rfl
    refine va_calli (va_runS (As := [.int n, .int (lowS c0), .int (highS c0)]) (rest := []) ⟨hx, hb, hml, hown, hts⟩ (m_in l D tC tE H.size n (lowS c0) (highS c0)) (va_cwS 3 hts gX13_isSize_X13_in rfl rfl rfl (by decide +kernel) ⟨(Nat.le_of_ble_eq_true rfl), (Nat.le_of_ble_eq_true rfl)⟩) ⟨pg_blind, (pg_pre hP hD hK hG hS hFc [] rfl (by decide) [] rfl _)⟩ rfl rfl hl.1 rfl (lv_room (Nat.le_of_ble_eq_true rfl)) dX13_isSize_16 ⟨(Nat.le_of_ble_eq_true rfl), (Nat.le_of_ble_eq_true rfl)⟩) hS (fun q _ h => hFc q h) hFc (fun r_10 u_11 t H locs ht hvm hw hB hz1 hk1 hS => ?_)
    obtain ⟨hP, hD, hK⟩ := jn (wr := []) (w1 := []) (t1 := []) (tr := []) hP hD hK [] [] rfl rfl (by decide) (by decide) [] rfl hk1 hFc hB rfl rfl ht hvm
    have hP : va_P D vwCl [] H := hP
    have hD : va_D A [] := hD
    have hK : va_K D vwCl [] s := hK
    refine W.widen (k := 0) (n := 0) (Nat.le_of_ble_eq_true rfl) (Nat.le_of_ble_eq_true rfl) ?_
    rcases hw with ⟨q_13, h_12⟩ | ⟨q_13, h_12⟩
    · subst q_13
      refine lv_if_eq (tgt := 26) hx hb dX13_isSize_19 (by decide) (fun c_14 => absurd c_14 (show ¬ (1 : Int32) = 0 from (by decide))) (fun c_14 => ?_)
      refine lv_iconst (v := 1) hx hb dX13_isSize_22 (by decide) ?_
      refine lv_goto (tgt := 27) hx hb dX13_isSize_23 (by decide) ?_
      have hP9 := hP.sub (ws' := []) [] rfl
      have hD9 := hD.sub (ws' := []) [] (by decide) rfl
      have hK9 := hK.sub (tys' := []) [] rfl
      exact end_z hx hb hr hlocks (by decide) hP9 hD9 hK9 hS () rfl rfl (Or.inl ⟨rfl, by simp [szB, h_3, h_12]⟩) (Nat.le_of_ble_eq_true rfl) (Nat.le_of_ble_eq_true rfl) dX13_isSize_27
    · subst q_13
      refine lv_if_eq (tgt := 26) hx hb dX13_isSize_19 (by decide) (fun c_15 => ?_) (fun c_15 => absurd (show (0 : Int32) = 0 from (by decide)) c_15)
      refine lv_iconst (v := 0) hx hb dX13_isSize_26 (by decide) ?_
      have hP9 := hP.sub (ws' := []) [] rfl
      have hD9 := hD.sub (ws' := []) [] (by decide) rfl
      have hK9 := hK.sub (tys' := []) [] rfl
      exact end_z hx hb hr hlocks (by decide) hP9 hD9 hK9 hS () rfl rfl (Or.inr ⟨rfl, by simp [szB, h_3, h_12]⟩) (Nat.le_of_ble_eq_true rfl) (Nat.le_of_ble_eq_true rfl) dX13_isSize_27
  · subst q_4
    refine lv_if_eq (tgt := 26) hx hb dX13_isSize_4 (by decide) (fun c_16 => ?_) (fun c_16 => absurd (show (0 : Int32) = 0 from (by decide)) c_16)
    refine lv_iconst (v := 0) hx hb dX13_isSize_26 (by decide) ?_
    have hP9 := hP.sub (ws' := []) [] rfl
    have hD9 := hD.sub (ws' := []) [] (by decide) rfl
    have hK9 := hK.sub (tys' := []) [] rfl
    exact end_z hx hb hr hlocks (by decide) hP9 hD9 hK9 hS () rfl rfl (Or.inr ⟨rfl, by simp [szB, h_3]⟩) (Nat.le_of_ble_eq_true rfl) (Nat.le_of_ble_eq_true rfl) dX13_isSize_27
set_option maxHeartbeats 4000000 in
set_option maxRecDepth 100000 in
/-- isFoot(length, girth) -/
theorem m_isFoot (l : Launch) (D : va_G) (tC tE sz : Nat) (a g : Int32) : Met l yX13_isFoot wsX13_isFoot ({ frames := 1, cells := 0, slots := 0, locals := 22 }) (Pg D tC tE sz [] [] [.int a, .int g]) (Qgi (S := Unit) D (fun u => []) (fun u => []) (fun r _ => (r = 1 ∧ footB a g = true) ∨ (r = 0 ∧ footB a g = false)) (va_A [] sz)) 0 0 (va_A [] sz) := by
  refine og_m (cc := cX13_isFoot) (maxL := 2) (ret := (some .boolean)) (Qc := Qgi (S := Unit) D (fun u => []) (fun u => []) (fun r _ => (r = 1 ∧ footB a g = true) ∨ (r = 0 ∧ footB a g = false))) (by decide) rfl (Nat.le_of_ble_eq_true rfl) ?_
  intro p e s m below meth c A hx hb hr hml hts hown hlocks hin hP hD hK hG hA hS ls hl
  have hl : lv_has ls 2 [(0, .int a), (1, .int g)] := hl
  refine lv_iload_n hx hb dX13_isFoot_0 rfl (lv_at hl 0 rfl) ?_
  refine lv_sipush (v := 1000) hx hb dX13_isFoot_1 (by decide) ?_
  refine lv_sipush (v := 3500) hx hb dX13_isFoot_4 (by decide) ?_
  have hFc := va_free (wc := []) hD hS hA [] rfl
  refine va_calli (va_runS (As := [.int a, .int 1000, .int 3500]) (rest := []) ⟨hx, hb, hml, hown, hts⟩ (m_in l D tC tE s.heap.size a 1000 3500) (va_cwS 3 hts gX13_isFoot_X13_in rfl rfl rfl (by decide +kernel) ⟨(Nat.le_of_ble_eq_true rfl), (Nat.le_of_ble_eq_true rfl)⟩) ⟨pg_blind, (pg_pre hP hD hK hG hS hFc [] rfl (by decide) [] rfl _)⟩ rfl rfl hl.1 rfl (lv_room (Nat.le_of_ble_eq_true rfl)) dX13_isFoot_7 ⟨(Nat.le_of_ble_eq_true rfl), (Nat.le_of_ble_eq_true rfl)⟩) hS (fun q _ h => hFc q h) hFc (fun r_1 u_2 t H locs ht hvm hw hB hz1 hk1 hS => ?_)
  obtain ⟨hP, hD, hK⟩ := jn (wr := []) (w1 := []) (t1 := []) (tr := []) hP hD hK [] [] rfl rfl (by decide) (by decide) [] rfl hk1 hFc hB rfl rfl ht hvm
  have hP : va_P D vwCl [] H := hP
  have hD : va_D A [] := hD
  have hK : va_K D vwCl [] s := hK
  refine W.widen (k := 0) (n := 0) (Nat.le_of_ble_eq_true rfl) (Nat.le_of_ble_eq_true rfl) ?_
  rcases hw with ⟨q_4, h_3⟩ | ⟨q_4, h_3⟩
  · subst q_4
    refine lv_if_eq (tgt := 30) hx hb dX13_isFoot_10 (by decide) (fun c_5 => absurd c_5 (show ¬ (1 : Int32) = 0 from (by decide))) (fun c_5 => ?_)
    refine lv_iload_n hx hb dX13_isFoot_13 rfl (lv_at hl 1 rfl) ?_
    refine lv_sipush (v := 1000) hx hb dX13_isFoot_14 (by decide) ?_
    refine lv_sipush (v := 4500) hx hb dX13_isFoot_17 (by decide) ?_
    have hFc := va_free (wc := []) hD hS hA [] rfl
    refine va_calli (va_runS (As := [.int g, .int 1000, .int 4500]) (rest := []) ⟨hx, hb, hml, hown, hts⟩ (m_in l D tC tE H.size g 1000 4500) (va_cwS 3 hts gX13_isFoot_X13_in rfl rfl rfl (by decide +kernel) ⟨(Nat.le_of_ble_eq_true rfl), (Nat.le_of_ble_eq_true rfl)⟩) ⟨pg_blind, (pg_pre hP hD hK hG hS hFc [] rfl (by decide) [] rfl _)⟩ rfl rfl hl.1 rfl (lv_room (Nat.le_of_ble_eq_true rfl)) dX13_isFoot_20 ⟨(Nat.le_of_ble_eq_true rfl), (Nat.le_of_ble_eq_true rfl)⟩) hS (fun q _ h => hFc q h) hFc (fun r_6 u_7 t H locs ht hvm hw hB hz1 hk1 hS => ?_)
    obtain ⟨hP, hD, hK⟩ := jn (wr := []) (w1 := []) (t1 := []) (tr := []) hP hD hK [] [] rfl rfl (by decide) (by decide) [] rfl hk1 hFc hB rfl rfl ht hvm
    have hP : va_P D vwCl [] H := hP
    have hD : va_D A [] := hD
    have hK : va_K D vwCl [] s := hK
    refine W.widen (k := 0) (n := 0) (Nat.le_of_ble_eq_true rfl) (Nat.le_of_ble_eq_true rfl) ?_
    rcases hw with ⟨q_9, h_8⟩ | ⟨q_9, h_8⟩
    · subst q_9
      refine lv_if_eq (tgt := 30) hx hb dX13_isFoot_23 (by decide) (fun c_10 => absurd c_10 (show ¬ (1 : Int32) = 0 from (by decide))) (fun c_10 => ?_)
      refine lv_iconst (v := 1) hx hb dX13_isFoot_26 (by decide) ?_
      refine lv_goto (tgt := 31) hx hb dX13_isFoot_27 (by decide) ?_
      have hP9 := hP.sub (ws' := []) [] rfl
      have hD9 := hD.sub (ws' := []) [] (by decide) rfl
      have hK9 := hK.sub (tys' := []) [] rfl
      exact end_z hx hb hr hlocks (by decide) hP9 hD9 hK9 hS () rfl rfl (Or.inl ⟨rfl, by simp [footB, h_3, h_8]⟩) (Nat.le_of_ble_eq_true rfl) (Nat.le_of_ble_eq_true rfl) dX13_isFoot_31
    · subst q_9
      refine lv_if_eq (tgt := 30) hx hb dX13_isFoot_23 (by decide) (fun c_11 => ?_) (fun c_11 => absurd (show (0 : Int32) = 0 from (by decide)) c_11)
      refine lv_iconst (v := 0) hx hb dX13_isFoot_30 (by decide) ?_
      have hP9 := hP.sub (ws' := []) [] rfl
      have hD9 := hD.sub (ws' := []) [] (by decide) rfl
      have hK9 := hK.sub (tys' := []) [] rfl
      exact end_z hx hb hr hlocks (by decide) hP9 hD9 hK9 hS () rfl rfl (Or.inr ⟨rfl, by simp [footB, h_3, h_8]⟩) (Nat.le_of_ble_eq_true rfl) (Nat.le_of_ble_eq_true rfl) dX13_isFoot_31
  · subst q_4
    refine lv_if_eq (tgt := 30) hx hb dX13_isFoot_10 (by decide) (fun c_12 => ?_) (fun c_12 => absurd (show (0 : Int32) = 0 from (by decide)) c_12)
    refine lv_iconst (v := 0) hx hb dX13_isFoot_30 (by decide) ?_
    have hP9 := hP.sub (ws' := []) [] rfl
    have hD9 := hD.sub (ws' := []) [] (by decide) rfl
    have hK9 := hK.sub (tys' := []) [] rfl
    exact end_z hx hb hr hlocks (by decide) hP9 hD9 hK9 hS () rfl rfl (Or.inr ⟨rfl, by simp [footB, h_3]⟩) (Nat.le_of_ble_eq_true rfl) (Nat.le_of_ble_eq_true rfl) dX13_isFoot_31
set_option maxHeartbeats 4000000 in
set_option maxRecDepth 100000 in
/-- fails on a fresh object -/
theorem m_fails (l : Launch) (D : va_G) (tC tE sz : Nat) (mm l0 l1 l2 l3 l4 la sk ab bu cu sd : Nat) (co no : Int32) (why : Int32) : Met l yX13_fails wsX13_fails ({ frames := 0, cells := 0, slots := 0, locals := 0 }) (Pg D tC tE sz [(mm, .inr (17, [.int co, .int no, .ref l0, .ref la, .ref l1, .ref l2, .ref l3, .ref sk, .ref ab, .ref bu, .ref cu, .ref sd, .ref l4]))] [] [.ref mm, .int why]) (Qgi (S := Unit) D (fun u => [(mm, .inr (17, [.int why, .int no, .ref l0, .ref la, .ref l1, .ref l2, .ref l3, .ref sk, .ref ab, .ref bu, .ref cu, .ref sd, .ref l4]))]) (fun u => []) (fun r _ => r = 0) (va_A [(mm, .inr (17, [.int co, .int no, .ref l0, .ref la, .ref l1, .ref l2, .ref l3, .ref sk, .ref ab, .ref bu, .ref cu, .ref sd, .ref l4]))] sz)) 0 0 (va_A [(mm, .inr (17, [.int co, .int no, .ref l0, .ref la, .ref l1, .ref l2, .ref l3, .ref sk, .ref ab, .ref bu, .ref cu, .ref sd, .ref l4]))] sz) := by
  refine og_m (cc := cX13_fails) (maxL := 2) (ret := (some .int)) (Qc := Qgi (S := Unit) D (fun u => [(mm, .inr (17, [.int why, .int no, .ref l0, .ref la, .ref l1, .ref l2, .ref l3, .ref sk, .ref ab, .ref bu, .ref cu, .ref sd, .ref l4]))]) (fun u => []) (fun r _ => r = 0)) (by decide) rfl (Nat.le_of_ble_eq_true rfl) ?_
  intro p e s m below meth c A hx hb hr hml hts hown hlocks hin hP hD hK hG hA hS ls hl
  have hl : lv_has ls 2 [(0, .ref mm), (1, .int why)] := hl
  refine lv_aload_n hx hb dX13_fails_0 rfl (lv_at hl 0 rfl) ?_
  refine lv_iload_n hx hb dX13_fails_1 rfl (lv_at hl 1 rfl) ?_
  refine va_put (D := D) (ci := 17) (v := .int why) (ty := .int) (C := RX13) (T := TX13) (N := 13) hx hb hts (fun w h => List.mem_cons_of_mem _ (List.mem_append_right _ h)) tyX13 tyX13_ok nmX13 hown hK hP hD hS 0 rfl rfl 0 (by decide) (hts (.fieldLink RX13 48 "LastroomModel" "code" "I") (List.mem_of_getElem? (i := 1) rfl)) (fun _ h9 => h9) rfl (by decide +kernel) rfl rfl (Nat.le_of_ble_eq_true rfl) dX13_fails_2 (fun H locs hP hD hS => ?_)
  have hP : va_P D vwCl [(mm, .inr (17, [.int why, .int no, .ref l0, .ref la, .ref l1, .ref l2, .ref l3, .ref sk, .ref ab, .ref bu, .ref cu, .ref sd, .ref l4]))] H := hP
  have hD : va_D A [(mm, .inr (17, [.int why, .int no, .ref l0, .ref la, .ref l1, .ref l2, .ref l3, .ref sk, .ref ab, .ref bu, .ref cu, .ref sd, .ref l4]))] := hD
  refine lv_iconst (v := 0) hx hb dX13_fails_5 (by decide) ?_
  have hP9 := hP.sub (ws' := [(mm, .inr (17, [.int why, .int no, .ref l0, .ref la, .ref l1, .ref l2, .ref l3, .ref sk, .ref ab, .ref bu, .ref cu, .ref sd, .ref l4]))]) [0] rfl
  have hD9 := hD.sub (ws' := [(mm, .inr (17, [.int why, .int no, .ref l0, .ref la, .ref l1, .ref l2, .ref l3, .ref sk, .ref ab, .ref bu, .ref cu, .ref sd, .ref l4]))]) [0] (by decide) rfl
  have hK9 := hK.sub (tys' := []) [] rfl
  exact end_i hx hb hr hlocks hP9 hD9 hK9 hS () rfl rfl rfl (Nat.le_of_ble_eq_true rfl) (Nat.le_of_ble_eq_true rfl) dX13_fails_6
set_option maxHeartbeats 4000000 in
set_option maxRecDepth 100000 in
/-- failsBoolean on a fresh object -/
theorem m_failsBoolean (l : Launch) (D : va_G) (tC tE sz : Nat) (mm l0 l1 l2 l3 l4 la sk ab bu cu sd : Nat) (co no : Int32) (why : Int32) : Met l yX13_failsBoolean wsX13_failsBoolean ({ frames := 0, cells := 0, slots := 0, locals := 0 }) (Pg D tC tE sz [(mm, .inr (17, [.int co, .int no, .ref l0, .ref la, .ref l1, .ref l2, .ref l3, .ref sk, .ref ab, .ref bu, .ref cu, .ref sd, .ref l4]))] [] [.ref mm, .int why]) (Qgi (S := Unit) D (fun u => [(mm, .inr (17, [.int why, .int no, .ref l0, .ref la, .ref l1, .ref l2, .ref l3, .ref sk, .ref ab, .ref bu, .ref cu, .ref sd, .ref l4]))]) (fun u => []) (fun r _ => r = 0) (va_A [(mm, .inr (17, [.int co, .int no, .ref l0, .ref la, .ref l1, .ref l2, .ref l3, .ref sk, .ref ab, .ref bu, .ref cu, .ref sd, .ref l4]))] sz)) 0 0 (va_A [(mm, .inr (17, [.int co, .int no, .ref l0, .ref la, .ref l1, .ref l2, .ref l3, .ref sk, .ref ab, .ref bu, .ref cu, .ref sd, .ref l4]))] sz) := by
  refine og_m (cc := cX13_failsBoolean) (maxL := 2) (ret := (some .boolean)) (Qc := Qgi (S := Unit) D (fun u => [(mm, .inr (17, [.int why, .int no, .ref l0, .ref la, .ref l1, .ref l2, .ref l3, .ref sk, .ref ab, .ref bu, .ref cu, .ref sd, .ref l4]))]) (fun u => []) (fun r _ => r = 0)) (by decide) rfl (Nat.le_of_ble_eq_true rfl) ?_
  intro p e s m below meth c A hx hb hr hml hts hown hlocks hin hP hD hK hG hA hS ls hl
  have hl : lv_has ls 2 [(0, .ref mm), (1, .int why)] := hl
  refine lv_aload_n hx hb dX13_failsBoolean_0 rfl (lv_at hl 0 rfl) ?_
  refine lv_iload_n hx hb dX13_failsBoolean_1 rfl (lv_at hl 1 rfl) ?_
  refine va_put (D := D) (ci := 17) (v := .int why) (ty := .int) (C := RX13) (T := TX13) (N := 13) hx hb hts (fun w h => List.mem_cons_of_mem _ (List.mem_append_right _ h)) tyX13 tyX13_ok nmX13 hown hK hP hD hS 0 rfl rfl 0 (by decide) (hts (.fieldLink RX13 48 "LastroomModel" "code" "I") (List.mem_of_getElem? (i := 1) rfl)) (fun _ h9 => h9) rfl (by decide +kernel) rfl rfl (Nat.le_of_ble_eq_true rfl) dX13_failsBoolean_2 (fun H locs hP hD hS => ?_)
  have hP : va_P D vwCl [(mm, .inr (17, [.int why, .int no, .ref l0, .ref la, .ref l1, .ref l2, .ref l3, .ref sk, .ref ab, .ref bu, .ref cu, .ref sd, .ref l4]))] H := hP
  have hD : va_D A [(mm, .inr (17, [.int why, .int no, .ref l0, .ref la, .ref l1, .ref l2, .ref l3, .ref sk, .ref ab, .ref bu, .ref cu, .ref sd, .ref l4]))] := hD
  refine lv_iconst (v := 0) hx hb dX13_failsBoolean_5 (by decide) ?_
  have hP9 := hP.sub (ws' := [(mm, .inr (17, [.int why, .int no, .ref l0, .ref la, .ref l1, .ref l2, .ref l3, .ref sk, .ref ab, .ref bu, .ref cu, .ref sd, .ref l4]))]) [0] rfl
  have hD9 := hD.sub (ws' := [(mm, .inr (17, [.int why, .int no, .ref l0, .ref la, .ref l1, .ref l2, .ref l3, .ref sk, .ref ab, .ref bu, .ref cu, .ref sd, .ref l4]))]) [0] (by decide) rfl
  have hK9 := hK.sub (tys' := []) [] rfl
  exact end_z hx hb hr hlocks (by decide) hP9 hD9 hK9 hS () rfl rfl rfl (Nat.le_of_ble_eq_true rfl) (Nat.le_of_ble_eq_true rfl) dX13_failsBoolean_6
set_option maxHeartbeats 4000000 in
set_option maxRecDepth 100000 in
/-- thrown on a fresh object -/
theorem m_thrown (l : Launch) (D : va_G) (tC tE sz : Nat) (mm l0 l1 l2 l3 l4 la sk ab bu cu sd : Nat) (co no : Int32) : Met l yX13_thrown wsX13_thrown ({ frames := 0, cells := 0, slots := 0, locals := 0 }) (Pg D tC tE sz [(mm, .inr (17, [.int co, .int no, .ref l0, .ref la, .ref l1, .ref l2, .ref l3, .ref sk, .ref ab, .ref bu, .ref cu, .ref sd, .ref l4]))] [] [.ref mm]) (Qgi (S := Unit) D (fun u => [(mm, .inr (17, [.int co, .int no, .ref l0, .ref la, .ref l1, .ref l2, .ref l3, .ref sk, .ref ab, .ref bu, .ref cu, .ref sd, .ref l4]))]) (fun u => []) (fun r _ => r = co) (va_A [(mm, .inr (17, [.int co, .int no, .ref l0, .ref la, .ref l1, .ref l2, .ref l3, .ref sk, .ref ab, .ref bu, .ref cu, .ref sd, .ref l4]))] sz)) 0 0 (va_A [(mm, .inr (17, [.int co, .int no, .ref l0, .ref la, .ref l1, .ref l2, .ref l3, .ref sk, .ref ab, .ref bu, .ref cu, .ref sd, .ref l4]))] sz) := by
  refine og_m (cc := cX13_thrown) (maxL := 1) (ret := (some .int)) (Qc := Qgi (S := Unit) D (fun u => [(mm, .inr (17, [.int co, .int no, .ref l0, .ref la, .ref l1, .ref l2, .ref l3, .ref sk, .ref ab, .ref bu, .ref cu, .ref sd, .ref l4]))]) (fun u => []) (fun r _ => r = co)) (by decide) rfl (Nat.le_of_ble_eq_true rfl) ?_
  intro p e s m below meth c A hx hb hr hml hts hown hlocks hin hP hD hK hG hA hS ls hl
  have hl : lv_has ls 1 [(0, .ref mm)] := hl
  refine lv_aload_n hx hb dX13_thrown_0 rfl (lv_at hl 0 rfl) ?_
  refine va_get (D := D) (ci := 17) (v := .int co) (C := RX13) (T := TX13) (N := 13) hx hb hts (fun w h => List.mem_cons_of_mem _ (List.mem_append_right _ h)) hown hK hP 0 rfl rfl 0 (by decide) (hts (.fieldLink RX13 48 "LastroomModel" "code" "I") (List.mem_of_getElem? (i := 1) rfl)) (fun _ h9 => h9) rfl dX13_thrown_1 ?_
  have hP9 := hP.sub (ws' := [(mm, .inr (17, [.int co, .int no, .ref l0, .ref la, .ref l1, .ref l2, .ref l3, .ref sk, .ref ab, .ref bu, .ref cu, .ref sd, .ref l4]))]) [0] rfl
  have hD9 := hD.sub (ws' := [(mm, .inr (17, [.int co, .int no, .ref l0, .ref la, .ref l1, .ref l2, .ref l3, .ref sk, .ref ab, .ref bu, .ref cu, .ref sd, .ref l4]))]) [0] (by decide) rfl
  have hK9 := hK.sub (tys' := []) [] rfl
  exact end_i hx hb hr hlocks hP9 hD9 hK9 hS () rfl rfl rfl (Nat.le_of_ble_eq_true rfl) (Nat.le_of_ble_eq_true rfl) dX13_thrown_4
set_option maxHeartbeats 4000000 in
set_option maxRecDepth 100000 in
/-- isModel on a fresh object -/
theorem m_isModel (l : Launch) (D : va_G) (tC tE sz : Nat) (mm l0 l1 l2 l3 l4 la sk ab bu cu sd : Nat) (co no : Int32) (a1 : Int32) : Met l yX13_isModel wsX13_isModel ({ frames := 1, cells := 0, slots := 0, locals := 22 }) (Pg D tC tE sz [(mm, .inr (17, [.int co, .int no, .ref l0, .ref la, .ref l1, .ref l2, .ref l3, .ref sk, .ref ab, .ref bu, .ref cu, .ref sd, .ref l4])), (l0, .inr (3, [.int 0, .ref tE, .int 0]))] [] [.ref mm, .int a1]) (Qgi (S := Unit) D (fun u => [(mm, .inr (17, [.int co, .int no, .ref l0, .ref la, .ref l1, .ref l2, .ref l3, .ref sk, .ref ab, .ref bu, .ref cu, .ref sd, .ref l4])), (l0, .inr (3, [.int 0, .ref tE, .int 0]))]) (fun u => []) (fun r _ => r = 0) (va_A [(mm, .inr (17, [.int co, .int no, .ref l0, .ref la, .ref l1, .ref l2, .ref l3, .ref sk, .ref ab, .ref bu, .ref cu, .ref sd, .ref l4])), (l0, .inr (3, [.int 0, .ref tE, .int 0]))] sz)) 0 0 (va_A [(mm, .inr (17, [.int co, .int no, .ref l0, .ref la, .ref l1, .ref l2, .ref l3, .ref sk, .ref ab, .ref bu, .ref cu, .ref sd, .ref l4])), (l0, .inr (3, [.int 0, .ref tE, .int 0]))] sz) := by
  refine og_m (cc := cX13_isModel) (maxL := 2) (ret := (some .boolean)) (Qc := Qgi (S := Unit) D (fun u => [(mm, .inr (17, [.int co, .int no, .ref l0, .ref la, .ref l1, .ref l2, .ref l3, .ref sk, .ref ab, .ref bu, .ref cu, .ref sd, .ref l4])), (l0, .inr (3, [.int 0, .ref tE, .int 0]))]) (fun u => []) (fun r _ => r = 0)) (by decide) rfl (Nat.le_of_ble_eq_true rfl) ?_
  intro p e s m below meth c A hx hb hr hml hts hown hlocks hin hP hD hK hG hA hS ls hl
  have hl : lv_has ls 2 [(0, .ref mm), (1, .int a1)] := hl
  refine lv_iload_n hx hb dX13_isModel_0 rfl (lv_at hl 1 rfl) ?_
  refine lv_iconst (v := 0) hx hb dX13_isModel_1 (by decide) ?_
  refine lv_aload_n hx hb dX13_isModel_2 rfl (lv_at hl 0 rfl) ?_
  refine va_get (D := D) (ci := 17) (v := .ref l0) (C := RX13) (T := TX13) (N := 13) hx hb hts (fun w h => List.mem_cons_of_mem _ (List.mem_append_left _ (List.mem_append_right _ h))) hown hK hP 0 rfl rfl 2 (by decide) (hts (.fieldLink RX13 10 "LastroomModel" "models" "Ljava/util/List;") (List.mem_of_getElem? (i := 1) rfl)) (fun _ h9 => h9) rfl dX13_isModel_3 ?_
  have hFc := va_free (wc := [(l0, .inr (3, [.int 0, .ref tE, .int 0]))]) hD hS hA [1] rfl
  refine va_callFi (va_runF (As := []) (rest := [.int 0, .int a1]) (hK.1 3 _ rfl).2 ⟨hx, hb, hml, hown, hts⟩ (c_size l D tC tE s.heap.size l0 0 0 tE) (va_cwF 0 hts gX13_isModel_Jx4a65c_size_8abf5_f84Jx4a65c rfl rfl rfl (hG.2.2.2.2.2.2.2.2.1 _ (List.mem_of_getElem? (i := 0) rfl)) (by decide +kernel) ⟨(Nat.le_of_ble_eq_true rfl), (Nat.le_of_ble_eq_true rfl)⟩) ⟨pg_blind, (va_recv hK hP (ci := 3) (q0 := 1) rfl rfl), (pg_pre hP hD hK hG hS hFc [1] rfl (by decide) [] rfl _)⟩ rfl rfl hl.1 rfl (lv_room (Nat.le_of_ble_eq_true rfl)) dX13_isModel_6 ⟨(Nat.le_of_ble_eq_true rfl), (Nat.le_of_ble_eq_true rfl)⟩) hS (fun q _ h => hFc q h) hFc (fun r_1 u_2 t H locs ht hvm hw hB hz1 hk1 hS => ?_)
  subst hw
  obtain ⟨hP, hD, hK⟩ := jn (wr := [(mm, .inr (17, [.int co, .int no, .ref l0, .ref la, .ref l1, .ref l2, .ref l3, .ref sk, .ref ab, .ref bu, .ref cu, .ref sd, .ref l4]))]) (w1 := [(l0, .inr (3, [.int 0, .ref tE, .int 0]))]) (t1 := []) (tr := []) hP hD hK [1] [0] rfl rfl (by decide) (by decide) [] rfl hk1 hFc hB rfl rfl ht hvm
  have hP : va_P D vwCl [(mm, .inr (17, [.int co, .int no, .ref l0, .ref la, .ref l1, .ref l2, .ref l3, .ref sk, .ref ab, .ref bu, .ref cu, .ref sd, .ref l4])), (l0, .inr (3, [.int 0, .ref tE, .int 0]))] H := hP
  have hD : va_D A [(mm, .inr (17, [.int co, .int no, .ref l0, .ref la, .ref l1, .ref l2, .ref l3, .ref sk, .ref ab, .ref bu, .ref cu, .ref sd, .ref l4])), (l0, .inr (3, [.int 0, .ref tE, .int 0]))] := hD
  have hK : va_K D vwCl [] s := hK
  refine W.widen (k := 0) (n := 0) (Nat.le_of_ble_eq_true rfl) (Nat.le_of_ble_eq_true rfl) ?_
  refine lv_iconst (v := 1) hx hb dX13_isModel_11 (by decide) ?_
  refine lv_isub hx hb dX13_isModel_12 ?_
  refine lv_topi (fun y hy => ?_)
  rw [show (0 : Int32) - (1 : Int32) = (-1) by decide] at hy
  subst hy
  have hFc := va_free (wc := []) hD hS hA [] rfl
  refine va_calli (va_runS (As := [.int a1, .int 0, .int (-1)]) (rest := []) ⟨hx, hb, hml, hown, hts⟩ (m_in l D tC tE H.size a1 0 (-1)) (va_cwS 3 hts gX13_isModel_X13_in rfl rfl rfl (by decide +kernel) ⟨(Nat.le_of_ble_eq_true rfl), (Nat.le_of_ble_eq_true rfl)⟩) ⟨pg_blind, (pg_pre hP hD hK hG hS hFc [] rfl (by decide) [] rfl _)⟩ rfl rfl hl.1 rfl (lv_room (Nat.le_of_ble_eq_true rfl)) dX13_isModel_13 ⟨(Nat.le_of_ble_eq_true rfl), (Nat.le_of_ble_eq_true rfl)⟩) hS (fun q _ h => hFc q h) hFc (fun r_3 u_4 t H locs ht hvm hw hB hz1 hk1 hS => ?_)
  obtain ⟨hP, hD, hK⟩ := jn (wr := [(mm, .inr (17, [.int co, .int no, .ref l0, .ref la, .ref l1, .ref l2, .ref l3, .ref sk, .ref ab, .ref bu, .ref cu, .ref sd, .ref l4])), (l0, .inr (3, [.int 0, .ref tE, .int 0]))]) (w1 := []) (t1 := []) (tr := []) hP hD hK [] [0, 1] rfl rfl (by decide) (by decide) [] rfl hk1 hFc hB rfl rfl ht hvm
  have hP : va_P D vwCl [(mm, .inr (17, [.int co, .int no, .ref l0, .ref la, .ref l1, .ref l2, .ref l3, .ref sk, .ref ab, .ref bu, .ref cu, .ref sd, .ref l4])), (l0, .inr (3, [.int 0, .ref tE, .int 0]))] H := hP
  have hD : va_D A [(mm, .inr (17, [.int co, .int no, .ref l0, .ref la, .ref l1, .ref l2, .ref l3, .ref sk, .ref ab, .ref bu, .ref cu, .ref sd, .ref l4])), (l0, .inr (3, [.int 0, .ref tE, .int 0]))] := hD
  have hK : va_K D vwCl [] s := hK
  refine W.widen (k := 0) (n := 0) (Nat.le_of_ble_eq_true rfl) (Nat.le_of_ble_eq_true rfl) ?_
  rcases hw with ⟨q_6, h_5⟩ | ⟨q_6, h_5⟩
  · exact absurd h_5 (by rw [rg_empty]; decide)
  · subst q_6
    have hP9 := hP.sub (ws' := [(mm, .inr (17, [.int co, .int no, .ref l0, .ref la, .ref l1, .ref l2, .ref l3, .ref sk, .ref ab, .ref bu, .ref cu, .ref sd, .ref l4])), (l0, .inr (3, [.int 0, .ref tE, .int 0]))]) [0, 1] rfl
    have hD9 := hD.sub (ws' := [(mm, .inr (17, [.int co, .int no, .ref l0, .ref la, .ref l1, .ref l2, .ref l3, .ref sk, .ref ab, .ref bu, .ref cu, .ref sd, .ref l4])), (l0, .inr (3, [.int 0, .ref tE, .int 0]))]) [0, 1] (by decide) rfl
    have hK9 := hK.sub (tys' := []) [] rfl
    exact end_z hx hb hr hlocks (by decide) hP9 hD9 hK9 hS () rfl rfl rfl (Nat.le_of_ble_eq_true rfl) (Nat.le_of_ble_eq_true rfl) dX13_isModel_16
set_option maxHeartbeats 4000000 in
set_option maxRecDepth 100000 in
/-- isStyle on a fresh object -/
theorem m_isStyle (l : Launch) (D : va_G) (tC tE sz : Nat) (mm l0 l1 l2 l3 l4 la sk ab bu cu sd : Nat) (co no : Int32) (a1 : Int32) : Met l yX13_isStyle wsX13_isStyle ({ frames := 1, cells := 0, slots := 0, locals := 22 }) (Pg D tC tE sz [(mm, .inr (17, [.int co, .int no, .ref l0, .ref la, .ref l1, .ref l2, .ref l3, .ref sk, .ref ab, .ref bu, .ref cu, .ref sd, .ref l4])), (l1, .inr (3, [.int 0, .ref tE, .int 0]))] [] [.ref mm, .int a1]) (Qgi (S := Unit) D (fun u => [(mm, .inr (17, [.int co, .int no, .ref l0, .ref la, .ref l1, .ref l2, .ref l3, .ref sk, .ref ab, .ref bu, .ref cu, .ref sd, .ref l4])), (l1, .inr (3, [.int 0, .ref tE, .int 0]))]) (fun u => []) (fun r _ => r = 0) (va_A [(mm, .inr (17, [.int co, .int no, .ref l0, .ref la, .ref l1, .ref l2, .ref l3, .ref sk, .ref ab, .ref bu, .ref cu, .ref sd, .ref l4])), (l1, .inr (3, [.int 0, .ref tE, .int 0]))] sz)) 0 0 (va_A [(mm, .inr (17, [.int co, .int no, .ref l0, .ref la, .ref l1, .ref l2, .ref l3, .ref sk, .ref ab, .ref bu, .ref cu, .ref sd, .ref l4])), (l1, .inr (3, [.int 0, .ref tE, .int 0]))] sz) := by
  refine og_m (cc := cX13_isStyle) (maxL := 2) (ret := (some .boolean)) (Qc := Qgi (S := Unit) D (fun u => [(mm, .inr (17, [.int co, .int no, .ref l0, .ref la, .ref l1, .ref l2, .ref l3, .ref sk, .ref ab, .ref bu, .ref cu, .ref sd, .ref l4])), (l1, .inr (3, [.int 0, .ref tE, .int 0]))]) (fun u => []) (fun r _ => r = 0)) (by decide) rfl (Nat.le_of_ble_eq_true rfl) ?_
  intro p e s m below meth c A hx hb hr hml hts hown hlocks hin hP hD hK hG hA hS ls hl
  have hl : lv_has ls 2 [(0, .ref mm), (1, .int a1)] := hl
  refine lv_iload_n hx hb dX13_isStyle_0 rfl (lv_at hl 1 rfl) ?_
  refine lv_iconst (v := 0) hx hb dX13_isStyle_1 (by decide) ?_
  refine lv_aload_n hx hb dX13_isStyle_2 rfl (lv_at hl 0 rfl) ?_
  refine va_get (D := D) (ci := 17) (v := .ref l1) (C := RX13) (T := TX13) (N := 13) hx hb hts (fun w h => List.mem_cons_of_mem _ (List.mem_append_left _ (List.mem_append_right _ h))) hown hK hP 0 rfl rfl 4 (by decide) (hts (.fieldLink RX13 20 "LastroomModel" "styles" "Ljava/util/List;") (List.mem_of_getElem? (i := 1) rfl)) (fun _ h9 => h9) rfl dX13_isStyle_3 ?_
  have hFc := va_free (wc := [(l1, .inr (3, [.int 0, .ref tE, .int 0]))]) hD hS hA [1] rfl
  refine va_callFi (va_runF (As := []) (rest := [.int 0, .int a1]) (hK.1 3 _ rfl).2 ⟨hx, hb, hml, hown, hts⟩ (c_size l D tC tE s.heap.size l1 0 0 tE) (va_cwF 0 hts gX13_isStyle_Jx4a65c_size_8abf5_f84Jx4a65c rfl rfl rfl (hG.2.2.2.2.2.2.2.2.1 _ (List.mem_of_getElem? (i := 0) rfl)) (by decide +kernel) ⟨(Nat.le_of_ble_eq_true rfl), (Nat.le_of_ble_eq_true rfl)⟩) ⟨pg_blind, (va_recv hK hP (ci := 3) (q0 := 1) rfl rfl), (pg_pre hP hD hK hG hS hFc [1] rfl (by decide) [] rfl _)⟩ rfl rfl hl.1 rfl (lv_room (Nat.le_of_ble_eq_true rfl)) dX13_isStyle_6 ⟨(Nat.le_of_ble_eq_true rfl), (Nat.le_of_ble_eq_true rfl)⟩) hS (fun q _ h => hFc q h) hFc (fun r_1 u_2 t H locs ht hvm hw hB hz1 hk1 hS => ?_)
  subst hw
  obtain ⟨hP, hD, hK⟩ := jn (wr := [(mm, .inr (17, [.int co, .int no, .ref l0, .ref la, .ref l1, .ref l2, .ref l3, .ref sk, .ref ab, .ref bu, .ref cu, .ref sd, .ref l4]))]) (w1 := [(l1, .inr (3, [.int 0, .ref tE, .int 0]))]) (t1 := []) (tr := []) hP hD hK [1] [0] rfl rfl (by decide) (by decide) [] rfl hk1 hFc hB rfl rfl ht hvm
  have hP : va_P D vwCl [(mm, .inr (17, [.int co, .int no, .ref l0, .ref la, .ref l1, .ref l2, .ref l3, .ref sk, .ref ab, .ref bu, .ref cu, .ref sd, .ref l4])), (l1, .inr (3, [.int 0, .ref tE, .int 0]))] H := hP
  have hD : va_D A [(mm, .inr (17, [.int co, .int no, .ref l0, .ref la, .ref l1, .ref l2, .ref l3, .ref sk, .ref ab, .ref bu, .ref cu, .ref sd, .ref l4])), (l1, .inr (3, [.int 0, .ref tE, .int 0]))] := hD
  have hK : va_K D vwCl [] s := hK
  refine W.widen (k := 0) (n := 0) (Nat.le_of_ble_eq_true rfl) (Nat.le_of_ble_eq_true rfl) ?_
  refine lv_iconst (v := 1) hx hb dX13_isStyle_11 (by decide) ?_
  refine lv_isub hx hb dX13_isStyle_12 ?_
  refine lv_topi (fun y hy => ?_)
  rw [show (0 : Int32) - (1 : Int32) = (-1) by decide] at hy
  subst hy
  have hFc := va_free (wc := []) hD hS hA [] rfl
  refine va_calli (va_runS (As := [.int a1, .int 0, .int (-1)]) (rest := []) ⟨hx, hb, hml, hown, hts⟩ (m_in l D tC tE H.size a1 0 (-1)) (va_cwS 3 hts gX13_isStyle_X13_in rfl rfl rfl (by decide +kernel) ⟨(Nat.le_of_ble_eq_true rfl), (Nat.le_of_ble_eq_true rfl)⟩) ⟨pg_blind, (pg_pre hP hD hK hG hS hFc [] rfl (by decide) [] rfl _)⟩ rfl rfl hl.1 rfl (lv_room (Nat.le_of_ble_eq_true rfl)) dX13_isStyle_13 ⟨(Nat.le_of_ble_eq_true rfl), (Nat.le_of_ble_eq_true rfl)⟩) hS (fun q _ h => hFc q h) hFc (fun r_3 u_4 t H locs ht hvm hw hB hz1 hk1 hS => ?_)
  obtain ⟨hP, hD, hK⟩ := jn (wr := [(mm, .inr (17, [.int co, .int no, .ref l0, .ref la, .ref l1, .ref l2, .ref l3, .ref sk, .ref ab, .ref bu, .ref cu, .ref sd, .ref l4])), (l1, .inr (3, [.int 0, .ref tE, .int 0]))]) (w1 := []) (t1 := []) (tr := []) hP hD hK [] [0, 1] rfl rfl (by decide) (by decide) [] rfl hk1 hFc hB rfl rfl ht hvm
  have hP : va_P D vwCl [(mm, .inr (17, [.int co, .int no, .ref l0, .ref la, .ref l1, .ref l2, .ref l3, .ref sk, .ref ab, .ref bu, .ref cu, .ref sd, .ref l4])), (l1, .inr (3, [.int 0, .ref tE, .int 0]))] H := hP
  have hD : va_D A [(mm, .inr (17, [.int co, .int no, .ref l0, .ref la, .ref l1, .ref l2, .ref l3, .ref sk, .ref ab, .ref bu, .ref cu, .ref sd, .ref l4])), (l1, .inr (3, [.int 0, .ref tE, .int 0]))] := hD
  have hK : va_K D vwCl [] s := hK
  refine W.widen (k := 0) (n := 0) (Nat.le_of_ble_eq_true rfl) (Nat.le_of_ble_eq_true rfl) ?_
  rcases hw with ⟨q_6, h_5⟩ | ⟨q_6, h_5⟩
  · exact absurd h_5 (by rw [rg_empty]; decide)
  · subst q_6
    have hP9 := hP.sub (ws' := [(mm, .inr (17, [.int co, .int no, .ref l0, .ref la, .ref l1, .ref l2, .ref l3, .ref sk, .ref ab, .ref bu, .ref cu, .ref sd, .ref l4])), (l1, .inr (3, [.int 0, .ref tE, .int 0]))]) [0, 1] rfl
    have hD9 := hD.sub (ws' := [(mm, .inr (17, [.int co, .int no, .ref l0, .ref la, .ref l1, .ref l2, .ref l3, .ref sk, .ref ab, .ref bu, .ref cu, .ref sd, .ref l4])), (l1, .inr (3, [.int 0, .ref tE, .int 0]))]) [0, 1] (by decide) rfl
    have hK9 := hK.sub (tys' := []) [] rfl
    exact end_z hx hb hr hlocks (by decide) hP9 hD9 hK9 hS () rfl rfl rfl (Nat.le_of_ble_eq_true rfl) (Nat.le_of_ble_eq_true rfl) dX13_isStyle_16
set_option maxHeartbeats 4000000 in
set_option maxRecDepth 100000 in
/-- isHide on a fresh object -/
theorem m_isHide (l : Launch) (D : va_G) (tC tE sz : Nat) (mm l0 l1 l2 l3 l4 la sk ab bu cu sd : Nat) (co no : Int32) (a1 : Int32) : Met l yX13_isHide wsX13_isHide ({ frames := 1, cells := 0, slots := 0, locals := 22 }) (Pg D tC tE sz [(mm, .inr (17, [.int co, .int no, .ref l0, .ref la, .ref l1, .ref l2, .ref l3, .ref sk, .ref ab, .ref bu, .ref cu, .ref sd, .ref l4])), (l2, .inr (3, [.int 0, .ref tE, .int 0]))] [] [.ref mm, .int a1]) (Qgi (S := Unit) D (fun u => [(mm, .inr (17, [.int co, .int no, .ref l0, .ref la, .ref l1, .ref l2, .ref l3, .ref sk, .ref ab, .ref bu, .ref cu, .ref sd, .ref l4])), (l2, .inr (3, [.int 0, .ref tE, .int 0]))]) (fun u => []) (fun r _ => r = 0) (va_A [(mm, .inr (17, [.int co, .int no, .ref l0, .ref la, .ref l1, .ref l2, .ref l3, .ref sk, .ref ab, .ref bu, .ref cu, .ref sd, .ref l4])), (l2, .inr (3, [.int 0, .ref tE, .int 0]))] sz)) 0 0 (va_A [(mm, .inr (17, [.int co, .int no, .ref l0, .ref la, .ref l1, .ref l2, .ref l3, .ref sk, .ref ab, .ref bu, .ref cu, .ref sd, .ref l4])), (l2, .inr (3, [.int 0, .ref tE, .int 0]))] sz) := by
  refine og_m (cc := cX13_isHide) (maxL := 2) (ret := (some .boolean)) (Qc := Qgi (S := Unit) D (fun u => [(mm, .inr (17, [.int co, .int no, .ref l0, .ref la, .ref l1, .ref l2, .ref l3, .ref sk, .ref ab, .ref bu, .ref cu, .ref sd, .ref l4])), (l2, .inr (3, [.int 0, .ref tE, .int 0]))]) (fun u => []) (fun r _ => r = 0)) (by decide) rfl (Nat.le_of_ble_eq_true rfl) ?_
  intro p e s m below meth c A hx hb hr hml hts hown hlocks hin hP hD hK hG hA hS ls hl
  have hl : lv_has ls 2 [(0, .ref mm), (1, .int a1)] := hl
  refine lv_iload_n hx hb dX13_isHide_0 rfl (lv_at hl 1 rfl) ?_
  refine lv_iconst (v := 0) hx hb dX13_isHide_1 (by decide) ?_
  refine lv_aload_n hx hb dX13_isHide_2 rfl (lv_at hl 0 rfl) ?_
  refine va_get (D := D) (ci := 17) (v := .ref l2) (C := RX13) (T := TX13) (N := 13) hx hb hts (fun w h => List.mem_cons_of_mem _ (List.mem_append_left _ (List.mem_append_right _ h))) hown hK hP 0 rfl rfl 5 (by decide) (hts (.fieldLink RX13 23 "LastroomModel" "hides" "Ljava/util/List;") (List.mem_of_getElem? (i := 1) rfl)) (fun _ h9 => h9) rfl dX13_isHide_3 ?_
  have hFc := va_free (wc := [(l2, .inr (3, [.int 0, .ref tE, .int 0]))]) hD hS hA [1] rfl
  refine va_callFi (va_runF (As := []) (rest := [.int 0, .int a1]) (hK.1 3 _ rfl).2 ⟨hx, hb, hml, hown, hts⟩ (c_size l D tC tE s.heap.size l2 0 0 tE) (va_cwF 0 hts gX13_isHide_Jx4a65c_size_8abf5_f84Jx4a65c rfl rfl rfl (hG.2.2.2.2.2.2.2.2.1 _ (List.mem_of_getElem? (i := 0) rfl)) (by decide +kernel) ⟨(Nat.le_of_ble_eq_true rfl), (Nat.le_of_ble_eq_true rfl)⟩) ⟨pg_blind, (va_recv hK hP (ci := 3) (q0 := 1) rfl rfl), (pg_pre hP hD hK hG hS hFc [1] rfl (by decide) [] rfl _)⟩ rfl rfl hl.1 rfl (lv_room (Nat.le_of_ble_eq_true rfl)) dX13_isHide_6 ⟨(Nat.le_of_ble_eq_true rfl), (Nat.le_of_ble_eq_true rfl)⟩) hS (fun q _ h => hFc q h) hFc (fun r_1 u_2 t H locs ht hvm hw hB hz1 hk1 hS => ?_)
  subst hw
  obtain ⟨hP, hD, hK⟩ := jn (wr := [(mm, .inr (17, [.int co, .int no, .ref l0, .ref la, .ref l1, .ref l2, .ref l3, .ref sk, .ref ab, .ref bu, .ref cu, .ref sd, .ref l4]))]) (w1 := [(l2, .inr (3, [.int 0, .ref tE, .int 0]))]) (t1 := []) (tr := []) hP hD hK [1] [0] rfl rfl (by decide) (by decide) [] rfl hk1 hFc hB rfl rfl ht hvm
  have hP : va_P D vwCl [(mm, .inr (17, [.int co, .int no, .ref l0, .ref la, .ref l1, .ref l2, .ref l3, .ref sk, .ref ab, .ref bu, .ref cu, .ref sd, .ref l4])), (l2, .inr (3, [.int 0, .ref tE, .int 0]))] H := hP
  have hD : va_D A [(mm, .inr (17, [.int co, .int no, .ref l0, .ref la, .ref l1, .ref l2, .ref l3, .ref sk, .ref ab, .ref bu, .ref cu, .ref sd, .ref l4])), (l2, .inr (3, [.int 0, .ref tE, .int 0]))] := hD
  have hK : va_K D vwCl [] s := hK
  refine W.widen (k := 0) (n := 0) (Nat.le_of_ble_eq_true rfl) (Nat.le_of_ble_eq_true rfl) ?_
  refine lv_iconst (v := 1) hx hb dX13_isHide_11 (by decide) ?_
  refine lv_isub hx hb dX13_isHide_12 ?_
  refine lv_topi (fun y hy => ?_)
  rw [show (0 : Int32) - (1 : Int32) = (-1) by decide] at hy
  subst hy
  have hFc := va_free (wc := []) hD hS hA [] rfl
  refine va_calli (va_runS (As := [.int a1, .int 0, .int (-1)]) (rest := []) ⟨hx, hb, hml, hown, hts⟩ (m_in l D tC tE H.size a1 0 (-1)) (va_cwS 3 hts gX13_isHide_X13_in rfl rfl rfl (by decide +kernel) ⟨(Nat.le_of_ble_eq_true rfl), (Nat.le_of_ble_eq_true rfl)⟩) ⟨pg_blind, (pg_pre hP hD hK hG hS hFc [] rfl (by decide) [] rfl _)⟩ rfl rfl hl.1 rfl (lv_room (Nat.le_of_ble_eq_true rfl)) dX13_isHide_13 ⟨(Nat.le_of_ble_eq_true rfl), (Nat.le_of_ble_eq_true rfl)⟩) hS (fun q _ h => hFc q h) hFc (fun r_3 u_4 t H locs ht hvm hw hB hz1 hk1 hS => ?_)
  obtain ⟨hP, hD, hK⟩ := jn (wr := [(mm, .inr (17, [.int co, .int no, .ref l0, .ref la, .ref l1, .ref l2, .ref l3, .ref sk, .ref ab, .ref bu, .ref cu, .ref sd, .ref l4])), (l2, .inr (3, [.int 0, .ref tE, .int 0]))]) (w1 := []) (t1 := []) (tr := []) hP hD hK [] [0, 1] rfl rfl (by decide) (by decide) [] rfl hk1 hFc hB rfl rfl ht hvm
  have hP : va_P D vwCl [(mm, .inr (17, [.int co, .int no, .ref l0, .ref la, .ref l1, .ref l2, .ref l3, .ref sk, .ref ab, .ref bu, .ref cu, .ref sd, .ref l4])), (l2, .inr (3, [.int 0, .ref tE, .int 0]))] H := hP
  have hD : va_D A [(mm, .inr (17, [.int co, .int no, .ref l0, .ref la, .ref l1, .ref l2, .ref l3, .ref sk, .ref ab, .ref bu, .ref cu, .ref sd, .ref l4])), (l2, .inr (3, [.int 0, .ref tE, .int 0]))] := hD
  have hK : va_K D vwCl [] s := hK
  refine W.widen (k := 0) (n := 0) (Nat.le_of_ble_eq_true rfl) (Nat.le_of_ble_eq_true rfl) ?_
  rcases hw with ⟨q_6, h_5⟩ | ⟨q_6, h_5⟩
  · exact absurd h_5 (by rw [rg_empty]; decide)
  · subst q_6
    have hP9 := hP.sub (ws' := [(mm, .inr (17, [.int co, .int no, .ref l0, .ref la, .ref l1, .ref l2, .ref l3, .ref sk, .ref ab, .ref bu, .ref cu, .ref sd, .ref l4])), (l2, .inr (3, [.int 0, .ref tE, .int 0]))]) [0, 1] rfl
    have hD9 := hD.sub (ws' := [(mm, .inr (17, [.int co, .int no, .ref l0, .ref la, .ref l1, .ref l2, .ref l3, .ref sk, .ref ab, .ref bu, .ref cu, .ref sd, .ref l4])), (l2, .inr (3, [.int 0, .ref tE, .int 0]))]) [0, 1] (by decide) rfl
    have hK9 := hK.sub (tys' := []) [] rfl
    exact end_z hx hb hr hlocks (by decide) hP9 hD9 hK9 hS () rfl rfl rfl (Nat.le_of_ble_eq_true rfl) (Nat.le_of_ble_eq_true rfl) dX13_isHide_16
set_option maxHeartbeats 4000000 in
set_option maxRecDepth 100000 in
/-- isTicket on a fresh object -/
theorem m_isTicket (l : Launch) (D : va_G) (tC tE sz : Nat) (mm l0 l1 l2 l3 l4 la sk ab bu cu sd : Nat) (co no : Int32) (a1 : Int32) : Met l yX13_isTicket wsX13_isTicket ({ frames := 1, cells := 0, slots := 0, locals := 22 }) (Pg D tC tE sz [(mm, .inr (17, [.int co, .int no, .ref l0, .ref la, .ref l1, .ref l2, .ref l3, .ref sk, .ref ab, .ref bu, .ref cu, .ref sd, .ref l4])), (l3, .inr (3, [.int 0, .ref tE, .int 0]))] [] [.ref mm, .int a1]) (Qgi (S := Unit) D (fun u => [(mm, .inr (17, [.int co, .int no, .ref l0, .ref la, .ref l1, .ref l2, .ref l3, .ref sk, .ref ab, .ref bu, .ref cu, .ref sd, .ref l4])), (l3, .inr (3, [.int 0, .ref tE, .int 0]))]) (fun u => []) (fun r _ => r = 0) (va_A [(mm, .inr (17, [.int co, .int no, .ref l0, .ref la, .ref l1, .ref l2, .ref l3, .ref sk, .ref ab, .ref bu, .ref cu, .ref sd, .ref l4])), (l3, .inr (3, [.int 0, .ref tE, .int 0]))] sz)) 0 0 (va_A [(mm, .inr (17, [.int co, .int no, .ref l0, .ref la, .ref l1, .ref l2, .ref l3, .ref sk, .ref ab, .ref bu, .ref cu, .ref sd, .ref l4])), (l3, .inr (3, [.int 0, .ref tE, .int 0]))] sz) := by
  refine og_m (cc := cX13_isTicket) (maxL := 2) (ret := (some .boolean)) (Qc := Qgi (S := Unit) D (fun u => [(mm, .inr (17, [.int co, .int no, .ref l0, .ref la, .ref l1, .ref l2, .ref l3, .ref sk, .ref ab, .ref bu, .ref cu, .ref sd, .ref l4])), (l3, .inr (3, [.int 0, .ref tE, .int 0]))]) (fun u => []) (fun r _ => r = 0)) (by decide) rfl (Nat.le_of_ble_eq_true rfl) ?_
  intro p e s m below meth c A hx hb hr hml hts hown hlocks hin hP hD hK hG hA hS ls hl
  have hl : lv_has ls 2 [(0, .ref mm), (1, .int a1)] := hl
  refine lv_iload_n hx hb dX13_isTicket_0 rfl (lv_at hl 1 rfl) ?_
  refine lv_iconst (v := 0) hx hb dX13_isTicket_1 (by decide) ?_
  refine lv_aload_n hx hb dX13_isTicket_2 rfl (lv_at hl 0 rfl) ?_
  refine va_get (D := D) (ci := 17) (v := .ref l3) (C := RX13) (T := TX13) (N := 13) hx hb hts (fun w h => List.mem_cons_of_mem _ (List.mem_append_left _ (List.mem_append_right _ h))) hown hK hP 0 rfl rfl 6 (by decide) (hts (.fieldLink RX13 26 "LastroomModel" "tickets" "Ljava/util/List;") (List.mem_of_getElem? (i := 1) rfl)) (fun _ h9 => h9) rfl dX13_isTicket_3 ?_
  have hFc := va_free (wc := [(l3, .inr (3, [.int 0, .ref tE, .int 0]))]) hD hS hA [1] rfl
  refine va_callFi (va_runF (As := []) (rest := [.int 0, .int a1]) (hK.1 3 _ rfl).2 ⟨hx, hb, hml, hown, hts⟩ (c_size l D tC tE s.heap.size l3 0 0 tE) (va_cwF 0 hts gX13_isTicket_Jx4a65c_size_8abf5_f84Jx4a65c rfl rfl rfl (hG.2.2.2.2.2.2.2.2.1 _ (List.mem_of_getElem? (i := 0) rfl)) (by decide +kernel) ⟨(Nat.le_of_ble_eq_true rfl), (Nat.le_of_ble_eq_true rfl)⟩) ⟨pg_blind, (va_recv hK hP (ci := 3) (q0 := 1) rfl rfl), (pg_pre hP hD hK hG hS hFc [1] rfl (by decide) [] rfl _)⟩ rfl rfl hl.1 rfl (lv_room (Nat.le_of_ble_eq_true rfl)) dX13_isTicket_6 ⟨(Nat.le_of_ble_eq_true rfl), (Nat.le_of_ble_eq_true rfl)⟩) hS (fun q _ h => hFc q h) hFc (fun r_1 u_2 t H locs ht hvm hw hB hz1 hk1 hS => ?_)
  subst hw
  obtain ⟨hP, hD, hK⟩ := jn (wr := [(mm, .inr (17, [.int co, .int no, .ref l0, .ref la, .ref l1, .ref l2, .ref l3, .ref sk, .ref ab, .ref bu, .ref cu, .ref sd, .ref l4]))]) (w1 := [(l3, .inr (3, [.int 0, .ref tE, .int 0]))]) (t1 := []) (tr := []) hP hD hK [1] [0] rfl rfl (by decide) (by decide) [] rfl hk1 hFc hB rfl rfl ht hvm
  have hP : va_P D vwCl [(mm, .inr (17, [.int co, .int no, .ref l0, .ref la, .ref l1, .ref l2, .ref l3, .ref sk, .ref ab, .ref bu, .ref cu, .ref sd, .ref l4])), (l3, .inr (3, [.int 0, .ref tE, .int 0]))] H := hP
  have hD : va_D A [(mm, .inr (17, [.int co, .int no, .ref l0, .ref la, .ref l1, .ref l2, .ref l3, .ref sk, .ref ab, .ref bu, .ref cu, .ref sd, .ref l4])), (l3, .inr (3, [.int 0, .ref tE, .int 0]))] := hD
  have hK : va_K D vwCl [] s := hK
  refine W.widen (k := 0) (n := 0) (Nat.le_of_ble_eq_true rfl) (Nat.le_of_ble_eq_true rfl) ?_
  refine lv_iconst (v := 1) hx hb dX13_isTicket_11 (by decide) ?_
  refine lv_isub hx hb dX13_isTicket_12 ?_
  refine lv_topi (fun y hy => ?_)
  rw [show (0 : Int32) - (1 : Int32) = (-1) by decide] at hy
  subst hy
  have hFc := va_free (wc := []) hD hS hA [] rfl
  refine va_calli (va_runS (As := [.int a1, .int 0, .int (-1)]) (rest := []) ⟨hx, hb, hml, hown, hts⟩ (m_in l D tC tE H.size a1 0 (-1)) (va_cwS 3 hts gX13_isTicket_X13_in rfl rfl rfl (by decide +kernel) ⟨(Nat.le_of_ble_eq_true rfl), (Nat.le_of_ble_eq_true rfl)⟩) ⟨pg_blind, (pg_pre hP hD hK hG hS hFc [] rfl (by decide) [] rfl _)⟩ rfl rfl hl.1 rfl (lv_room (Nat.le_of_ble_eq_true rfl)) dX13_isTicket_13 ⟨(Nat.le_of_ble_eq_true rfl), (Nat.le_of_ble_eq_true rfl)⟩) hS (fun q _ h => hFc q h) hFc (fun r_3 u_4 t H locs ht hvm hw hB hz1 hk1 hS => ?_)
  obtain ⟨hP, hD, hK⟩ := jn (wr := [(mm, .inr (17, [.int co, .int no, .ref l0, .ref la, .ref l1, .ref l2, .ref l3, .ref sk, .ref ab, .ref bu, .ref cu, .ref sd, .ref l4])), (l3, .inr (3, [.int 0, .ref tE, .int 0]))]) (w1 := []) (t1 := []) (tr := []) hP hD hK [] [0, 1] rfl rfl (by decide) (by decide) [] rfl hk1 hFc hB rfl rfl ht hvm
  have hP : va_P D vwCl [(mm, .inr (17, [.int co, .int no, .ref l0, .ref la, .ref l1, .ref l2, .ref l3, .ref sk, .ref ab, .ref bu, .ref cu, .ref sd, .ref l4])), (l3, .inr (3, [.int 0, .ref tE, .int 0]))] H := hP
  have hD : va_D A [(mm, .inr (17, [.int co, .int no, .ref l0, .ref la, .ref l1, .ref l2, .ref l3, .ref sk, .ref ab, .ref bu, .ref cu, .ref sd, .ref l4])), (l3, .inr (3, [.int 0, .ref tE, .int 0]))] := hD
  have hK : va_K D vwCl [] s := hK
  refine W.widen (k := 0) (n := 0) (Nat.le_of_ble_eq_true rfl) (Nat.le_of_ble_eq_true rfl) ?_
  rcases hw with ⟨q_6, h_5⟩ | ⟨q_6, h_5⟩
  · exact absurd h_5 (by rw [rg_empty]; decide)
  · subst q_6
    have hP9 := hP.sub (ws' := [(mm, .inr (17, [.int co, .int no, .ref l0, .ref la, .ref l1, .ref l2, .ref l3, .ref sk, .ref ab, .ref bu, .ref cu, .ref sd, .ref l4])), (l3, .inr (3, [.int 0, .ref tE, .int 0]))]) [0, 1] rfl
    have hD9 := hD.sub (ws' := [(mm, .inr (17, [.int co, .int no, .ref l0, .ref la, .ref l1, .ref l2, .ref l3, .ref sk, .ref ab, .ref bu, .ref cu, .ref sd, .ref l4])), (l3, .inr (3, [.int 0, .ref tE, .int 0]))]) [0, 1] (by decide) rfl
    have hK9 := hK.sub (tys' := []) [] rfl
    exact end_z hx hb hr hlocks (by decide) hP9 hD9 hK9 hS () rfl rfl rfl (Nat.le_of_ble_eq_true rfl) (Nat.le_of_ble_eq_true rfl) dX13_isTicket_16
set_option maxHeartbeats 4000000 in
set_option maxRecDepth 100000 in
/-- isPiece on a fresh object -/
theorem m_isPiece (l : Launch) (D : va_G) (tC tE sz : Nat) (mm l0 l1 l2 l3 l4 la sk ab bu cu sd : Nat) (co no : Int32) (a1 a2 : Int32) : Met l yX13_isPiece wsX13_isPiece ({ frames := 2, cells := 0, slots := 0, locals := 43 }) (Pg D tC tE sz [(mm, .inr (17, [.int co, .int no, .ref l0, .ref la, .ref l1, .ref l2, .ref l3, .ref sk, .ref ab, .ref bu, .ref cu, .ref sd, .ref l4])), (l3, .inr (3, [.int 0, .ref tE, .int 0]))] [] [.ref mm, .int a1, .int a2]) (Qgi (S := Unit) D (fun u => [(mm, .inr (17, [.int co, .int no, .ref l0, .ref la, .ref l1, .ref l2, .ref l3, .ref sk, .ref ab, .ref bu, .ref cu, .ref sd, .ref l4])), (l3, .inr (3, [.int 0, .ref tE, .int 0]))]) (fun u => []) (fun r _ => r = 0) (va_A [(mm, .inr (17, [.int co, .int no, .ref l0, .ref la, .ref l1, .ref l2, .ref l3, .ref sk, .ref ab, .ref bu, .ref cu, .ref sd, .ref l4])), (l3, .inr (3, [.int 0, .ref tE, .int 0]))] sz)) 0 0 (va_A [(mm, .inr (17, [.int co, .int no, .ref l0, .ref la, .ref l1, .ref l2, .ref l3, .ref sk, .ref ab, .ref bu, .ref cu, .ref sd, .ref l4])), (l3, .inr (3, [.int 0, .ref tE, .int 0]))] sz) := by
  refine og_m (cc := cX13_isPiece) (maxL := 3) (ret := (some .boolean)) (Qc := Qgi (S := Unit) D (fun u => [(mm, .inr (17, [.int co, .int no, .ref l0, .ref la, .ref l1, .ref l2, .ref l3, .ref sk, .ref ab, .ref bu, .ref cu, .ref sd, .ref l4])), (l3, .inr (3, [.int 0, .ref tE, .int 0]))]) (fun u => []) (fun r _ => r = 0)) (by decide) rfl (Nat.le_of_ble_eq_true rfl) ?_
  intro p e s m below meth c A hx hb hr hml hts hown hlocks hin hP hD hK hG hA hS ls hl
  have hl : lv_has ls 3 [(0, .ref mm), (1, .int a1), (2, .int a2)] := hl
  refine lv_aload_n hx hb dX13_isPiece_0 rfl (lv_at hl 0 rfl) ?_
  refine lv_iload_n hx hb dX13_isPiece_1 rfl (lv_at hl 1 rfl) ?_
  have hFc := va_free (wc := [(mm, .inr (17, [.int co, .int no, .ref l0, .ref la, .ref l1, .ref l2, .ref l3, .ref sk, .ref ab, .ref bu, .ref cu, .ref sd, .ref l4])), (l3, .inr (3, [.int 0, .ref tE, .int 0]))]) hD hS hA [0, 1] rfl
  refine va_calli (va_runV (As := [.int a1]) (rest := []) ⟨hx, hb, hml, hown, hts⟩ (m_isTicket l D tC tE s.heap.size mm l0 l1 l2 l3 l4 la sk ab bu cu sd co no a1) (cwV 1 hts gX13_isPiece_X13_isTicket rfl rfl rfl (by decide +kernel) ⟨(Nat.le_of_ble_eq_true rfl), (Nat.le_of_ble_eq_true rfl)⟩) ⟨pg_blind, (va_recv hK hP (ci := 17) (q0 := 0) rfl rfl), (pg_pre hP hD hK hG hS hFc [0, 1] rfl (by decide) [] rfl _)⟩ rfl rfl hl.1 rfl (lv_room (Nat.le_of_ble_eq_true rfl)) dX13_isPiece_2 ⟨(Nat.le_of_ble_eq_true rfl), (Nat.le_of_ble_eq_true rfl)⟩) hS (fun q _ h => hFc q h) hFc (fun r_1 u_2 t H locs ht hvm hw hB hz1 hk1 hS => ?_)
  subst hw
  obtain ⟨hP, hD, hK⟩ := jn (wr := []) (w1 := [(mm, .inr (17, [.int co, .int no, .ref l0, .ref la, .ref l1, .ref l2, .ref l3, .ref sk, .ref ab, .ref bu, .ref cu, .ref sd, .ref l4])), (l3, .inr (3, [.int 0, .ref tE, .int 0]))]) (t1 := []) (tr := []) hP hD hK [0, 1] [] rfl rfl (by decide) (by decide) [] rfl hk1 hFc hB rfl rfl ht hvm
  have hP : va_P D vwCl [(mm, .inr (17, [.int co, .int no, .ref l0, .ref la, .ref l1, .ref l2, .ref l3, .ref sk, .ref ab, .ref bu, .ref cu, .ref sd, .ref l4])), (l3, .inr (3, [.int 0, .ref tE, .int 0]))] H := hP
  have hD : va_D A [(mm, .inr (17, [.int co, .int no, .ref l0, .ref la, .ref l1, .ref l2, .ref l3, .ref sk, .ref ab, .ref bu, .ref cu, .ref sd, .ref l4])), (l3, .inr (3, [.int 0, .ref tE, .int 0]))] := hD
  have hK : va_K D vwCl [] s := hK
  refine W.widen (k := 0) (n := 0) (Nat.le_of_ble_eq_true rfl) (Nat.le_of_ble_eq_true rfl) ?_
  refine lv_if_eq (tgt := 46) hx hb dX13_isPiece_5 (by decide) (fun c_3 => ?_) (fun c_3 => absurd (show (0 : Int32) = 0 from (by decide)) c_3)
  refine lv_iconst (v := 0) hx hb dX13_isPiece_46 (by decide) ?_
  have hP9 := hP.sub (ws' := [(mm, .inr (17, [.int co, .int no, .ref l0, .ref la, .ref l1, .ref l2, .ref l3, .ref sk, .ref ab, .ref bu, .ref cu, .ref sd, .ref l4])), (l3, .inr (3, [.int 0, .ref tE, .int 0]))]) [0, 1] rfl
  have hD9 := hD.sub (ws' := [(mm, .inr (17, [.int co, .int no, .ref l0, .ref la, .ref l1, .ref l2, .ref l3, .ref sk, .ref ab, .ref bu, .ref cu, .ref sd, .ref l4])), (l3, .inr (3, [.int 0, .ref tE, .int 0]))]) [0, 1] (by decide) rfl
  have hK9 := hK.sub (tys' := []) [] rfl
  exact end_z hx hb hr hlocks (by decide) hP9 hD9 hK9 hS () rfl rfl rfl (Nat.le_of_ble_eq_true rfl) (Nat.le_of_ble_eq_true rfl) dX13_isPiece_47
set_option maxHeartbeats 4000000 in
set_option maxRecDepth 100000 in
/-- isSeam on a fresh object -/
theorem m_isSeam (l : Launch) (D : va_G) (tC tE sz : Nat) (mm l0 l1 l2 l3 l4 la sk ab bu cu sd : Nat) (co no : Int32) (a1 a2 : Int32) : Met l yX13_isSeam wsX13_isSeam ({ frames := 2, cells := 0, slots := 0, locals := 43 }) (Pg D tC tE sz [(mm, .inr (17, [.int co, .int no, .ref l0, .ref la, .ref l1, .ref l2, .ref l3, .ref sk, .ref ab, .ref bu, .ref cu, .ref sd, .ref l4])), (l3, .inr (3, [.int 0, .ref tE, .int 0]))] [] [.ref mm, .int a1, .int a2]) (Qgi (S := Unit) D (fun u => [(mm, .inr (17, [.int co, .int no, .ref l0, .ref la, .ref l1, .ref l2, .ref l3, .ref sk, .ref ab, .ref bu, .ref cu, .ref sd, .ref l4])), (l3, .inr (3, [.int 0, .ref tE, .int 0]))]) (fun u => []) (fun r _ => r = 0) (va_A [(mm, .inr (17, [.int co, .int no, .ref l0, .ref la, .ref l1, .ref l2, .ref l3, .ref sk, .ref ab, .ref bu, .ref cu, .ref sd, .ref l4])), (l3, .inr (3, [.int 0, .ref tE, .int 0]))] sz)) 0 0 (va_A [(mm, .inr (17, [.int co, .int no, .ref l0, .ref la, .ref l1, .ref l2, .ref l3, .ref sk, .ref ab, .ref bu, .ref cu, .ref sd, .ref l4])), (l3, .inr (3, [.int 0, .ref tE, .int 0]))] sz) := by
  refine og_m (cc := cX13_isSeam) (maxL := 3) (ret := (some .boolean)) (Qc := Qgi (S := Unit) D (fun u => [(mm, .inr (17, [.int co, .int no, .ref l0, .ref la, .ref l1, .ref l2, .ref l3, .ref sk, .ref ab, .ref bu, .ref cu, .ref sd, .ref l4])), (l3, .inr (3, [.int 0, .ref tE, .int 0]))]) (fun u => []) (fun r _ => r = 0)) (by decide) rfl (Nat.le_of_ble_eq_true rfl) ?_
  intro p e s m below meth c A hx hb hr hml hts hown hlocks hin hP hD hK hG hA hS ls hl
  have hl : lv_has ls 3 [(0, .ref mm), (1, .int a1), (2, .int a2)] := hl
  refine lv_aload_n hx hb dX13_isSeam_0 rfl (lv_at hl 0 rfl) ?_
  refine lv_iload_n hx hb dX13_isSeam_1 rfl (lv_at hl 1 rfl) ?_
  have hFc := va_free (wc := [(mm, .inr (17, [.int co, .int no, .ref l0, .ref la, .ref l1, .ref l2, .ref l3, .ref sk, .ref ab, .ref bu, .ref cu, .ref sd, .ref l4])), (l3, .inr (3, [.int 0, .ref tE, .int 0]))]) hD hS hA [0, 1] rfl
  refine va_calli (va_runV (As := [.int a1]) (rest := []) ⟨hx, hb, hml, hown, hts⟩ (m_isTicket l D tC tE s.heap.size mm l0 l1 l2 l3 l4 la sk ab bu cu sd co no a1) (cwV 1 hts gX13_isSeam_X13_isTicket rfl rfl rfl (by decide +kernel) ⟨(Nat.le_of_ble_eq_true rfl), (Nat.le_of_ble_eq_true rfl)⟩) ⟨pg_blind, (va_recv hK hP (ci := 17) (q0 := 0) rfl rfl), (pg_pre hP hD hK hG hS hFc [0, 1] rfl (by decide) [] rfl _)⟩ rfl rfl hl.1 rfl (lv_room (Nat.le_of_ble_eq_true rfl)) dX13_isSeam_2 ⟨(Nat.le_of_ble_eq_true rfl), (Nat.le_of_ble_eq_true rfl)⟩) hS (fun q _ h => hFc q h) hFc (fun r_1 u_2 t H locs ht hvm hw hB hz1 hk1 hS => ?_)
  subst hw
  obtain ⟨hP, hD, hK⟩ := jn (wr := []) (w1 := [(mm, .inr (17, [.int co, .int no, .ref l0, .ref la, .ref l1, .ref l2, .ref l3, .ref sk, .ref ab, .ref bu, .ref cu, .ref sd, .ref l4])), (l3, .inr (3, [.int 0, .ref tE, .int 0]))]) (t1 := []) (tr := []) hP hD hK [0, 1] [] rfl rfl (by decide) (by decide) [] rfl hk1 hFc hB rfl rfl ht hvm
  have hP : va_P D vwCl [(mm, .inr (17, [.int co, .int no, .ref l0, .ref la, .ref l1, .ref l2, .ref l3, .ref sk, .ref ab, .ref bu, .ref cu, .ref sd, .ref l4])), (l3, .inr (3, [.int 0, .ref tE, .int 0]))] H := hP
  have hD : va_D A [(mm, .inr (17, [.int co, .int no, .ref l0, .ref la, .ref l1, .ref l2, .ref l3, .ref sk, .ref ab, .ref bu, .ref cu, .ref sd, .ref l4])), (l3, .inr (3, [.int 0, .ref tE, .int 0]))] := hD
  have hK : va_K D vwCl [] s := hK
  refine W.widen (k := 0) (n := 0) (Nat.le_of_ble_eq_true rfl) (Nat.le_of_ble_eq_true rfl) ?_
  refine lv_if_eq (tgt := 46) hx hb dX13_isSeam_5 (by decide) (fun c_3 => ?_) (fun c_3 => absurd (show (0 : Int32) = 0 from (by decide)) c_3)
  refine lv_iconst (v := 0) hx hb dX13_isSeam_46 (by decide) ?_
  have hP9 := hP.sub (ws' := [(mm, .inr (17, [.int co, .int no, .ref l0, .ref la, .ref l1, .ref l2, .ref l3, .ref sk, .ref ab, .ref bu, .ref cu, .ref sd, .ref l4])), (l3, .inr (3, [.int 0, .ref tE, .int 0]))]) [0, 1] rfl
  have hD9 := hD.sub (ws' := [(mm, .inr (17, [.int co, .int no, .ref l0, .ref la, .ref l1, .ref l2, .ref l3, .ref sk, .ref ab, .ref bu, .ref cu, .ref sd, .ref l4])), (l3, .inr (3, [.int 0, .ref tE, .int 0]))]) [0, 1] (by decide) rfl
  have hK9 := hK.sub (tys' := []) [] rfl
  exact end_z hx hb hr hlocks (by decide) hP9 hD9 hK9 hS () rfl rfl rfl (Nat.le_of_ble_eq_true rfl) (Nat.le_of_ble_eq_true rfl) dX13_isSeam_47
set_option maxHeartbeats 4000000 in
set_option maxRecDepth 100000 in
/-- isLast on a fresh object -/
theorem m_isLast (l : Launch) (D : va_G) (tC tE sz : Nat) (mm l0 l1 l2 l3 l4 la sk ab bu cu sd : Nat) (co no : Int32) (a1 a2 : Int32) : Met l yX13_isLast wsX13_isLast ({ frames := 2, cells := 0, slots := 0, locals := 43 }) (Pg D tC tE sz [(mm, .inr (17, [.int co, .int no, .ref l0, .ref la, .ref l1, .ref l2, .ref l3, .ref sk, .ref ab, .ref bu, .ref cu, .ref sd, .ref l4])), (l0, .inr (3, [.int 0, .ref tE, .int 0]))] [] [.ref mm, .int a1, .int a2]) (Qgi (S := Unit) D (fun u => [(mm, .inr (17, [.int 1, .int no, .ref l0, .ref la, .ref l1, .ref l2, .ref l3, .ref sk, .ref ab, .ref bu, .ref cu, .ref sd, .ref l4])), (l0, .inr (3, [.int 0, .ref tE, .int 0]))]) (fun u => []) (fun r _ => r = 0) (va_A [(mm, .inr (17, [.int co, .int no, .ref l0, .ref la, .ref l1, .ref l2, .ref l3, .ref sk, .ref ab, .ref bu, .ref cu, .ref sd, .ref l4])), (l0, .inr (3, [.int 0, .ref tE, .int 0]))] sz)) 0 0 (va_A [(mm, .inr (17, [.int co, .int no, .ref l0, .ref la, .ref l1, .ref l2, .ref l3, .ref sk, .ref ab, .ref bu, .ref cu, .ref sd, .ref l4])), (l0, .inr (3, [.int 0, .ref tE, .int 0]))] sz) := by
  refine og_m (cc := cX13_isLast) (maxL := 3) (ret := (some .boolean)) (Qc := Qgi (S := Unit) D (fun u => [(mm, .inr (17, [.int 1, .int no, .ref l0, .ref la, .ref l1, .ref l2, .ref l3, .ref sk, .ref ab, .ref bu, .ref cu, .ref sd, .ref l4])), (l0, .inr (3, [.int 0, .ref tE, .int 0]))]) (fun u => []) (fun r _ => r = 0)) (by decide) rfl (Nat.le_of_ble_eq_true rfl) ?_
  intro p e s m below meth c A hx hb hr hml hts hown hlocks hin hP hD hK hG hA hS ls hl
  have hl : lv_has ls 3 [(0, .ref mm), (1, .int a1), (2, .int a2)] := hl
  refine lv_aload_n hx hb dX13_isLast_0 rfl (lv_at hl 0 rfl) ?_
  refine lv_aload_n hx hb dX13_isLast_1 rfl (lv_at hl 0 rfl) ?_
  refine lv_iload_n hx hb dX13_isLast_2 rfl (lv_at hl 1 rfl) ?_
  have hFc := va_free (wc := [(mm, .inr (17, [.int co, .int no, .ref l0, .ref la, .ref l1, .ref l2, .ref l3, .ref sk, .ref ab, .ref bu, .ref cu, .ref sd, .ref l4])), (l0, .inr (3, [.int 0, .ref tE, .int 0]))]) hD hS hA [0, 1] rfl
  refine va_calli (va_runV (As := [.int a1]) (rest := [.ref mm]) ⟨hx, hb, hml, hown, hts⟩ (m_isModel l D tC tE s.heap.size mm l0 l1 l2 l3 l4 la sk ab bu cu sd co no a1) (cwV 1 hts gX13_isLast_X13_isModel rfl rfl rfl (by decide +kernel) ⟨(Nat.le_of_ble_eq_true rfl), (Nat.le_of_ble_eq_true rfl)⟩) ⟨pg_blind, (va_recv hK hP (ci := 17) (q0 := 0) rfl rfl), (pg_pre hP hD hK hG hS hFc [0, 1] rfl (by decide) [] rfl _)⟩ rfl rfl hl.1 rfl (lv_room (Nat.le_of_ble_eq_true rfl)) dX13_isLast_3 ⟨(Nat.le_of_ble_eq_true rfl), (Nat.le_of_ble_eq_true rfl)⟩) hS (fun q _ h => hFc q h) hFc (fun r_1 u_2 t H locs ht hvm hw hB hz1 hk1 hS => ?_)
  subst hw
  obtain ⟨hP, hD, hK⟩ := jn (wr := []) (w1 := [(mm, .inr (17, [.int co, .int no, .ref l0, .ref la, .ref l1, .ref l2, .ref l3, .ref sk, .ref ab, .ref bu, .ref cu, .ref sd, .ref l4])), (l0, .inr (3, [.int 0, .ref tE, .int 0]))]) (t1 := []) (tr := []) hP hD hK [0, 1] [] rfl rfl (by decide) (by decide) [] rfl hk1 hFc hB rfl rfl ht hvm
  have hP : va_P D vwCl [(mm, .inr (17, [.int co, .int no, .ref l0, .ref la, .ref l1, .ref l2, .ref l3, .ref sk, .ref ab, .ref bu, .ref cu, .ref sd, .ref l4])), (l0, .inr (3, [.int 0, .ref tE, .int 0]))] H := hP
  have hD : va_D A [(mm, .inr (17, [.int co, .int no, .ref l0, .ref la, .ref l1, .ref l2, .ref l3, .ref sk, .ref ab, .ref bu, .ref cu, .ref sd, .ref l4])), (l0, .inr (3, [.int 0, .ref tE, .int 0]))] := hD
  have hK : va_K D vwCl [] s := hK
  refine W.widen (k := 0) (n := 0) (Nat.le_of_ble_eq_true rfl) (Nat.le_of_ble_eq_true rfl) ?_
  refine lv_if_ne (tgt := 13) hx hb dX13_isLast_6 (by decide) (fun c_3 => absurd (by decide) c_3) (fun c_3 => ?_)
  refine lv_iconst (v := 1) hx hb dX13_isLast_9 (by decide) ?_
  refine lv_goto (tgt := 29) hx hb dX13_isLast_10 (by decide) ?_
  refine va_put (D := D) (ci := 17) (v := .int 1) (ty := .int) (C := RX13) (T := TX13) (N := 13) hx hb hts (fun w h => List.mem_cons_of_mem _ (List.mem_append_left _ (List.mem_append_right _ h))) tyX13 tyX13_ok nmX13 hown hK hP hD hS 0 rfl rfl 0 (by decide) (hts (.fieldLink RX13 48 "LastroomModel" "code" "I") (List.mem_of_getElem? (i := 1) rfl)) (fun _ h9 => h9) rfl (by decide +kernel) rfl rfl (Nat.le_of_ble_eq_true rfl) dX13_isLast_29 (fun H locs hP hD hS => ?_)
  have hP : va_P D vwCl [(mm, .inr (17, [.int 1, .int no, .ref l0, .ref la, .ref l1, .ref l2, .ref l3, .ref sk, .ref ab, .ref bu, .ref cu, .ref sd, .ref l4])), (l0, .inr (3, [.int 0, .ref tE, .int 0]))] H := hP
  have hD : va_D A [(mm, .inr (17, [.int 1, .int no, .ref l0, .ref la, .ref l1, .ref l2, .ref l3, .ref sk, .ref ab, .ref bu, .ref cu, .ref sd, .ref l4])), (l0, .inr (3, [.int 0, .ref tE, .int 0]))] := hD
  refine lv_aload_n hx hb dX13_isLast_32 rfl (lv_at hl 0 rfl) ?_
  refine va_get (D := D) (ci := 17) (v := .int 1) (C := RX13) (T := TX13) (N := 13) hx hb hts (fun w h => List.mem_cons_of_mem _ (List.mem_append_left _ (List.mem_append_right _ h))) hown hK hP 0 rfl rfl 0 (by decide) (hts (.fieldLink RX13 48 "LastroomModel" "code" "I") (List.mem_of_getElem? (i := 1) rfl)) (fun _ h9 => h9) rfl dX13_isLast_33 ?_
  refine lv_if_ne (tgt := 43) hx hb dX13_isLast_36 (by decide) (fun c_4 => ?_) (fun c_4 => absurd c_4 (by decide))
  refine lv_iconst (v := 0) hx hb dX13_isLast_43 (by decide) ?_
  have hP9 := hP.sub (ws' := [(mm, .inr (17, [.int 1, .int no, .ref l0, .ref la, .ref l1, .ref l2, .ref l3, .ref sk, .ref ab, .ref bu, .ref cu, .ref sd, .ref l4])), (l0, .inr (3, [.int 0, .ref tE, .int 0]))]) [0, 1] rfl
  have hD9 := hD.sub (ws' := [(mm, .inr (17, [.int 1, .int no, .ref l0, .ref la, .ref l1, .ref l2, .ref l3, .ref sk, .ref ab, .ref bu, .ref cu, .ref sd, .ref l4])), (l0, .inr (3, [.int 0, .ref tE, .int 0]))]) [0, 1] (by decide) rfl
  have hK9 := hK.sub (tys' := []) [] rfl
  exact end_z hx hb hr hlocks (by decide) hP9 hD9 hK9 hS () rfl rfl rfl (Nat.le_of_ble_eq_true rfl) (Nat.le_of_ble_eq_true rfl) dX13_isLast_44
set_option maxHeartbeats 4000000 in
set_option maxRecDepth 100000 in
/-- many on a fresh object -/
theorem m_many (l : Launch) (D : va_G) (tC tE sz : Nat) (mm l0 l1 l2 l3 l4 la sk ab bu cu sd : Nat) (co no : Int32) (a1 a2 a3 : Int32) : Met l yX13_many wsX13_many ({ frames := 3, cells := 1, slots := 4, locals := 53 }) (Pg D tC tE sz [(mm, .inr (17, [.int co, .int no, .ref l0, .ref la, .ref l1, .ref l2, .ref l3, .ref sk, .ref ab, .ref bu, .ref cu, .ref sd, .ref l4])), (l3, .inr (3, [.int 0, .ref tE, .int 0]))] [] [.ref mm, .int a1, .int a2, .int a3]) (Qgi (S := Unit) D (fun u => [(mm, .inr (17, [.int co, .int no, .ref l0, .ref la, .ref l1, .ref l2, .ref l3, .ref sk, .ref ab, .ref bu, .ref cu, .ref sd, .ref l4])), (l3, .inr (3, [.int 0, .ref tE, .int 0]))]) (fun u => []) (fun r _ => r = 0) (va_A [(mm, .inr (17, [.int co, .int no, .ref l0, .ref la, .ref l1, .ref l2, .ref l3, .ref sk, .ref ab, .ref bu, .ref cu, .ref sd, .ref l4])), (l3, .inr (3, [.int 0, .ref tE, .int 0]))] sz)) 1 4 (va_A [(mm, .inr (17, [.int co, .int no, .ref l0, .ref la, .ref l1, .ref l2, .ref l3, .ref sk, .ref ab, .ref bu, .ref cu, .ref sd, .ref l4])), (l3, .inr (3, [.int 0, .ref tE, .int 0]))] sz) := by
  refine og_m (cc := cX13_many) (maxL := 7) (ret := (some .int)) (Qc := Qgi (S := Unit) D (fun u => [(mm, .inr (17, [.int co, .int no, .ref l0, .ref la, .ref l1, .ref l2, .ref l3, .ref sk, .ref ab, .ref bu, .ref cu, .ref sd, .ref l4])), (l3, .inr (3, [.int 0, .ref tE, .int 0]))]) (fun u => []) (fun r _ => r = 0)) (by decide) rfl (Nat.le_of_ble_eq_true rfl) ?_
  intro p e s m below meth c A hx hb hr hml hts hown hlocks hin hP hD hK hG hA hS ls hl
  have hl : lv_has ls 7 [(0, .ref mm), (1, .int a1), (2, .int a2), (3, .int a3)] := hl
  refine lv_iconst (v := 0) hx hb dX13_many_0 (by decide) ?_
  refine lv_istore (lv' := [(4, .int 0), (0, .ref mm), (1, .int a1), (2, .int a2), (3, .int a3)]) hx hb dX13_many_1 hl (by decide) rfl (fun ls hl => ?_)
  refine lv_aload_n hx hb dX13_many_3 rfl (lv_at hl 1 rfl) ?_
  refine va_get (D := D) (ci := 17) (v := .ref l3) (C := RX13) (T := TX13) (N := 13) hx hb hts (fun w h => List.mem_cons_of_mem _ (List.mem_append_left _ (List.mem_append_left _ (List.mem_append_left _ (List.mem_append_left _ (List.mem_append_right _ h)))))) hown hK hP 0 rfl rfl 6 (by decide) (hts (.fieldLink RX13 26 "LastroomModel" "tickets" "Ljava/util/List;") (List.mem_of_getElem? (i := 1) rfl)) (fun _ h9 => h9) rfl dX13_many_4 ?_
  have hFc := va_free (wc := [(l3, .inr (3, [.int 0, .ref tE, .int 0]))]) hD hS hA [1] rfl
  refine va_callFr (va_runF (As := []) (rest := []) (hK.1 3 _ rfl).2 ⟨hx, hb, hml, hown, hts⟩ (c_iterator l D tC tE s.heap.size l3) (va_cwF 0 hts gX13_many_Jx4a65c_iterator_32c93_f111Jx4a65c rfl rfl rfl (hG.2.2.2.2.2.2.2.2.1 _ (List.mem_of_getElem? (i := 2) rfl)) (by decide +kernel) ⟨(Nat.le_of_ble_eq_true rfl), (Nat.le_of_ble_eq_true rfl)⟩) ⟨pg_blind, (va_recv hK hP (ci := 3) (q0 := 1) rfl rfl), (pg_pre hP hD hK hG hS hFc [1] rfl (by decide) [] rfl _)⟩ rfl rfl hl.1 rfl (lv_room (Nat.le_of_ble_eq_true rfl)) dX13_many_7 ⟨(Nat.le_of_ble_eq_true rfl), (Nat.le_of_ble_eq_true rfl)⟩) hS (fun q _ h => hFc q h) hFc (fun u_2 r_1 t H locs ht hvm hw hB hz1 hk1 hS => ?_)
  obtain ⟨hra, hB⟩ := hB
  have hra := hra.symm
  subst hra
  obtain ⟨hP, hD, hK⟩ := jn (wr := [(mm, .inr (17, [.int co, .int no, .ref l0, .ref la, .ref l1, .ref l2, .ref l3, .ref sk, .ref ab, .ref bu, .ref cu, .ref sd, .ref l4]))]) (w1 := [(u_2, .inr (2, [.int 0, .int (-1), .int 0, .ref l3])), (l3, .inr (3, [.int 0, .ref tE, .int 0]))]) (t1 := []) (tr := []) hP hD hK [1] [0] rfl rfl (by decide) (by decide) [] rfl hk1 hFc hB rfl rfl ht hvm
  have hP : va_P D vwCl [(mm, .inr (17, [.int co, .int no, .ref l0, .ref la, .ref l1, .ref l2, .ref l3, .ref sk, .ref ab, .ref bu, .ref cu, .ref sd, .ref l4])), (u_2, .inr (2, [.int 0, .int (-1), .int 0, .ref l3])), (l3, .inr (3, [.int 0, .ref tE, .int 0]))] H := hP
  have hD : va_D A [(mm, .inr (17, [.int co, .int no, .ref l0, .ref la, .ref l1, .ref l2, .ref l3, .ref sk, .ref ab, .ref bu, .ref cu, .ref sd, .ref l4])), (u_2, .inr (2, [.int 0, .int (-1), .int 0, .ref l3])), (l3, .inr (3, [.int 0, .ref tE, .int 0]))] := hD
  have hK : va_K D vwCl [] s := hK
  refine W.widen (k := 1) (n := 4) (Nat.le_of_ble_eq_true rfl) (Nat.le_of_ble_eq_true rfl) ?_
  refine lv_astore (lv' := [(5, .ref u_2), (4, .int 0), (0, .ref mm), (1, .int a1), (2, .int a2), (3, .int a3)]) hx hb dX13_many_12 hl (by decide) rfl (fun ls hl => ?_)
  refine lv_aload hx hb dX13_many_14 (lv_at hl 0 rfl) ?_
  have hFc := va_free (wc := [(u_2, .inr (2, [.int 0, .int (-1), .int 0, .ref l3])), (l3, .inr (3, [.int 0, .ref tE, .int 0]))]) hD hS hA [1, 2] rfl
  refine va_callFi (va_runF (As := []) (rest := []) (hK.1 2 _ rfl).2 ⟨hx, hb, hml, hown, hts⟩ (c_hasNext l D tC tE H.size u_2 l3) (va_cwF 0 hts gX13_many_Jx35411_hasNext_aae02_f115Jx35411 rfl rfl rfl (hG.2.2.2.2.2.2.2.2.1 _ (List.mem_of_getElem? (i := 3) rfl)) (by decide +kernel) ⟨(Nat.le_of_ble_eq_true rfl), (Nat.le_of_ble_eq_true rfl)⟩) ⟨pg_blind, (va_recv hK hP (ci := 2) (q0 := 1) rfl rfl), (pg_pre hP hD hK hG hS hFc [1, 2] rfl (by decide) [] rfl _)⟩ rfl rfl hl.1 rfl (lv_room (Nat.le_of_ble_eq_true rfl)) dX13_many_16 ⟨(Nat.le_of_ble_eq_true rfl), (Nat.le_of_ble_eq_true rfl)⟩) hS (fun q _ h => hFc q h) hFc (fun r_3 u_4 t H locs ht hvm hw hB hz1 hk1 hS => ?_)
  subst hw
  obtain ⟨hP, hD, hK⟩ := jn (wr := [(mm, .inr (17, [.int co, .int no, .ref l0, .ref la, .ref l1, .ref l2, .ref l3, .ref sk, .ref ab, .ref bu, .ref cu, .ref sd, .ref l4]))]) (w1 := [(u_2, .inr (2, [.int 0, .int (-1), .int 0, .ref l3])), (l3, .inr (3, [.int 0, .ref tE, .int 0]))]) (t1 := []) (tr := []) hP hD hK [1, 2] [0] rfl rfl (by decide) (by decide) [] rfl hk1 hFc hB rfl rfl ht hvm
  have hP : va_P D vwCl [(mm, .inr (17, [.int co, .int no, .ref l0, .ref la, .ref l1, .ref l2, .ref l3, .ref sk, .ref ab, .ref bu, .ref cu, .ref sd, .ref l4])), (u_2, .inr (2, [.int 0, .int (-1), .int 0, .ref l3])), (l3, .inr (3, [.int 0, .ref tE, .int 0]))] H := hP
  have hD : va_D A [(mm, .inr (17, [.int co, .int no, .ref l0, .ref la, .ref l1, .ref l2, .ref l3, .ref sk, .ref ab, .ref bu, .ref cu, .ref sd, .ref l4])), (u_2, .inr (2, [.int 0, .int (-1), .int 0, .ref l3])), (l3, .inr (3, [.int 0, .ref tE, .int 0]))] := hD
  have hK : va_K D vwCl [] s := hK
  refine W.widen (k := 1) (n := 4) (Nat.le_of_ble_eq_true rfl) (Nat.le_of_ble_eq_true rfl) ?_
  refine lv_if_eq (tgt := 73) hx hb dX13_many_21 (by decide) (fun c_5 => ?_) (fun c_5 => absurd (show (0 : Int32) = 0 from (by decide)) c_5)
  refine lv_iload hx hb dX13_many_73 (lv_at hl 1 rfl) ?_
  have hP9 := hP.sub (ws' := [(mm, .inr (17, [.int co, .int no, .ref l0, .ref la, .ref l1, .ref l2, .ref l3, .ref sk, .ref ab, .ref bu, .ref cu, .ref sd, .ref l4])), (l3, .inr (3, [.int 0, .ref tE, .int 0]))]) [0, 2] rfl
  have hD9 := hD.sub (ws' := [(mm, .inr (17, [.int co, .int no, .ref l0, .ref la, .ref l1, .ref l2, .ref l3, .ref sk, .ref ab, .ref bu, .ref cu, .ref sd, .ref l4])), (l3, .inr (3, [.int 0, .ref tE, .int 0]))]) [0, 2] (by decide) rfl
  have hK9 := hK.sub (tys' := []) [] rfl
  exact end_i hx hb hr hlocks hP9 hD9 hK9 hS () rfl rfl rfl (Nat.le_of_ble_eq_true rfl) (Nat.le_of_ble_eq_true rfl) dX13_many_75
set_option maxHeartbeats 4000000 in
set_option maxRecDepth 100000 in
/-- why on a fresh object -/
theorem m_why (l : Launch) (D : va_G) (tC tE sz : Nat) (mm l0 l1 l2 l3 l4 la sk ab bu cu sd : Nat) (co no : Int32) : Met l yX13_why wsX13_why ({ frames := 4, cells := 1, slots := 4, locals := 79 }) (Pg D tC tE sz [(mm, .inr (17, [.int co, .int no, .ref l0, .ref la, .ref l1, .ref l2, .ref l3, .ref sk, .ref ab, .ref bu, .ref cu, .ref sd, .ref l4])), (l3, .inr (3, [.int 0, .ref tE, .int 0]))] [] [.ref mm]) (Qgi (S := Unit) D (fun u => [(mm, .inr (17, [.int co, .int no, .ref l0, .ref la, .ref l1, .ref l2, .ref l3, .ref sk, .ref ab, .ref bu, .ref cu, .ref sd, .ref l4])), (l3, .inr (3, [.int 0, .ref tE, .int 0]))]) (fun u => []) (fun r _ => r = (-1)) (va_A [(mm, .inr (17, [.int co, .int no, .ref l0, .ref la, .ref l1, .ref l2, .ref l3, .ref sk, .ref ab, .ref bu, .ref cu, .ref sd, .ref l4])), (l3, .inr (3, [.int 0, .ref tE, .int 0]))] sz)) 1 4 (va_A [(mm, .inr (17, [.int co, .int no, .ref l0, .ref la, .ref l1, .ref l2, .ref l3, .ref sk, .ref ab, .ref bu, .ref cu, .ref sd, .ref l4])), (l3, .inr (3, [.int 0, .ref tE, .int 0]))] sz) := by
  refine og_m (cc := cX13_why) (maxL := 7) (ret := (some .int)) (Qc := Qgi (S := Unit) D (fun u => [(mm, .inr (17, [.int co, .int no, .ref l0, .ref la, .ref l1, .ref l2, .ref l3, .ref sk, .ref ab, .ref bu, .ref cu, .ref sd, .ref l4])), (l3, .inr (3, [.int 0, .ref tE, .int 0]))]) (fun u => []) (fun r _ => r = (-1))) (by decide) rfl (Nat.le_of_ble_eq_true rfl) ?_
  intro p e s m below meth c A hx hb hr hml hts hown hlocks hin hP hD hK hG hA hS ls hl
  have hl : lv_has ls 7 [(0, .ref mm)] := hl
  refine lv_aload_n hx hb dX13_why_0 rfl (lv_at hl 0 rfl) ?_
  refine lv_bipush (v := 114) hx hb dX13_why_1 (by decide) ?_
  refine lv_iconst (v := (-1)) hx hb dX13_why_3 (by decide) ?_
  refine lv_iconst (v := 0) hx hb dX13_why_4 (by decide) ?_
  have hFc := va_free (wc := [(mm, .inr (17, [.int co, .int no, .ref l0, .ref la, .ref l1, .ref l2, .ref l3, .ref sk, .ref ab, .ref bu, .ref cu, .ref sd, .ref l4])), (l3, .inr (3, [.int 0, .ref tE, .int 0]))]) hD hS hA [0, 1] rfl
  refine va_calli (va_runV (As := [.int 114, .int (-1), .int 0]) (rest := []) ⟨hx, hb, hml, hown, hts⟩ (m_many l D tC tE s.heap.size mm l0 l1 l2 l3 l4 la sk ab bu cu sd co no 114 (-1) 0) (cwV 3 hts gX13_why_X13_many rfl rfl rfl (by decide +kernel) ⟨(Nat.le_of_ble_eq_true rfl), (Nat.le_of_ble_eq_true rfl)⟩) ⟨pg_blind, (va_recv hK hP (ci := 17) (q0 := 0) rfl rfl), (pg_pre hP hD hK hG hS hFc [0, 1] rfl (by decide) [] rfl _)⟩ rfl rfl hl.1 rfl (lv_room (Nat.le_of_ble_eq_true rfl)) dX13_why_5 ⟨(Nat.le_of_ble_eq_true rfl), (Nat.le_of_ble_eq_true rfl)⟩) hS (fun q _ h => hFc q h) hFc (fun r_1 u_2 t H locs ht hvm hw hB hz1 hk1 hS => ?_)
  subst hw
  obtain ⟨hP, hD, hK⟩ := jn (wr := []) (w1 := [(mm, .inr (17, [.int co, .int no, .ref l0, .ref la, .ref l1, .ref l2, .ref l3, .ref sk, .ref ab, .ref bu, .ref cu, .ref sd, .ref l4])), (l3, .inr (3, [.int 0, .ref tE, .int 0]))]) (t1 := []) (tr := []) hP hD hK [0, 1] [] rfl rfl (by decide) (by decide) [] rfl hk1 hFc hB rfl rfl ht hvm
  have hP : va_P D vwCl [(mm, .inr (17, [.int co, .int no, .ref l0, .ref la, .ref l1, .ref l2, .ref l3, .ref sk, .ref ab, .ref bu, .ref cu, .ref sd, .ref l4])), (l3, .inr (3, [.int 0, .ref tE, .int 0]))] H := hP
  have hD : va_D A [(mm, .inr (17, [.int co, .int no, .ref l0, .ref la, .ref l1, .ref l2, .ref l3, .ref sk, .ref ab, .ref bu, .ref cu, .ref sd, .ref l4])), (l3, .inr (3, [.int 0, .ref tE, .int 0]))] := hD
  have hK : va_K D vwCl [] s := hK
  refine W.widen (k := 1) (n := 4) (Nat.le_of_ble_eq_true rfl) (Nat.le_of_ble_eq_true rfl) ?_
  refine lv_istore_n (lv' := [(1, .int 0), (0, .ref mm)]) hx hb dX13_why_8 rfl hl (by decide) rfl (fun ls hl => ?_)
  refine lv_iconst (v := (-1)) hx hb dX13_why_9 (by decide) ?_
  refine lv_istore_n (lv' := [(2, .int (-1)), (1, .int 0), (0, .ref mm)]) hx hb dX13_why_10 rfl hl (by decide) rfl (fun ls hl => ?_)
  refine lv_iconst (v := 0) hx hb dX13_why_11 (by decide) ?_
  refine lv_istore_n (lv' := [(3, .int 0), (2, .int (-1)), (1, .int 0), (0, .ref mm)]) hx hb dX13_why_12 rfl hl (by decide) rfl (fun ls hl => ?_)
  refine lv_iload_n hx hb dX13_why_13 rfl (lv_at hl 0 rfl) ?_
  refine lv_sipush (v := 500) hx hb dX13_why_14 (by decide) ?_
  refine lv_icmp_ge (tgt := 106) hx hb dX13_why_17 (by decide) (fun c_3 => absurd c_3 (show ¬ (500 : Int32) ≤ (0 : Int32) from (by decide))) (fun c_3 => ?_)
  refine lv_iload_n hx hb dX13_why_20 rfl (lv_at hl 2 rfl) ?_
  refine lv_if_le (tgt := 106) hx hb dX13_why_21 (by decide) (fun c_4 => ?_) (fun c_4 => absurd (show (0 : Int32) ≤ 0 from (by decide)) c_4)
  refine lv_iload_n hx hb dX13_why_106 rfl (lv_at hl 1 rfl) ?_
  have hP9 := hP.sub (ws' := [(mm, .inr (17, [.int co, .int no, .ref l0, .ref la, .ref l1, .ref l2, .ref l3, .ref sk, .ref ab, .ref bu, .ref cu, .ref sd, .ref l4])), (l3, .inr (3, [.int 0, .ref tE, .int 0]))]) [0, 1] rfl
  have hD9 := hD.sub (ws' := [(mm, .inr (17, [.int co, .int no, .ref l0, .ref la, .ref l1, .ref l2, .ref l3, .ref sk, .ref ab, .ref bu, .ref cu, .ref sd, .ref l4])), (l3, .inr (3, [.int 0, .ref tE, .int 0]))]) [0, 1] (by decide) rfl
  have hK9 := hK.sub (tys' := []) [] rfl
  exact end_i hx hb hr hlocks hP9 hD9 hK9 hS () rfl rfl rfl (Nat.le_of_ble_eq_true rfl) (Nat.le_of_ble_eq_true rfl) dX13_why_107
set_option maxHeartbeats 4000000 in
set_option maxRecDepth 100000 in
/-- girth of the reference, on a fresh object -/
theorem m_girth (l : Launch) (D : va_G) (tC tE sz : Nat) (mm l0 l1 l2 l3 l4 la sk ab bu cu sd : Nat) (a1 a2 : Int32) : Met l yX13_girth wsX13_girth ({ frames := 3, cells := 0, slots := 0, locals := 65 }) (Pg D tC tE sz [(mm, .inr (17, [.int 0, .int 0, .ref l0, .ref la, .ref l1, .ref l2, .ref l3, .ref sk, .ref ab, .ref bu, .ref cu, .ref sd, .ref l4])), (l0, .inr (3, [.int 0, .ref tE, .int 0]))] [] [.ref mm, .int a1, .int a2]) (Qgi (S := Int32 × Int32) D (fun u => [(mm, .inr (17, [.int (u.1), .int (u.2), .ref l0, .ref la, .ref l1, .ref l2, .ref l3, .ref sk, .ref ab, .ref bu, .ref cu, .ref sd, .ref l4]))]) (fun u => []) (fun _ u => u.1 = 1) (va_A [(mm, .inr (17, [.int 0, .int 0, .ref l0, .ref la, .ref l1, .ref l2, .ref l3, .ref sk, .ref ab, .ref bu, .ref cu, .ref sd, .ref l4])), (l0, .inr (3, [.int 0, .ref tE, .int 0]))] sz)) 0 0 (va_A [(mm, .inr (17, [.int 0, .int 0, .ref l0, .ref la, .ref l1, .ref l2, .ref l3, .ref sk, .ref ab, .ref bu, .ref cu, .ref sd, .ref l4])), (l0, .inr (3, [.int 0, .ref tE, .int 0]))] sz) := by
  refine og_m (cc := cX13_girth) (maxL := 3) (ret := (some .int)) (Qc := Qgi (S := Int32 × Int32) D (fun u => [(mm, .inr (17, [.int (u.1), .int (u.2), .ref l0, .ref la, .ref l1, .ref l2, .ref l3, .ref sk, .ref ab, .ref bu, .ref cu, .ref sd, .ref l4]))]) (fun u => []) (fun _ u => u.1 = 1)) (by decide) rfl (Nat.le_of_ble_eq_true rfl) ?_
  intro p e s m below meth c A hx hb hr hml hts hown hlocks hin hP hD hK hG hA hS ls hl
  have hl : lv_has ls 3 [(0, .ref mm), (1, .int a1), (2, .int a2)] := hl
  refine lv_aload_n hx hb dX13_girth_0 rfl (lv_at hl 0 rfl) ?_
  refine lv_iload_n hx hb dX13_girth_1 rfl (lv_at hl 1 rfl) ?_
  refine lv_iload_n hx hb dX13_girth_2 rfl (lv_at hl 2 rfl) ?_
  have hFc := va_free (wc := [(mm, .inr (17, [.int 0, .int 0, .ref l0, .ref la, .ref l1, .ref l2, .ref l3, .ref sk, .ref ab, .ref bu, .ref cu, .ref sd, .ref l4])), (l0, .inr (3, [.int 0, .ref tE, .int 0]))]) hD hS hA [0, 1] rfl
  refine va_calli (va_runV (As := [.int a1, .int a2]) (rest := []) ⟨hx, hb, hml, hown, hts⟩ (m_isLast l D tC tE s.heap.size mm l0 l1 l2 l3 l4 la sk ab bu cu sd 0 0 a1 a2) (cwV 2 hts gX13_girth_X13_isLast rfl rfl rfl (by decide +kernel) ⟨(Nat.le_of_ble_eq_true rfl), (Nat.le_of_ble_eq_true rfl)⟩) ⟨pg_blind, (va_recv hK hP (ci := 17) (q0 := 0) rfl rfl), (pg_pre hP hD hK hG hS hFc [0, 1] rfl (by decide) [] rfl _)⟩ rfl rfl hl.1 rfl (lv_room (Nat.le_of_ble_eq_true rfl)) dX13_girth_3 ⟨(Nat.le_of_ble_eq_true rfl), (Nat.le_of_ble_eq_true rfl)⟩) hS (fun q _ h => hFc q h) hFc (fun r_1 u_2 t H locs ht hvm hw hB hz1 hk1 hS => ?_)
  subst hw
  obtain ⟨hP, hD, hK⟩ := jn (wr := []) (w1 := [(mm, .inr (17, [.int 1, .int 0, .ref l0, .ref la, .ref l1, .ref l2, .ref l3, .ref sk, .ref ab, .ref bu, .ref cu, .ref sd, .ref l4])), (l0, .inr (3, [.int 0, .ref tE, .int 0]))]) (t1 := []) (tr := []) hP hD hK [0, 1] [] rfl rfl (by decide) (by decide) [] rfl hk1 hFc hB rfl rfl ht hvm
  have hP : va_P D vwCl [(mm, .inr (17, [.int 1, .int 0, .ref l0, .ref la, .ref l1, .ref l2, .ref l3, .ref sk, .ref ab, .ref bu, .ref cu, .ref sd, .ref l4])), (l0, .inr (3, [.int 0, .ref tE, .int 0]))] H := hP
  have hD : va_D A [(mm, .inr (17, [.int 1, .int 0, .ref l0, .ref la, .ref l1, .ref l2, .ref l3, .ref sk, .ref ab, .ref bu, .ref cu, .ref sd, .ref l4])), (l0, .inr (3, [.int 0, .ref tE, .int 0]))] := hD
  have hK : va_K D vwCl [] s := hK
  refine W.widen (k := 0) (n := 0) (Nat.le_of_ble_eq_true rfl) (Nat.le_of_ble_eq_true rfl) ?_
  refine lv_if_eq (tgt := 18) hx hb dX13_girth_6 (by decide) (fun c_3 => ?_) (fun c_3 => absurd (show (0 : Int32) = 0 from (by decide)) c_3)
  refine lv_iconst (v := 0) hx hb dX13_girth_18 (by decide) ?_
  have hP9 := hP.sub (ws' := [(mm, .inr (17, [.int 1, .int 0, .ref l0, .ref la, .ref l1, .ref l2, .ref l3, .ref sk, .ref ab, .ref bu, .ref cu, .ref sd, .ref l4]))]) [0] rfl
  have hD9 := hD.sub (ws' := [(mm, .inr (17, [.int 1, .int 0, .ref l0, .ref la, .ref l1, .ref l2, .ref l3, .ref sk, .ref ab, .ref bu, .ref cu, .ref sd, .ref l4]))]) [0] (by decide) rfl
  have hK9 := hK.sub (tys' := []) [] rfl
  exact end_i hx hb hr hlocks hP9 hD9 hK9 hS (1, 0) rfl rfl rfl (Nat.le_of_ble_eq_true rfl) (Nat.le_of_ble_eq_true rfl) dX13_girth_19
set_option maxHeartbeats 4000000 in
set_option maxRecDepth 100000 in
/-- setLasts of the reference, on a fresh object -/
theorem m_setLasts (l : Launch) (D : va_G) (tC tE sz : Nat) (mm l0 l1 l2 l3 l4 la sk ab bu cu sd : Nat) (a1 a2 a3 : Int32) : Met l yX13_setLasts wsX13_setLasts ({ frames := 3, cells := 0, slots := 0, locals := 65 }) (Pg D tC tE sz [(mm, .inr (17, [.int 0, .int 0, .ref l0, .ref la, .ref l1, .ref l2, .ref l3, .ref sk, .ref ab, .ref bu, .ref cu, .ref sd, .ref l4])), (l0, .inr (3, [.int 0, .ref tE, .int 0]))] [] [.ref mm, .int a1, .int a2, .int a3]) (Qgi (S := Int32 × Int32) D (fun u => [(mm, .inr (17, [.int (u.1), .int (u.2), .ref l0, .ref la, .ref l1, .ref l2, .ref l3, .ref sk, .ref ab, .ref bu, .ref cu, .ref sd, .ref l4]))]) (fun u => []) (fun _ u => u.1 = 1) (va_A [(mm, .inr (17, [.int 0, .int 0, .ref l0, .ref la, .ref l1, .ref l2, .ref l3, .ref sk, .ref ab, .ref bu, .ref cu, .ref sd, .ref l4])), (l0, .inr (3, [.int 0, .ref tE, .int 0]))] sz)) 0 0 (va_A [(mm, .inr (17, [.int 0, .int 0, .ref l0, .ref la, .ref l1, .ref l2, .ref l3, .ref sk, .ref ab, .ref bu, .ref cu, .ref sd, .ref l4])), (l0, .inr (3, [.int 0, .ref tE, .int 0]))] sz) := by
  refine og_m (cc := cX13_setLasts) (maxL := 5) (ret := (some .int)) (Qc := Qgi (S := Int32 × Int32) D (fun u => [(mm, .inr (17, [.int (u.1), .int (u.2), .ref l0, .ref la, .ref l1, .ref l2, .ref l3, .ref sk, .ref ab, .ref bu, .ref cu, .ref sd, .ref l4]))]) (fun u => []) (fun _ u => u.1 = 1)) (by decide) rfl (Nat.le_of_ble_eq_true rfl) ?_
  intro p e s m below meth c A hx hb hr hml hts hown hlocks hin hP hD hK hG hA hS ls hl
  have hl : lv_has ls 5 [(0, .ref mm), (1, .int a1), (2, .int a2), (3, .int a3)] := hl
  refine lv_aload_n hx hb dX13_setLasts_0 rfl (lv_at hl 0 rfl) ?_
  refine lv_iload_n hx hb dX13_setLasts_1 rfl (lv_at hl 1 rfl) ?_
  refine lv_iload_n hx hb dX13_setLasts_2 rfl (lv_at hl 2 rfl) ?_
  have hFc := va_free (wc := [(mm, .inr (17, [.int 0, .int 0, .ref l0, .ref la, .ref l1, .ref l2, .ref l3, .ref sk, .ref ab, .ref bu, .ref cu, .ref sd, .ref l4])), (l0, .inr (3, [.int 0, .ref tE, .int 0]))]) hD hS hA [0, 1] rfl
  refine va_calli (va_runV (As := [.int a1, .int a2]) (rest := []) ⟨hx, hb, hml, hown, hts⟩ (m_isLast l D tC tE s.heap.size mm l0 l1 l2 l3 l4 la sk ab bu cu sd 0 0 a1 a2) (cwV 2 hts gX13_setLasts_X13_isLast rfl rfl rfl (by decide +kernel) ⟨(Nat.le_of_ble_eq_true rfl), (Nat.le_of_ble_eq_true rfl)⟩) ⟨pg_blind, (va_recv hK hP (ci := 17) (q0 := 0) rfl rfl), (pg_pre hP hD hK hG hS hFc [0, 1] rfl (by decide) [] rfl _)⟩ rfl rfl hl.1 rfl (lv_room (Nat.le_of_ble_eq_true rfl)) dX13_setLasts_3 ⟨(Nat.le_of_ble_eq_true rfl), (Nat.le_of_ble_eq_true rfl)⟩) hS (fun q _ h => hFc q h) hFc (fun r_1 u_2 t H locs ht hvm hw hB hz1 hk1 hS => ?_)
  subst hw
  obtain ⟨hP, hD, hK⟩ := jn (wr := []) (w1 := [(mm, .inr (17, [.int 1, .int 0, .ref l0, .ref la, .ref l1, .ref l2, .ref l3, .ref sk, .ref ab, .ref bu, .ref cu, .ref sd, .ref l4])), (l0, .inr (3, [.int 0, .ref tE, .int 0]))]) (t1 := []) (tr := []) hP hD hK [0, 1] [] rfl rfl (by decide) (by decide) [] rfl hk1 hFc hB rfl rfl ht hvm
  have hP : va_P D vwCl [(mm, .inr (17, [.int 1, .int 0, .ref l0, .ref la, .ref l1, .ref l2, .ref l3, .ref sk, .ref ab, .ref bu, .ref cu, .ref sd, .ref l4])), (l0, .inr (3, [.int 0, .ref tE, .int 0]))] H := hP
  have hD : va_D A [(mm, .inr (17, [.int 1, .int 0, .ref l0, .ref la, .ref l1, .ref l2, .ref l3, .ref sk, .ref ab, .ref bu, .ref cu, .ref sd, .ref l4])), (l0, .inr (3, [.int 0, .ref tE, .int 0]))] := hD
  have hK : va_K D vwCl [] s := hK
  refine W.widen (k := 0) (n := 0) (Nat.le_of_ble_eq_true rfl) (Nat.le_of_ble_eq_true rfl) ?_
  refine lv_if_ne (tgt := 11) hx hb dX13_setLasts_6 (by decide) (fun c_3 => absurd (by decide) c_3) (fun c_3 => ?_)
  refine lv_iconst (v := 0) hx hb dX13_setLasts_9 (by decide) ?_
  have hP9 := hP.sub (ws' := [(mm, .inr (17, [.int 1, .int 0, .ref l0, .ref la, .ref l1, .ref l2, .ref l3, .ref sk, .ref ab, .ref bu, .ref cu, .ref sd, .ref l4]))]) [0] rfl
  have hD9 := hD.sub (ws' := [(mm, .inr (17, [.int 1, .int 0, .ref l0, .ref la, .ref l1, .ref l2, .ref l3, .ref sk, .ref ab, .ref bu, .ref cu, .ref sd, .ref l4]))]) [0] (by decide) rfl
  have hK9 := hK.sub (tys' := []) [] rfl
  exact end_i hx hb hr hlocks hP9 hD9 hK9 hS (1, 0) rfl rfl rfl (Nat.le_of_ble_eq_true rfl) (Nat.le_of_ble_eq_true rfl) dX13_setLasts_10
set_option maxHeartbeats 4000000 in
set_option maxRecDepth 100000 in
/-- freeLasts of the reference, on a fresh object -/
theorem m_freeLasts (l : Launch) (D : va_G) (tC tE sz : Nat) (mm l0 l1 l2 l3 l4 la sk ab bu cu sd : Nat) (a1 a2 : Int32) : Met l yX13_freeLasts wsX13_freeLasts ({ frames := 3, cells := 0, slots := 0, locals := 65 }) (Pg D tC tE sz [(mm, .inr (17, [.int 0, .int 0, .ref l0, .ref la, .ref l1, .ref l2, .ref l3, .ref sk, .ref ab, .ref bu, .ref cu, .ref sd, .ref l4])), (l0, .inr (3, [.int 0, .ref tE, .int 0]))] [] [.ref mm, .int a1, .int a2]) (Qgi (S := Int32 × Int32) D (fun u => [(mm, .inr (17, [.int (u.1), .int (u.2), .ref l0, .ref la, .ref l1, .ref l2, .ref l3, .ref sk, .ref ab, .ref bu, .ref cu, .ref sd, .ref l4]))]) (fun u => []) (fun _ u => u.1 = 1) (va_A [(mm, .inr (17, [.int 0, .int 0, .ref l0, .ref la, .ref l1, .ref l2, .ref l3, .ref sk, .ref ab, .ref bu, .ref cu, .ref sd, .ref l4])), (l0, .inr (3, [.int 0, .ref tE, .int 0]))] sz)) 0 0 (va_A [(mm, .inr (17, [.int 0, .int 0, .ref l0, .ref la, .ref l1, .ref l2, .ref l3, .ref sk, .ref ab, .ref bu, .ref cu, .ref sd, .ref l4])), (l0, .inr (3, [.int 0, .ref tE, .int 0]))] sz) := by
  refine og_m (cc := cX13_freeLasts) (maxL := 3) (ret := (some .int)) (Qc := Qgi (S := Int32 × Int32) D (fun u => [(mm, .inr (17, [.int (u.1), .int (u.2), .ref l0, .ref la, .ref l1, .ref l2, .ref l3, .ref sk, .ref ab, .ref bu, .ref cu, .ref sd, .ref l4]))]) (fun u => []) (fun _ u => u.1 = 1)) (by decide) rfl (Nat.le_of_ble_eq_true rfl) ?_
  intro p e s m below meth c A hx hb hr hml hts hown hlocks hin hP hD hK hG hA hS ls hl
  have hl : lv_has ls 3 [(0, .ref mm), (1, .int a1), (2, .int a2)] := hl
  refine lv_aload_n hx hb dX13_freeLasts_0 rfl (lv_at hl 0 rfl) ?_
  refine lv_iload_n hx hb dX13_freeLasts_1 rfl (lv_at hl 1 rfl) ?_
  refine lv_iload_n hx hb dX13_freeLasts_2 rfl (lv_at hl 2 rfl) ?_
  have hFc := va_free (wc := [(mm, .inr (17, [.int 0, .int 0, .ref l0, .ref la, .ref l1, .ref l2, .ref l3, .ref sk, .ref ab, .ref bu, .ref cu, .ref sd, .ref l4])), (l0, .inr (3, [.int 0, .ref tE, .int 0]))]) hD hS hA [0, 1] rfl
  refine va_calli (va_runV (As := [.int a1, .int a2]) (rest := []) ⟨hx, hb, hml, hown, hts⟩ (m_isLast l D tC tE s.heap.size mm l0 l1 l2 l3 l4 la sk ab bu cu sd 0 0 a1 a2) (cwV 2 hts gX13_freeLasts_X13_isLast rfl rfl rfl (by decide +kernel) ⟨(Nat.le_of_ble_eq_true rfl), (Nat.le_of_ble_eq_true rfl)⟩) ⟨pg_blind, (va_recv hK hP (ci := 17) (q0 := 0) rfl rfl), (pg_pre hP hD hK hG hS hFc [0, 1] rfl (by decide) [] rfl _)⟩ rfl rfl hl.1 rfl (lv_room (Nat.le_of_ble_eq_true rfl)) dX13_freeLasts_3 ⟨(Nat.le_of_ble_eq_true rfl), (Nat.le_of_ble_eq_true rfl)⟩) hS (fun q _ h => hFc q h) hFc (fun r_1 u_2 t H locs ht hvm hw hB hz1 hk1 hS => ?_)
  subst hw
  obtain ⟨hP, hD, hK⟩ := jn (wr := []) (w1 := [(mm, .inr (17, [.int 1, .int 0, .ref l0, .ref la, .ref l1, .ref l2, .ref l3, .ref sk, .ref ab, .ref bu, .ref cu, .ref sd, .ref l4])), (l0, .inr (3, [.int 0, .ref tE, .int 0]))]) (t1 := []) (tr := []) hP hD hK [0, 1] [] rfl rfl (by decide) (by decide) [] rfl hk1 hFc hB rfl rfl ht hvm
  have hP : va_P D vwCl [(mm, .inr (17, [.int 1, .int 0, .ref l0, .ref la, .ref l1, .ref l2, .ref l3, .ref sk, .ref ab, .ref bu, .ref cu, .ref sd, .ref l4])), (l0, .inr (3, [.int 0, .ref tE, .int 0]))] H := hP
  have hD : va_D A [(mm, .inr (17, [.int 1, .int 0, .ref l0, .ref la, .ref l1, .ref l2, .ref l3, .ref sk, .ref ab, .ref bu, .ref cu, .ref sd, .ref l4])), (l0, .inr (3, [.int 0, .ref tE, .int 0]))] := hD
  have hK : va_K D vwCl [] s := hK
  refine W.widen (k := 0) (n := 0) (Nat.le_of_ble_eq_true rfl) (Nat.le_of_ble_eq_true rfl) ?_
  refine lv_if_eq (tgt := 18) hx hb dX13_freeLasts_6 (by decide) (fun c_3 => ?_) (fun c_3 => absurd (show (0 : Int32) = 0 from (by decide)) c_3)
  refine lv_iconst (v := 0) hx hb dX13_freeLasts_18 (by decide) ?_
  have hP9 := hP.sub (ws' := [(mm, .inr (17, [.int 1, .int 0, .ref l0, .ref la, .ref l1, .ref l2, .ref l3, .ref sk, .ref ab, .ref bu, .ref cu, .ref sd, .ref l4]))]) [0] rfl
  have hD9 := hD.sub (ws' := [(mm, .inr (17, [.int 1, .int 0, .ref l0, .ref la, .ref l1, .ref l2, .ref l3, .ref sk, .ref ab, .ref bu, .ref cu, .ref sd, .ref l4]))]) [0] (by decide) rfl
  have hK9 := hK.sub (tys' := []) [] rfl
  exact end_i hx hb hr hlocks hP9 hD9 hK9 hS (1, 0) rfl rfl rfl (Nat.le_of_ble_eq_true rfl) (Nat.le_of_ble_eq_true rfl) dX13_freeLasts_19
set_option maxHeartbeats 4000000 in
set_option maxRecDepth 100000 in
/-- missingLasts of the reference, on a fresh object -/
theorem m_missingLasts (l : Launch) (D : va_G) (tC tE sz : Nat) (mm l0 l1 l2 l3 l4 la sk ab bu cu sd : Nat) (a1 a2 : Int32) : Met l yX13_missingLasts wsX13_missingLasts ({ frames := 3, cells := 0, slots := 0, locals := 65 }) (Pg D tC tE sz [(mm, .inr (17, [.int 0, .int 0, .ref l0, .ref la, .ref l1, .ref l2, .ref l3, .ref sk, .ref ab, .ref bu, .ref cu, .ref sd, .ref l4])), (l0, .inr (3, [.int 0, .ref tE, .int 0]))] [] [.ref mm, .int a1, .int a2]) (Qgi (S := Int32 × Int32) D (fun u => [(mm, .inr (17, [.int (u.1), .int (u.2), .ref l0, .ref la, .ref l1, .ref l2, .ref l3, .ref sk, .ref ab, .ref bu, .ref cu, .ref sd, .ref l4]))]) (fun u => []) (fun _ u => u.1 = 1) (va_A [(mm, .inr (17, [.int 0, .int 0, .ref l0, .ref la, .ref l1, .ref l2, .ref l3, .ref sk, .ref ab, .ref bu, .ref cu, .ref sd, .ref l4])), (l0, .inr (3, [.int 0, .ref tE, .int 0]))] sz)) 0 0 (va_A [(mm, .inr (17, [.int 0, .int 0, .ref l0, .ref la, .ref l1, .ref l2, .ref l3, .ref sk, .ref ab, .ref bu, .ref cu, .ref sd, .ref l4])), (l0, .inr (3, [.int 0, .ref tE, .int 0]))] sz) := by
  refine og_m (cc := cX13_missingLasts) (maxL := 3) (ret := (some .int)) (Qc := Qgi (S := Int32 × Int32) D (fun u => [(mm, .inr (17, [.int (u.1), .int (u.2), .ref l0, .ref la, .ref l1, .ref l2, .ref l3, .ref sk, .ref ab, .ref bu, .ref cu, .ref sd, .ref l4]))]) (fun u => []) (fun _ u => u.1 = 1)) (by decide) rfl (Nat.le_of_ble_eq_true rfl) ?_
  intro p e s m below meth c A hx hb hr hml hts hown hlocks hin hP hD hK hG hA hS ls hl
  have hl : lv_has ls 3 [(0, .ref mm), (1, .int a1), (2, .int a2)] := hl
  refine lv_aload_n hx hb dX13_missingLasts_0 rfl (lv_at hl 0 rfl) ?_
  refine lv_iload_n hx hb dX13_missingLasts_1 rfl (lv_at hl 1 rfl) ?_
  refine lv_iload_n hx hb dX13_missingLasts_2 rfl (lv_at hl 2 rfl) ?_
  have hFc := va_free (wc := [(mm, .inr (17, [.int 0, .int 0, .ref l0, .ref la, .ref l1, .ref l2, .ref l3, .ref sk, .ref ab, .ref bu, .ref cu, .ref sd, .ref l4])), (l0, .inr (3, [.int 0, .ref tE, .int 0]))]) hD hS hA [0, 1] rfl
  refine va_calli (va_runV (As := [.int a1, .int a2]) (rest := []) ⟨hx, hb, hml, hown, hts⟩ (m_isLast l D tC tE s.heap.size mm l0 l1 l2 l3 l4 la sk ab bu cu sd 0 0 a1 a2) (cwV 2 hts gX13_missingLasts_X13_isLast rfl rfl rfl (by decide +kernel) ⟨(Nat.le_of_ble_eq_true rfl), (Nat.le_of_ble_eq_true rfl)⟩) ⟨pg_blind, (va_recv hK hP (ci := 17) (q0 := 0) rfl rfl), (pg_pre hP hD hK hG hS hFc [0, 1] rfl (by decide) [] rfl _)⟩ rfl rfl hl.1 rfl (lv_room (Nat.le_of_ble_eq_true rfl)) dX13_missingLasts_3 ⟨(Nat.le_of_ble_eq_true rfl), (Nat.le_of_ble_eq_true rfl)⟩) hS (fun q _ h => hFc q h) hFc (fun r_1 u_2 t H locs ht hvm hw hB hz1 hk1 hS => ?_)
  subst hw
  obtain ⟨hP, hD, hK⟩ := jn (wr := []) (w1 := [(mm, .inr (17, [.int 1, .int 0, .ref l0, .ref la, .ref l1, .ref l2, .ref l3, .ref sk, .ref ab, .ref bu, .ref cu, .ref sd, .ref l4])), (l0, .inr (3, [.int 0, .ref tE, .int 0]))]) (t1 := []) (tr := []) hP hD hK [0, 1] [] rfl rfl (by decide) (by decide) [] rfl hk1 hFc hB rfl rfl ht hvm
  have hP : va_P D vwCl [(mm, .inr (17, [.int 1, .int 0, .ref l0, .ref la, .ref l1, .ref l2, .ref l3, .ref sk, .ref ab, .ref bu, .ref cu, .ref sd, .ref l4])), (l0, .inr (3, [.int 0, .ref tE, .int 0]))] H := hP
  have hD : va_D A [(mm, .inr (17, [.int 1, .int 0, .ref l0, .ref la, .ref l1, .ref l2, .ref l3, .ref sk, .ref ab, .ref bu, .ref cu, .ref sd, .ref l4])), (l0, .inr (3, [.int 0, .ref tE, .int 0]))] := hD
  have hK : va_K D vwCl [] s := hK
  refine W.widen (k := 0) (n := 0) (Nat.le_of_ble_eq_true rfl) (Nat.le_of_ble_eq_true rfl) ?_
  refine lv_if_eq (tgt := 31) hx hb dX13_missingLasts_6 (by decide) (fun c_3 => ?_) (fun c_3 => absurd (show (0 : Int32) = 0 from (by decide)) c_3)
  refine lv_iconst (v := 0) hx hb dX13_missingLasts_31 (by decide) ?_
  have hP9 := hP.sub (ws' := [(mm, .inr (17, [.int 1, .int 0, .ref l0, .ref la, .ref l1, .ref l2, .ref l3, .ref sk, .ref ab, .ref bu, .ref cu, .ref sd, .ref l4]))]) [0] rfl
  have hD9 := hD.sub (ws' := [(mm, .inr (17, [.int 1, .int 0, .ref l0, .ref la, .ref l1, .ref l2, .ref l3, .ref sk, .ref ab, .ref bu, .ref cu, .ref sd, .ref l4]))]) [0] (by decide) rfl
  have hK9 := hK.sub (tys' := []) [] rfl
  exact end_i hx hb hr hlocks hP9 hD9 hK9 hS (1, 0) rfl rfl rfl (Nat.le_of_ble_eq_true rfl) (Nat.le_of_ble_eq_true rfl) dX13_missingLasts_32
set_option maxHeartbeats 4000000 in
set_option maxRecDepth 100000 in
/-- style of the reference, on a fresh object -/
theorem m_style (l : Launch) (D : va_G) (tC tE sz : Nat) (mm l0 l1 l2 l3 l4 la sk ab bu cu sd : Nat) (a1 a2 a3 a4 : Int32) : Met l yX13_style wsX13_style ({ frames := 2, cells := 0, slots := 0, locals := 43 }) (Pg D tC tE sz [(mm, .inr (17, [.int 0, .int 0, .ref l0, .ref la, .ref l1, .ref l2, .ref l3, .ref sk, .ref ab, .ref bu, .ref cu, .ref sd, .ref l4])), (l0, .inr (3, [.int 0, .ref tE, .int 0]))] [] [.ref mm, .int a1, .int a2, .int a3, .int a4]) (Qgi (S := Int32 × Int32) D (fun u => [(mm, .inr (17, [.int (u.1), .int (u.2), .ref l0, .ref la, .ref l1, .ref l2, .ref l3, .ref sk, .ref ab, .ref bu, .ref cu, .ref sd, .ref l4]))]) (fun u => []) (fun _ u => u.1 = 1) (va_A [(mm, .inr (17, [.int 0, .int 0, .ref l0, .ref la, .ref l1, .ref l2, .ref l3, .ref sk, .ref ab, .ref bu, .ref cu, .ref sd, .ref l4])), (l0, .inr (3, [.int 0, .ref tE, .int 0]))] sz)) 0 0 (va_A [(mm, .inr (17, [.int 0, .int 0, .ref l0, .ref la, .ref l1, .ref l2, .ref l3, .ref sk, .ref ab, .ref bu, .ref cu, .ref sd, .ref l4])), (l0, .inr (3, [.int 0, .ref tE, .int 0]))] sz) := by
  refine og_m (cc := cX13_style) (maxL := 8) (ret := (some .int)) (Qc := Qgi (S := Int32 × Int32) D (fun u => [(mm, .inr (17, [.int (u.1), .int (u.2), .ref l0, .ref la, .ref l1, .ref l2, .ref l3, .ref sk, .ref ab, .ref bu, .ref cu, .ref sd, .ref l4]))]) (fun u => []) (fun _ u => u.1 = 1)) (by decide) rfl (Nat.le_of_ble_eq_true rfl) ?_
  intro p e s m below meth c A hx hb hr hml hts hown hlocks hin hP hD hK hG hA hS ls hl
  have hl : lv_has ls 8 [(0, .ref mm), (1, .int a1), (2, .int a2), (3, .int a3), (4, .int a4)] := hl
  refine lv_aload_n hx hb dX13_style_0 rfl (lv_at hl 0 rfl) ?_
  refine lv_iconst (v := 0) hx hb dX13_style_1 (by decide) ?_
  refine va_put (D := D) (ci := 17) (v := .int 0) (ty := .int) (C := RX13) (T := TX13) (N := 13) hx hb hts (fun w h => List.mem_cons_of_mem _ (List.mem_append_left _ (List.mem_append_left _ (List.mem_append_left _ (List.mem_append_left _ (List.mem_append_right _ h)))))) tyX13 tyX13_ok nmX13 hown hK hP hD hS 0 rfl rfl 0 (by decide) (hts (.fieldLink RX13 48 "LastroomModel" "code" "I") (List.mem_of_getElem? (i := 1) rfl)) (fun _ h9 => h9) rfl (by decide +kernel) rfl rfl (Nat.le_of_ble_eq_true rfl) dX13_style_2 (fun H locs hP hD hS => ?_)
  have hP : va_P D vwCl [(mm, .inr (17, [.int 0, .int 0, .ref l0, .ref la, .ref l1, .ref l2, .ref l3, .ref sk, .ref ab, .ref bu, .ref cu, .ref sd, .ref l4])), (l0, .inr (3, [.int 0, .ref tE, .int 0]))] H := hP
  have hD : va_D A [(mm, .inr (17, [.int 0, .int 0, .ref l0, .ref la, .ref l1, .ref l2, .ref l3, .ref sk, .ref ab, .ref bu, .ref cu, .ref sd, .ref l4])), (l0, .inr (3, [.int 0, .ref tE, .int 0]))] := hD
  refine lv_aload_n hx hb dX13_style_5 rfl (lv_at hl 0 rfl) ?_
  refine lv_iload_n hx hb dX13_style_6 rfl (lv_at hl 1 rfl) ?_
  have hFc := va_free (wc := [(mm, .inr (17, [.int 0, .int 0, .ref l0, .ref la, .ref l1, .ref l2, .ref l3, .ref sk, .ref ab, .ref bu, .ref cu, .ref sd, .ref l4])), (l0, .inr (3, [.int 0, .ref tE, .int 0]))]) hD hS hA [0, 1] rfl
  refine va_calli (va_runV (As := [.int a1]) (rest := []) ⟨hx, hb, hml, hown, hts⟩ (m_isModel l D tC tE H.size mm l0 l1 l2 l3 l4 la sk ab bu cu sd 0 0 a1) (cwV 1 hts gX13_style_X13_isModel rfl rfl rfl (by decide +kernel) ⟨(Nat.le_of_ble_eq_true rfl), (Nat.le_of_ble_eq_true rfl)⟩) ⟨pg_blind, (va_recv hK hP (ci := 17) (q0 := 0) rfl rfl), (pg_pre hP hD hK hG hS hFc [0, 1] rfl (by decide) [] rfl _)⟩ rfl rfl hl.1 rfl (lv_room (Nat.le_of_ble_eq_true rfl)) dX13_style_7 ⟨(Nat.le_of_ble_eq_true rfl), (Nat.le_of_ble_eq_true rfl)⟩) hS (fun q _ h => hFc q h) hFc (fun r_1 u_2 t H locs ht hvm hw hB hz1 hk1 hS => ?_)
  subst hw
  obtain ⟨hP, hD, hK⟩ := jn (wr := []) (w1 := [(mm, .inr (17, [.int 0, .int 0, .ref l0, .ref la, .ref l1, .ref l2, .ref l3, .ref sk, .ref ab, .ref bu, .ref cu, .ref sd, .ref l4])), (l0, .inr (3, [.int 0, .ref tE, .int 0]))]) (t1 := []) (tr := []) hP hD hK [0, 1] [] rfl rfl (by decide) (by decide) [] rfl hk1 hFc hB rfl rfl ht hvm
  have hP : va_P D vwCl [(mm, .inr (17, [.int 0, .int 0, .ref l0, .ref la, .ref l1, .ref l2, .ref l3, .ref sk, .ref ab, .ref bu, .ref cu, .ref sd, .ref l4])), (l0, .inr (3, [.int 0, .ref tE, .int 0]))] H := hP
  have hD : va_D A [(mm, .inr (17, [.int 0, .int 0, .ref l0, .ref la, .ref l1, .ref l2, .ref l3, .ref sk, .ref ab, .ref bu, .ref cu, .ref sd, .ref l4])), (l0, .inr (3, [.int 0, .ref tE, .int 0]))] := hD
  have hK : va_K D vwCl [] s := hK
  refine W.widen (k := 0) (n := 0) (Nat.le_of_ble_eq_true rfl) (Nat.le_of_ble_eq_true rfl) ?_
  refine lv_if_ne (tgt := 19) hx hb dX13_style_10 (by decide) (fun c_3 => absurd (by decide) c_3) (fun c_3 => ?_)
  refine lv_aload_n hx hb dX13_style_13 rfl (lv_at hl 0 rfl) ?_
  refine lv_iconst (v := 1) hx hb dX13_style_14 (by decide) ?_
  have hFc := va_free (wc := [(mm, .inr (17, [.int 0, .int 0, .ref l0, .ref la, .ref l1, .ref l2, .ref l3, .ref sk, .ref ab, .ref bu, .ref cu, .ref sd, .ref l4]))]) hD hS hA [0] rfl
  refine va_calli (va_runV (As := [.int 1]) (rest := []) ⟨hx, hb, hml, hown, hts⟩ (m_fails l D tC tE H.size mm l0 l1 l2 l3 l4 la sk ab bu cu sd 0 0 1) (cwV 1 hts gX13_style_X13_fails rfl rfl rfl (by decide +kernel) ⟨(Nat.le_of_ble_eq_true rfl), (Nat.le_of_ble_eq_true rfl)⟩) ⟨pg_blind, (va_recv hK hP (ci := 17) (q0 := 0) rfl rfl), (pg_pre hP hD hK hG hS hFc [0] rfl (by decide) [] rfl _)⟩ rfl rfl hl.1 rfl (lv_room (Nat.le_of_ble_eq_true rfl)) dX13_style_15 ⟨(Nat.le_of_ble_eq_true rfl), (Nat.le_of_ble_eq_true rfl)⟩) hS (fun q _ h => hFc q h) hFc (fun r_4 u_5 t H locs ht hvm hw hB hz1 hk1 hS => ?_)
  subst hw
  obtain ⟨hP, hD, hK⟩ := jn (wr := [(l0, .inr (3, [.int 0, .ref tE, .int 0]))]) (w1 := [(mm, .inr (17, [.int 1, .int 0, .ref l0, .ref la, .ref l1, .ref l2, .ref l3, .ref sk, .ref ab, .ref bu, .ref cu, .ref sd, .ref l4]))]) (t1 := []) (tr := []) hP hD hK [0] [1] rfl rfl (by decide) (by decide) [] rfl hk1 hFc hB rfl rfl ht hvm
  have hP : va_P D vwCl [(l0, .inr (3, [.int 0, .ref tE, .int 0])), (mm, .inr (17, [.int 1, .int 0, .ref l0, .ref la, .ref l1, .ref l2, .ref l3, .ref sk, .ref ab, .ref bu, .ref cu, .ref sd, .ref l4]))] H := hP
  have hD : va_D A [(l0, .inr (3, [.int 0, .ref tE, .int 0])), (mm, .inr (17, [.int 1, .int 0, .ref l0, .ref la, .ref l1, .ref l2, .ref l3, .ref sk, .ref ab, .ref bu, .ref cu, .ref sd, .ref l4]))] := hD
  have hK : va_K D vwCl [] s := hK
  refine W.widen (k := 0) (n := 0) (Nat.le_of_ble_eq_true rfl) (Nat.le_of_ble_eq_true rfl) ?_
  have hP9 := hP.sub (ws' := [(mm, .inr (17, [.int 1, .int 0, .ref l0, .ref la, .ref l1, .ref l2, .ref l3, .ref sk, .ref ab, .ref bu, .ref cu, .ref sd, .ref l4]))]) [1] rfl
  have hD9 := hD.sub (ws' := [(mm, .inr (17, [.int 1, .int 0, .ref l0, .ref la, .ref l1, .ref l2, .ref l3, .ref sk, .ref ab, .ref bu, .ref cu, .ref sd, .ref l4]))]) [1] (by decide) rfl
  have hK9 := hK.sub (tys' := []) [] rfl
  exact end_i hx hb hr hlocks hP9 hD9 hK9 hS (1, 0) rfl rfl rfl (Nat.le_of_ble_eq_true rfl) (Nat.le_of_ble_eq_true rfl) dX13_style_18
set_option maxHeartbeats 4000000 in
set_option maxRecDepth 100000 in
/-- piece of the reference, on a fresh object -/
theorem m_piece (l : Launch) (D : va_G) (tC tE sz : Nat) (mm l0 l1 l2 l3 l4 la sk ab bu cu sd : Nat) (a1 a2 a3 a4 a5 a6 : Int32) : Met l yX13_piece wsX13_piece ({ frames := 2, cells := 0, slots := 0, locals := 43 }) (Pg D tC tE sz [(mm, .inr (17, [.int 0, .int 0, .ref l0, .ref la, .ref l1, .ref l2, .ref l3, .ref sk, .ref ab, .ref bu, .ref cu, .ref sd, .ref l4])), (l1, .inr (3, [.int 0, .ref tE, .int 0]))] [] [.ref mm, .int a1, .int a2, .int a3, .int a4, .int a5, .int a6]) (Qgi (S := Int32 × Int32) D (fun u => [(mm, .inr (17, [.int (u.1), .int (u.2), .ref l0, .ref la, .ref l1, .ref l2, .ref l3, .ref sk, .ref ab, .ref bu, .ref cu, .ref sd, .ref l4]))]) (fun u => []) (fun _ u => u.1 = 1) (va_A [(mm, .inr (17, [.int 0, .int 0, .ref l0, .ref la, .ref l1, .ref l2, .ref l3, .ref sk, .ref ab, .ref bu, .ref cu, .ref sd, .ref l4])), (l1, .inr (3, [.int 0, .ref tE, .int 0]))] sz)) 0 0 (va_A [(mm, .inr (17, [.int 0, .int 0, .ref l0, .ref la, .ref l1, .ref l2, .ref l3, .ref sk, .ref ab, .ref bu, .ref cu, .ref sd, .ref l4])), (l1, .inr (3, [.int 0, .ref tE, .int 0]))] sz) := by
  refine og_m (cc := cX13_piece) (maxL := 8) (ret := (some .int)) (Qc := Qgi (S := Int32 × Int32) D (fun u => [(mm, .inr (17, [.int (u.1), .int (u.2), .ref l0, .ref la, .ref l1, .ref l2, .ref l3, .ref sk, .ref ab, .ref bu, .ref cu, .ref sd, .ref l4]))]) (fun u => []) (fun _ u => u.1 = 1)) (by decide) rfl (Nat.le_of_ble_eq_true rfl) ?_
  intro p e s m below meth c A hx hb hr hml hts hown hlocks hin hP hD hK hG hA hS ls hl
  have hl : lv_has ls 8 [(0, .ref mm), (1, .int a1), (2, .int a2), (3, .int a3), (4, .int a4), (5, .int a5), (6, .int a6)] := hl
  refine lv_aload_n hx hb dX13_piece_0 rfl (lv_at hl 0 rfl) ?_
  refine lv_iconst (v := 0) hx hb dX13_piece_1 (by decide) ?_
  refine va_put (D := D) (ci := 17) (v := .int 0) (ty := .int) (C := RX13) (T := TX13) (N := 13) hx hb hts (fun w h => List.mem_cons_of_mem _ (List.mem_append_left _ (List.mem_append_left _ (List.mem_append_left _ (List.mem_append_right _ h))))) tyX13 tyX13_ok nmX13 hown hK hP hD hS 0 rfl rfl 0 (by decide) (hts (.fieldLink RX13 48 "LastroomModel" "code" "I") (List.mem_of_getElem? (i := 1) rfl)) (fun _ h9 => h9) rfl (by decide +kernel) rfl rfl (Nat.le_of_ble_eq_true rfl) dX13_piece_2 (fun H locs hP hD hS => ?_)
  have hP : va_P D vwCl [(mm, .inr (17, [.int 0, .int 0, .ref l0, .ref la, .ref l1, .ref l2, .ref l3, .ref sk, .ref ab, .ref bu, .ref cu, .ref sd, .ref l4])), (l1, .inr (3, [.int 0, .ref tE, .int 0]))] H := hP
  have hD : va_D A [(mm, .inr (17, [.int 0, .int 0, .ref l0, .ref la, .ref l1, .ref l2, .ref l3, .ref sk, .ref ab, .ref bu, .ref cu, .ref sd, .ref l4])), (l1, .inr (3, [.int 0, .ref tE, .int 0]))] := hD
  refine lv_aload_n hx hb dX13_piece_5 rfl (lv_at hl 0 rfl) ?_
  refine lv_iload_n hx hb dX13_piece_6 rfl (lv_at hl 1 rfl) ?_
  have hFc := va_free (wc := [(mm, .inr (17, [.int 0, .int 0, .ref l0, .ref la, .ref l1, .ref l2, .ref l3, .ref sk, .ref ab, .ref bu, .ref cu, .ref sd, .ref l4])), (l1, .inr (3, [.int 0, .ref tE, .int 0]))]) hD hS hA [0, 1] rfl
  refine va_calli (va_runV (As := [.int a1]) (rest := []) ⟨hx, hb, hml, hown, hts⟩ (m_isStyle l D tC tE H.size mm l0 l1 l2 l3 l4 la sk ab bu cu sd 0 0 a1) (cwV 1 hts gX13_piece_X13_isStyle rfl rfl rfl (by decide +kernel) ⟨(Nat.le_of_ble_eq_true rfl), (Nat.le_of_ble_eq_true rfl)⟩) ⟨pg_blind, (va_recv hK hP (ci := 17) (q0 := 0) rfl rfl), (pg_pre hP hD hK hG hS hFc [0, 1] rfl (by decide) [] rfl _)⟩ rfl rfl hl.1 rfl (lv_room (Nat.le_of_ble_eq_true rfl)) dX13_piece_7 ⟨(Nat.le_of_ble_eq_true rfl), (Nat.le_of_ble_eq_true rfl)⟩) hS (fun q _ h => hFc q h) hFc (fun r_1 u_2 t H locs ht hvm hw hB hz1 hk1 hS => ?_)
  subst hw
  obtain ⟨hP, hD, hK⟩ := jn (wr := []) (w1 := [(mm, .inr (17, [.int 0, .int 0, .ref l0, .ref la, .ref l1, .ref l2, .ref l3, .ref sk, .ref ab, .ref bu, .ref cu, .ref sd, .ref l4])), (l1, .inr (3, [.int 0, .ref tE, .int 0]))]) (t1 := []) (tr := []) hP hD hK [0, 1] [] rfl rfl (by decide) (by decide) [] rfl hk1 hFc hB rfl rfl ht hvm
  have hP : va_P D vwCl [(mm, .inr (17, [.int 0, .int 0, .ref l0, .ref la, .ref l1, .ref l2, .ref l3, .ref sk, .ref ab, .ref bu, .ref cu, .ref sd, .ref l4])), (l1, .inr (3, [.int 0, .ref tE, .int 0]))] H := hP
  have hD : va_D A [(mm, .inr (17, [.int 0, .int 0, .ref l0, .ref la, .ref l1, .ref l2, .ref l3, .ref sk, .ref ab, .ref bu, .ref cu, .ref sd, .ref l4])), (l1, .inr (3, [.int 0, .ref tE, .int 0]))] := hD
  have hK : va_K D vwCl [] s := hK
  refine W.widen (k := 0) (n := 0) (Nat.le_of_ble_eq_true rfl) (Nat.le_of_ble_eq_true rfl) ?_
  refine lv_if_ne (tgt := 19) hx hb dX13_piece_10 (by decide) (fun c_3 => absurd (by decide) c_3) (fun c_3 => ?_)
  refine lv_aload_n hx hb dX13_piece_13 rfl (lv_at hl 0 rfl) ?_
  refine lv_iconst (v := 1) hx hb dX13_piece_14 (by decide) ?_
  have hFc := va_free (wc := [(mm, .inr (17, [.int 0, .int 0, .ref l0, .ref la, .ref l1, .ref l2, .ref l3, .ref sk, .ref ab, .ref bu, .ref cu, .ref sd, .ref l4]))]) hD hS hA [0] rfl
  refine va_calli (va_runV (As := [.int 1]) (rest := []) ⟨hx, hb, hml, hown, hts⟩ (m_fails l D tC tE H.size mm l0 l1 l2 l3 l4 la sk ab bu cu sd 0 0 1) (cwV 1 hts gX13_piece_X13_fails rfl rfl rfl (by decide +kernel) ⟨(Nat.le_of_ble_eq_true rfl), (Nat.le_of_ble_eq_true rfl)⟩) ⟨pg_blind, (va_recv hK hP (ci := 17) (q0 := 0) rfl rfl), (pg_pre hP hD hK hG hS hFc [0] rfl (by decide) [] rfl _)⟩ rfl rfl hl.1 rfl (lv_room (Nat.le_of_ble_eq_true rfl)) dX13_piece_15 ⟨(Nat.le_of_ble_eq_true rfl), (Nat.le_of_ble_eq_true rfl)⟩) hS (fun q _ h => hFc q h) hFc (fun r_4 u_5 t H locs ht hvm hw hB hz1 hk1 hS => ?_)
  subst hw
  obtain ⟨hP, hD, hK⟩ := jn (wr := [(l1, .inr (3, [.int 0, .ref tE, .int 0]))]) (w1 := [(mm, .inr (17, [.int 1, .int 0, .ref l0, .ref la, .ref l1, .ref l2, .ref l3, .ref sk, .ref ab, .ref bu, .ref cu, .ref sd, .ref l4]))]) (t1 := []) (tr := []) hP hD hK [0] [1] rfl rfl (by decide) (by decide) [] rfl hk1 hFc hB rfl rfl ht hvm
  have hP : va_P D vwCl [(l1, .inr (3, [.int 0, .ref tE, .int 0])), (mm, .inr (17, [.int 1, .int 0, .ref l0, .ref la, .ref l1, .ref l2, .ref l3, .ref sk, .ref ab, .ref bu, .ref cu, .ref sd, .ref l4]))] H := hP
  have hD : va_D A [(l1, .inr (3, [.int 0, .ref tE, .int 0])), (mm, .inr (17, [.int 1, .int 0, .ref l0, .ref la, .ref l1, .ref l2, .ref l3, .ref sk, .ref ab, .ref bu, .ref cu, .ref sd, .ref l4]))] := hD
  have hK : va_K D vwCl [] s := hK
  refine W.widen (k := 0) (n := 0) (Nat.le_of_ble_eq_true rfl) (Nat.le_of_ble_eq_true rfl) ?_
  have hP9 := hP.sub (ws' := [(mm, .inr (17, [.int 1, .int 0, .ref l0, .ref la, .ref l1, .ref l2, .ref l3, .ref sk, .ref ab, .ref bu, .ref cu, .ref sd, .ref l4]))]) [1] rfl
  have hD9 := hD.sub (ws' := [(mm, .inr (17, [.int 1, .int 0, .ref l0, .ref la, .ref l1, .ref l2, .ref l3, .ref sk, .ref ab, .ref bu, .ref cu, .ref sd, .ref l4]))]) [1] (by decide) rfl
  have hK9 := hK.sub (tys' := []) [] rfl
  exact end_i hx hb hr hlocks hP9 hD9 hK9 hS (1, 0) rfl rfl rfl (Nat.le_of_ble_eq_true rfl) (Nat.le_of_ble_eq_true rfl) dX13_piece_18
set_option maxHeartbeats 4000000 in
set_option maxRecDepth 100000 in
/-- seam of the reference, on a fresh object -/
theorem m_seam (l : Launch) (D : va_G) (tC tE sz : Nat) (mm l0 l1 l2 l3 l4 la sk ab bu cu sd : Nat) (a1 a2 a3 a4 : Int32) : Met l yX13_seam wsX13_seam ({ frames := 2, cells := 0, slots := 0, locals := 43 }) (Pg D tC tE sz [(mm, .inr (17, [.int 0, .int 0, .ref l0, .ref la, .ref l1, .ref l2, .ref l3, .ref sk, .ref ab, .ref bu, .ref cu, .ref sd, .ref l4])), (l1, .inr (3, [.int 0, .ref tE, .int 0]))] [] [.ref mm, .int a1, .int a2, .int a3, .int a4]) (Qgi (S := Int32 × Int32) D (fun u => [(mm, .inr (17, [.int (u.1), .int (u.2), .ref l0, .ref la, .ref l1, .ref l2, .ref l3, .ref sk, .ref ab, .ref bu, .ref cu, .ref sd, .ref l4]))]) (fun u => []) (fun _ u => u.1 = 1) (va_A [(mm, .inr (17, [.int 0, .int 0, .ref l0, .ref la, .ref l1, .ref l2, .ref l3, .ref sk, .ref ab, .ref bu, .ref cu, .ref sd, .ref l4])), (l1, .inr (3, [.int 0, .ref tE, .int 0]))] sz)) 0 0 (va_A [(mm, .inr (17, [.int 0, .int 0, .ref l0, .ref la, .ref l1, .ref l2, .ref l3, .ref sk, .ref ab, .ref bu, .ref cu, .ref sd, .ref l4])), (l1, .inr (3, [.int 0, .ref tE, .int 0]))] sz) := by
  refine og_m (cc := cX13_seam) (maxL := 6) (ret := (some .int)) (Qc := Qgi (S := Int32 × Int32) D (fun u => [(mm, .inr (17, [.int (u.1), .int (u.2), .ref l0, .ref la, .ref l1, .ref l2, .ref l3, .ref sk, .ref ab, .ref bu, .ref cu, .ref sd, .ref l4]))]) (fun u => []) (fun _ u => u.1 = 1)) (by decide) rfl (Nat.le_of_ble_eq_true rfl) ?_
  intro p e s m below meth c A hx hb hr hml hts hown hlocks hin hP hD hK hG hA hS ls hl
  have hl : lv_has ls 6 [(0, .ref mm), (1, .int a1), (2, .int a2), (3, .int a3), (4, .int a4)] := hl
  refine lv_aload_n hx hb dX13_seam_0 rfl (lv_at hl 0 rfl) ?_
  refine lv_iconst (v := 0) hx hb dX13_seam_1 (by decide) ?_
  refine va_put (D := D) (ci := 17) (v := .int 0) (ty := .int) (C := RX13) (T := TX13) (N := 13) hx hb hts (fun w h => List.mem_cons_of_mem _ (List.mem_append_left _ (List.mem_append_left _ (List.mem_append_left _ (List.mem_append_right _ h))))) tyX13 tyX13_ok nmX13 hown hK hP hD hS 0 rfl rfl 0 (by decide) (hts (.fieldLink RX13 48 "LastroomModel" "code" "I") (List.mem_of_getElem? (i := 1) rfl)) (fun _ h9 => h9) rfl (by decide +kernel) rfl rfl (Nat.le_of_ble_eq_true rfl) dX13_seam_2 (fun H locs hP hD hS => ?_)
  have hP : va_P D vwCl [(mm, .inr (17, [.int 0, .int 0, .ref l0, .ref la, .ref l1, .ref l2, .ref l3, .ref sk, .ref ab, .ref bu, .ref cu, .ref sd, .ref l4])), (l1, .inr (3, [.int 0, .ref tE, .int 0]))] H := hP
  have hD : va_D A [(mm, .inr (17, [.int 0, .int 0, .ref l0, .ref la, .ref l1, .ref l2, .ref l3, .ref sk, .ref ab, .ref bu, .ref cu, .ref sd, .ref l4])), (l1, .inr (3, [.int 0, .ref tE, .int 0]))] := hD
  refine lv_aload_n hx hb dX13_seam_5 rfl (lv_at hl 0 rfl) ?_
  refine lv_iload_n hx hb dX13_seam_6 rfl (lv_at hl 1 rfl) ?_
  have hFc := va_free (wc := [(mm, .inr (17, [.int 0, .int 0, .ref l0, .ref la, .ref l1, .ref l2, .ref l3, .ref sk, .ref ab, .ref bu, .ref cu, .ref sd, .ref l4])), (l1, .inr (3, [.int 0, .ref tE, .int 0]))]) hD hS hA [0, 1] rfl
  refine va_calli (va_runV (As := [.int a1]) (rest := []) ⟨hx, hb, hml, hown, hts⟩ (m_isStyle l D tC tE H.size mm l0 l1 l2 l3 l4 la sk ab bu cu sd 0 0 a1) (cwV 1 hts gX13_seam_X13_isStyle rfl rfl rfl (by decide +kernel) ⟨(Nat.le_of_ble_eq_true rfl), (Nat.le_of_ble_eq_true rfl)⟩) ⟨pg_blind, (va_recv hK hP (ci := 17) (q0 := 0) rfl rfl), (pg_pre hP hD hK hG hS hFc [0, 1] rfl (by decide) [] rfl _)⟩ rfl rfl hl.1 rfl (lv_room (Nat.le_of_ble_eq_true rfl)) dX13_seam_7 ⟨(Nat.le_of_ble_eq_true rfl), (Nat.le_of_ble_eq_true rfl)⟩) hS (fun q _ h => hFc q h) hFc (fun r_1 u_2 t H locs ht hvm hw hB hz1 hk1 hS => ?_)
  subst hw
  obtain ⟨hP, hD, hK⟩ := jn (wr := []) (w1 := [(mm, .inr (17, [.int 0, .int 0, .ref l0, .ref la, .ref l1, .ref l2, .ref l3, .ref sk, .ref ab, .ref bu, .ref cu, .ref sd, .ref l4])), (l1, .inr (3, [.int 0, .ref tE, .int 0]))]) (t1 := []) (tr := []) hP hD hK [0, 1] [] rfl rfl (by decide) (by decide) [] rfl hk1 hFc hB rfl rfl ht hvm
  have hP : va_P D vwCl [(mm, .inr (17, [.int 0, .int 0, .ref l0, .ref la, .ref l1, .ref l2, .ref l3, .ref sk, .ref ab, .ref bu, .ref cu, .ref sd, .ref l4])), (l1, .inr (3, [.int 0, .ref tE, .int 0]))] H := hP
  have hD : va_D A [(mm, .inr (17, [.int 0, .int 0, .ref l0, .ref la, .ref l1, .ref l2, .ref l3, .ref sk, .ref ab, .ref bu, .ref cu, .ref sd, .ref l4])), (l1, .inr (3, [.int 0, .ref tE, .int 0]))] := hD
  have hK : va_K D vwCl [] s := hK
  refine W.widen (k := 0) (n := 0) (Nat.le_of_ble_eq_true rfl) (Nat.le_of_ble_eq_true rfl) ?_
  refine lv_if_ne (tgt := 19) hx hb dX13_seam_10 (by decide) (fun c_3 => absurd (by decide) c_3) (fun c_3 => ?_)
  refine lv_aload_n hx hb dX13_seam_13 rfl (lv_at hl 0 rfl) ?_
  refine lv_iconst (v := 1) hx hb dX13_seam_14 (by decide) ?_
  have hFc := va_free (wc := [(mm, .inr (17, [.int 0, .int 0, .ref l0, .ref la, .ref l1, .ref l2, .ref l3, .ref sk, .ref ab, .ref bu, .ref cu, .ref sd, .ref l4]))]) hD hS hA [0] rfl
  refine va_calli (va_runV (As := [.int 1]) (rest := []) ⟨hx, hb, hml, hown, hts⟩ (m_fails l D tC tE H.size mm l0 l1 l2 l3 l4 la sk ab bu cu sd 0 0 1) (cwV 1 hts gX13_seam_X13_fails rfl rfl rfl (by decide +kernel) ⟨(Nat.le_of_ble_eq_true rfl), (Nat.le_of_ble_eq_true rfl)⟩) ⟨pg_blind, (va_recv hK hP (ci := 17) (q0 := 0) rfl rfl), (pg_pre hP hD hK hG hS hFc [0] rfl (by decide) [] rfl _)⟩ rfl rfl hl.1 rfl (lv_room (Nat.le_of_ble_eq_true rfl)) dX13_seam_15 ⟨(Nat.le_of_ble_eq_true rfl), (Nat.le_of_ble_eq_true rfl)⟩) hS (fun q _ h => hFc q h) hFc (fun r_4 u_5 t H locs ht hvm hw hB hz1 hk1 hS => ?_)
  subst hw
  obtain ⟨hP, hD, hK⟩ := jn (wr := [(l1, .inr (3, [.int 0, .ref tE, .int 0]))]) (w1 := [(mm, .inr (17, [.int 1, .int 0, .ref l0, .ref la, .ref l1, .ref l2, .ref l3, .ref sk, .ref ab, .ref bu, .ref cu, .ref sd, .ref l4]))]) (t1 := []) (tr := []) hP hD hK [0] [1] rfl rfl (by decide) (by decide) [] rfl hk1 hFc hB rfl rfl ht hvm
  have hP : va_P D vwCl [(l1, .inr (3, [.int 0, .ref tE, .int 0])), (mm, .inr (17, [.int 1, .int 0, .ref l0, .ref la, .ref l1, .ref l2, .ref l3, .ref sk, .ref ab, .ref bu, .ref cu, .ref sd, .ref l4]))] H := hP
  have hD : va_D A [(l1, .inr (3, [.int 0, .ref tE, .int 0])), (mm, .inr (17, [.int 1, .int 0, .ref l0, .ref la, .ref l1, .ref l2, .ref l3, .ref sk, .ref ab, .ref bu, .ref cu, .ref sd, .ref l4]))] := hD
  have hK : va_K D vwCl [] s := hK
  refine W.widen (k := 0) (n := 0) (Nat.le_of_ble_eq_true rfl) (Nat.le_of_ble_eq_true rfl) ?_
  have hP9 := hP.sub (ws' := [(mm, .inr (17, [.int 1, .int 0, .ref l0, .ref la, .ref l1, .ref l2, .ref l3, .ref sk, .ref ab, .ref bu, .ref cu, .ref sd, .ref l4]))]) [1] rfl
  have hD9 := hD.sub (ws' := [(mm, .inr (17, [.int 1, .int 0, .ref l0, .ref la, .ref l1, .ref l2, .ref l3, .ref sk, .ref ab, .ref bu, .ref cu, .ref sd, .ref l4]))]) [1] (by decide) rfl
  have hK9 := hK.sub (tys' := []) [] rfl
  exact end_i hx hb hr hlocks hP9 hD9 hK9 hS (1, 0) rfl rfl rfl (Nat.le_of_ble_eq_true rfl) (Nat.le_of_ble_eq_true rfl) dX13_seam_18
set_option maxHeartbeats 4000000 in
set_option maxRecDepth 100000 in
/-- pieceCells of the reference, on a fresh object -/
theorem m_pieceCells (l : Launch) (D : va_G) (tC tE sz : Nat) (mm l0 l1 l2 l3 l4 la sk ab bu cu sd : Nat) (a1 a2 a3 a4 : Int32) : Met l yX13_pieceCells wsX13_pieceCells ({ frames := 2, cells := 0, slots := 0, locals := 43 }) (Pg D tC tE sz [(mm, .inr (17, [.int 0, .int 0, .ref l0, .ref la, .ref l1, .ref l2, .ref l3, .ref sk, .ref ab, .ref bu, .ref cu, .ref sd, .ref l4])), (l1, .inr (3, [.int 0, .ref tE, .int 0]))] [] [.ref mm, .int a1, .int a2, .int a3, .int a4]) (Qgi (S := Int32 × Int32) D (fun u => [(mm, .inr (17, [.int (u.1), .int (u.2), .ref l0, .ref la, .ref l1, .ref l2, .ref l3, .ref sk, .ref ab, .ref bu, .ref cu, .ref sd, .ref l4]))]) (fun u => []) (fun _ u => u.1 = 1) (va_A [(mm, .inr (17, [.int 0, .int 0, .ref l0, .ref la, .ref l1, .ref l2, .ref l3, .ref sk, .ref ab, .ref bu, .ref cu, .ref sd, .ref l4])), (l1, .inr (3, [.int 0, .ref tE, .int 0]))] sz)) 0 0 (va_A [(mm, .inr (17, [.int 0, .int 0, .ref l0, .ref la, .ref l1, .ref l2, .ref l3, .ref sk, .ref ab, .ref bu, .ref cu, .ref sd, .ref l4])), (l1, .inr (3, [.int 0, .ref tE, .int 0]))] sz) := by
  refine og_m (cc := cX13_pieceCells) (maxL := 5) (ret := (some .int)) (Qc := Qgi (S := Int32 × Int32) D (fun u => [(mm, .inr (17, [.int (u.1), .int (u.2), .ref l0, .ref la, .ref l1, .ref l2, .ref l3, .ref sk, .ref ab, .ref bu, .ref cu, .ref sd, .ref l4]))]) (fun u => []) (fun _ u => u.1 = 1)) (by decide) rfl (Nat.le_of_ble_eq_true rfl) ?_
  intro p e s m below meth c A hx hb hr hml hts hown hlocks hin hP hD hK hG hA hS ls hl
  have hl : lv_has ls 5 [(0, .ref mm), (1, .int a1), (2, .int a2), (3, .int a3), (4, .int a4)] := hl
  refine lv_aload_n hx hb dX13_pieceCells_0 rfl (lv_at hl 0 rfl) ?_
  refine lv_iconst (v := 0) hx hb dX13_pieceCells_1 (by decide) ?_
  refine va_put (D := D) (ci := 17) (v := .int 0) (ty := .int) (C := RX13) (T := TX13) (N := 13) hx hb hts (fun w h => List.mem_cons_of_mem _ (List.mem_append_left _ (List.mem_append_left _ (List.mem_append_left _ (List.mem_append_left _ (List.mem_append_right _ h)))))) tyX13 tyX13_ok nmX13 hown hK hP hD hS 0 rfl rfl 0 (by decide) (hts (.fieldLink RX13 48 "LastroomModel" "code" "I") (List.mem_of_getElem? (i := 1) rfl)) (fun _ h9 => h9) rfl (by decide +kernel) rfl rfl (Nat.le_of_ble_eq_true rfl) dX13_pieceCells_2 (fun H locs hP hD hS => ?_)
  have hP : va_P D vwCl [(mm, .inr (17, [.int 0, .int 0, .ref l0, .ref la, .ref l1, .ref l2, .ref l3, .ref sk, .ref ab, .ref bu, .ref cu, .ref sd, .ref l4])), (l1, .inr (3, [.int 0, .ref tE, .int 0]))] H := hP
  have hD : va_D A [(mm, .inr (17, [.int 0, .int 0, .ref l0, .ref la, .ref l1, .ref l2, .ref l3, .ref sk, .ref ab, .ref bu, .ref cu, .ref sd, .ref l4])), (l1, .inr (3, [.int 0, .ref tE, .int 0]))] := hD
  refine lv_aload_n hx hb dX13_pieceCells_5 rfl (lv_at hl 0 rfl) ?_
  refine lv_iload_n hx hb dX13_pieceCells_6 rfl (lv_at hl 1 rfl) ?_
  have hFc := va_free (wc := [(mm, .inr (17, [.int 0, .int 0, .ref l0, .ref la, .ref l1, .ref l2, .ref l3, .ref sk, .ref ab, .ref bu, .ref cu, .ref sd, .ref l4])), (l1, .inr (3, [.int 0, .ref tE, .int 0]))]) hD hS hA [0, 1] rfl
  refine va_calli (va_runV (As := [.int a1]) (rest := []) ⟨hx, hb, hml, hown, hts⟩ (m_isStyle l D tC tE H.size mm l0 l1 l2 l3 l4 la sk ab bu cu sd 0 0 a1) (cwV 1 hts gX13_pieceCells_X13_isStyle rfl rfl rfl (by decide +kernel) ⟨(Nat.le_of_ble_eq_true rfl), (Nat.le_of_ble_eq_true rfl)⟩) ⟨pg_blind, (va_recv hK hP (ci := 17) (q0 := 0) rfl rfl), (pg_pre hP hD hK hG hS hFc [0, 1] rfl (by decide) [] rfl _)⟩ rfl rfl hl.1 rfl (lv_room (Nat.le_of_ble_eq_true rfl)) dX13_pieceCells_7 ⟨(Nat.le_of_ble_eq_true rfl), (Nat.le_of_ble_eq_true rfl)⟩) hS (fun q _ h => hFc q h) hFc (fun r_1 u_2 t H locs ht hvm hw hB hz1 hk1 hS => ?_)
  subst hw
  obtain ⟨hP, hD, hK⟩ := jn (wr := []) (w1 := [(mm, .inr (17, [.int 0, .int 0, .ref l0, .ref la, .ref l1, .ref l2, .ref l3, .ref sk, .ref ab, .ref bu, .ref cu, .ref sd, .ref l4])), (l1, .inr (3, [.int 0, .ref tE, .int 0]))]) (t1 := []) (tr := []) hP hD hK [0, 1] [] rfl rfl (by decide) (by decide) [] rfl hk1 hFc hB rfl rfl ht hvm
  have hP : va_P D vwCl [(mm, .inr (17, [.int 0, .int 0, .ref l0, .ref la, .ref l1, .ref l2, .ref l3, .ref sk, .ref ab, .ref bu, .ref cu, .ref sd, .ref l4])), (l1, .inr (3, [.int 0, .ref tE, .int 0]))] H := hP
  have hD : va_D A [(mm, .inr (17, [.int 0, .int 0, .ref l0, .ref la, .ref l1, .ref l2, .ref l3, .ref sk, .ref ab, .ref bu, .ref cu, .ref sd, .ref l4])), (l1, .inr (3, [.int 0, .ref tE, .int 0]))] := hD
  have hK : va_K D vwCl [] s := hK
  refine W.widen (k := 0) (n := 0) (Nat.le_of_ble_eq_true rfl) (Nat.le_of_ble_eq_true rfl) ?_
  refine lv_if_eq (tgt := 44) hx hb dX13_pieceCells_10 (by decide) (fun c_3 => ?_) (fun c_3 => absurd (show (0 : Int32) = 0 from (by decide)) c_3)
  refine lv_aload_n hx hb dX13_pieceCells_44 rfl (lv_at hl 0 rfl) ?_
  refine lv_iconst (v := 1) hx hb dX13_pieceCells_45 (by decide) ?_
  have hFc := va_free (wc := [(mm, .inr (17, [.int 0, .int 0, .ref l0, .ref la, .ref l1, .ref l2, .ref l3, .ref sk, .ref ab, .ref bu, .ref cu, .ref sd, .ref l4]))]) hD hS hA [0] rfl
  refine va_calli (va_runV (As := [.int 1]) (rest := []) ⟨hx, hb, hml, hown, hts⟩ (m_fails l D tC tE H.size mm l0 l1 l2 l3 l4 la sk ab bu cu sd 0 0 1) (cwV 1 hts gX13_pieceCells_X13_fails rfl rfl rfl (by decide +kernel) ⟨(Nat.le_of_ble_eq_true rfl), (Nat.le_of_ble_eq_true rfl)⟩) ⟨pg_blind, (va_recv hK hP (ci := 17) (q0 := 0) rfl rfl), (pg_pre hP hD hK hG hS hFc [0] rfl (by decide) [] rfl _)⟩ rfl rfl hl.1 rfl (lv_room (Nat.le_of_ble_eq_true rfl)) dX13_pieceCells_46 ⟨(Nat.le_of_ble_eq_true rfl), (Nat.le_of_ble_eq_true rfl)⟩) hS (fun q _ h => hFc q h) hFc (fun r_4 u_5 t H locs ht hvm hw hB hz1 hk1 hS => ?_)
  subst hw
  obtain ⟨hP, hD, hK⟩ := jn (wr := [(l1, .inr (3, [.int 0, .ref tE, .int 0]))]) (w1 := [(mm, .inr (17, [.int 1, .int 0, .ref l0, .ref la, .ref l1, .ref l2, .ref l3, .ref sk, .ref ab, .ref bu, .ref cu, .ref sd, .ref l4]))]) (t1 := []) (tr := []) hP hD hK [0] [1] rfl rfl (by decide) (by decide) [] rfl hk1 hFc hB rfl rfl ht hvm
  have hP : va_P D vwCl [(l1, .inr (3, [.int 0, .ref tE, .int 0])), (mm, .inr (17, [.int 1, .int 0, .ref l0, .ref la, .ref l1, .ref l2, .ref l3, .ref sk, .ref ab, .ref bu, .ref cu, .ref sd, .ref l4]))] H := hP
  have hD : va_D A [(l1, .inr (3, [.int 0, .ref tE, .int 0])), (mm, .inr (17, [.int 1, .int 0, .ref l0, .ref la, .ref l1, .ref l2, .ref l3, .ref sk, .ref ab, .ref bu, .ref cu, .ref sd, .ref l4]))] := hD
  have hK : va_K D vwCl [] s := hK
  refine W.widen (k := 0) (n := 0) (Nat.le_of_ble_eq_true rfl) (Nat.le_of_ble_eq_true rfl) ?_
  have hP9 := hP.sub (ws' := [(mm, .inr (17, [.int 1, .int 0, .ref l0, .ref la, .ref l1, .ref l2, .ref l3, .ref sk, .ref ab, .ref bu, .ref cu, .ref sd, .ref l4]))]) [1] rfl
  have hD9 := hD.sub (ws' := [(mm, .inr (17, [.int 1, .int 0, .ref l0, .ref la, .ref l1, .ref l2, .ref l3, .ref sk, .ref ab, .ref bu, .ref cu, .ref sd, .ref l4]))]) [1] (by decide) rfl
  have hK9 := hK.sub (tys' := []) [] rfl
  exact end_i hx hb hr hlocks hP9 hD9 hK9 hS (1, 0) rfl rfl rfl (Nat.le_of_ble_eq_true rfl) (Nat.le_of_ble_eq_true rfl) dX13_pieceCells_49
set_option maxHeartbeats 4000000 in
set_option maxRecDepth 100000 in
/-- shortest of the reference, on a fresh object -/
theorem m_shortest (l : Launch) (D : va_G) (tC tE sz : Nat) (mm l0 l1 l2 l3 l4 la sk ab bu cu sd : Nat) (a1 : Int32) : Met l yX13_shortest wsX13_shortest ({ frames := 2, cells := 0, slots := 0, locals := 43 }) (Pg D tC tE sz [(mm, .inr (17, [.int 0, .int 0, .ref l0, .ref la, .ref l1, .ref l2, .ref l3, .ref sk, .ref ab, .ref bu, .ref cu, .ref sd, .ref l4])), (l1, .inr (3, [.int 0, .ref tE, .int 0]))] [] [.ref mm, .int a1]) (Qgi (S := Int32 × Int32) D (fun u => [(mm, .inr (17, [.int (u.1), .int (u.2), .ref l0, .ref la, .ref l1, .ref l2, .ref l3, .ref sk, .ref ab, .ref bu, .ref cu, .ref sd, .ref l4]))]) (fun u => []) (fun _ u => u.1 = 1) (va_A [(mm, .inr (17, [.int 0, .int 0, .ref l0, .ref la, .ref l1, .ref l2, .ref l3, .ref sk, .ref ab, .ref bu, .ref cu, .ref sd, .ref l4])), (l1, .inr (3, [.int 0, .ref tE, .int 0]))] sz)) 0 0 (va_A [(mm, .inr (17, [.int 0, .int 0, .ref l0, .ref la, .ref l1, .ref l2, .ref l3, .ref sk, .ref ab, .ref bu, .ref cu, .ref sd, .ref l4])), (l1, .inr (3, [.int 0, .ref tE, .int 0]))] sz) := by
  refine og_m (cc := cX13_shortest) (maxL := 7) (ret := (some .int)) (Qc := Qgi (S := Int32 × Int32) D (fun u => [(mm, .inr (17, [.int (u.1), .int (u.2), .ref l0, .ref la, .ref l1, .ref l2, .ref l3, .ref sk, .ref ab, .ref bu, .ref cu, .ref sd, .ref l4]))]) (fun u => []) (fun _ u => u.1 = 1)) (by decide) rfl (Nat.le_of_ble_eq_true rfl) ?_
  intro p e s m below meth c A hx hb hr hml hts hown hlocks hin hP hD hK hG hA hS ls hl
  have hl : lv_has ls 7 [(0, .ref mm), (1, .int a1)] := hl
  refine lv_aload_n hx hb dX13_shortest_0 rfl (lv_at hl 0 rfl) ?_
  refine lv_iconst (v := 0) hx hb dX13_shortest_1 (by decide) ?_
  refine va_put (D := D) (ci := 17) (v := .int 0) (ty := .int) (C := RX13) (T := TX13) (N := 13) hx hb hts (fun w h => List.mem_cons_of_mem _ (List.mem_append_left _ (List.mem_append_left _ (List.mem_append_left _ (List.mem_append_right _ h))))) tyX13 tyX13_ok nmX13 hown hK hP hD hS 0 rfl rfl 0 (by decide) (hts (.fieldLink RX13 48 "LastroomModel" "code" "I") (List.mem_of_getElem? (i := 1) rfl)) (fun _ h9 => h9) rfl (by decide +kernel) rfl rfl (Nat.le_of_ble_eq_true rfl) dX13_shortest_2 (fun H locs hP hD hS => ?_)
  have hP : va_P D vwCl [(mm, .inr (17, [.int 0, .int 0, .ref l0, .ref la, .ref l1, .ref l2, .ref l3, .ref sk, .ref ab, .ref bu, .ref cu, .ref sd, .ref l4])), (l1, .inr (3, [.int 0, .ref tE, .int 0]))] H := hP
  have hD : va_D A [(mm, .inr (17, [.int 0, .int 0, .ref l0, .ref la, .ref l1, .ref l2, .ref l3, .ref sk, .ref ab, .ref bu, .ref cu, .ref sd, .ref l4])), (l1, .inr (3, [.int 0, .ref tE, .int 0]))] := hD
  refine lv_aload_n hx hb dX13_shortest_5 rfl (lv_at hl 0 rfl) ?_
  refine lv_iload_n hx hb dX13_shortest_6 rfl (lv_at hl 1 rfl) ?_
  have hFc := va_free (wc := [(mm, .inr (17, [.int 0, .int 0, .ref l0, .ref la, .ref l1, .ref l2, .ref l3, .ref sk, .ref ab, .ref bu, .ref cu, .ref sd, .ref l4])), (l1, .inr (3, [.int 0, .ref tE, .int 0]))]) hD hS hA [0, 1] rfl
  refine va_calli (va_runV (As := [.int a1]) (rest := []) ⟨hx, hb, hml, hown, hts⟩ (m_isStyle l D tC tE H.size mm l0 l1 l2 l3 l4 la sk ab bu cu sd 0 0 a1) (cwV 1 hts gX13_shortest_X13_isStyle rfl rfl rfl (by decide +kernel) ⟨(Nat.le_of_ble_eq_true rfl), (Nat.le_of_ble_eq_true rfl)⟩) ⟨pg_blind, (va_recv hK hP (ci := 17) (q0 := 0) rfl rfl), (pg_pre hP hD hK hG hS hFc [0, 1] rfl (by decide) [] rfl _)⟩ rfl rfl hl.1 rfl (lv_room (Nat.le_of_ble_eq_true rfl)) dX13_shortest_7 ⟨(Nat.le_of_ble_eq_true rfl), (Nat.le_of_ble_eq_true rfl)⟩) hS (fun q _ h => hFc q h) hFc (fun r_1 u_2 t H locs ht hvm hw hB hz1 hk1 hS => ?_)
  subst hw
  obtain ⟨hP, hD, hK⟩ := jn (wr := []) (w1 := [(mm, .inr (17, [.int 0, .int 0, .ref l0, .ref la, .ref l1, .ref l2, .ref l3, .ref sk, .ref ab, .ref bu, .ref cu, .ref sd, .ref l4])), (l1, .inr (3, [.int 0, .ref tE, .int 0]))]) (t1 := []) (tr := []) hP hD hK [0, 1] [] rfl rfl (by decide) (by decide) [] rfl hk1 hFc hB rfl rfl ht hvm
  have hP : va_P D vwCl [(mm, .inr (17, [.int 0, .int 0, .ref l0, .ref la, .ref l1, .ref l2, .ref l3, .ref sk, .ref ab, .ref bu, .ref cu, .ref sd, .ref l4])), (l1, .inr (3, [.int 0, .ref tE, .int 0]))] H := hP
  have hD : va_D A [(mm, .inr (17, [.int 0, .int 0, .ref l0, .ref la, .ref l1, .ref l2, .ref l3, .ref sk, .ref ab, .ref bu, .ref cu, .ref sd, .ref l4])), (l1, .inr (3, [.int 0, .ref tE, .int 0]))] := hD
  have hK : va_K D vwCl [] s := hK
  refine W.widen (k := 0) (n := 0) (Nat.le_of_ble_eq_true rfl) (Nat.le_of_ble_eq_true rfl) ?_
  refine lv_if_ne (tgt := 19) hx hb dX13_shortest_10 (by decide) (fun c_3 => absurd (by decide) c_3) (fun c_3 => ?_)
  refine lv_aload_n hx hb dX13_shortest_13 rfl (lv_at hl 0 rfl) ?_
  refine lv_iconst (v := 1) hx hb dX13_shortest_14 (by decide) ?_
  have hFc := va_free (wc := [(mm, .inr (17, [.int 0, .int 0, .ref l0, .ref la, .ref l1, .ref l2, .ref l3, .ref sk, .ref ab, .ref bu, .ref cu, .ref sd, .ref l4]))]) hD hS hA [0] rfl
  refine va_calli (va_runV (As := [.int 1]) (rest := []) ⟨hx, hb, hml, hown, hts⟩ (m_fails l D tC tE H.size mm l0 l1 l2 l3 l4 la sk ab bu cu sd 0 0 1) (cwV 1 hts gX13_shortest_X13_fails rfl rfl rfl (by decide +kernel) ⟨(Nat.le_of_ble_eq_true rfl), (Nat.le_of_ble_eq_true rfl)⟩) ⟨pg_blind, (va_recv hK hP (ci := 17) (q0 := 0) rfl rfl), (pg_pre hP hD hK hG hS hFc [0] rfl (by decide) [] rfl _)⟩ rfl rfl hl.1 rfl (lv_room (Nat.le_of_ble_eq_true rfl)) dX13_shortest_15 ⟨(Nat.le_of_ble_eq_true rfl), (Nat.le_of_ble_eq_true rfl)⟩) hS (fun q _ h => hFc q h) hFc (fun r_4 u_5 t H locs ht hvm hw hB hz1 hk1 hS => ?_)
  subst hw
  obtain ⟨hP, hD, hK⟩ := jn (wr := [(l1, .inr (3, [.int 0, .ref tE, .int 0]))]) (w1 := [(mm, .inr (17, [.int 1, .int 0, .ref l0, .ref la, .ref l1, .ref l2, .ref l3, .ref sk, .ref ab, .ref bu, .ref cu, .ref sd, .ref l4]))]) (t1 := []) (tr := []) hP hD hK [0] [1] rfl rfl (by decide) (by decide) [] rfl hk1 hFc hB rfl rfl ht hvm
  have hP : va_P D vwCl [(l1, .inr (3, [.int 0, .ref tE, .int 0])), (mm, .inr (17, [.int 1, .int 0, .ref l0, .ref la, .ref l1, .ref l2, .ref l3, .ref sk, .ref ab, .ref bu, .ref cu, .ref sd, .ref l4]))] H := hP
  have hD : va_D A [(l1, .inr (3, [.int 0, .ref tE, .int 0])), (mm, .inr (17, [.int 1, .int 0, .ref l0, .ref la, .ref l1, .ref l2, .ref l3, .ref sk, .ref ab, .ref bu, .ref cu, .ref sd, .ref l4]))] := hD
  have hK : va_K D vwCl [] s := hK
  refine W.widen (k := 0) (n := 0) (Nat.le_of_ble_eq_true rfl) (Nat.le_of_ble_eq_true rfl) ?_
  have hP9 := hP.sub (ws' := [(mm, .inr (17, [.int 1, .int 0, .ref l0, .ref la, .ref l1, .ref l2, .ref l3, .ref sk, .ref ab, .ref bu, .ref cu, .ref sd, .ref l4]))]) [1] rfl
  have hD9 := hD.sub (ws' := [(mm, .inr (17, [.int 1, .int 0, .ref l0, .ref la, .ref l1, .ref l2, .ref l3, .ref sk, .ref ab, .ref bu, .ref cu, .ref sd, .ref l4]))]) [1] (by decide) rfl
  have hK9 := hK.sub (tys' := []) [] rfl
  exact end_i hx hb hr hlocks hP9 hD9 hK9 hS (1, 0) rfl rfl rfl (Nat.le_of_ble_eq_true rfl) (Nat.le_of_ble_eq_true rfl) dX13_shortest_18
set_option maxHeartbeats 4000000 in
set_option maxRecDepth 100000 in
/-- bonds of the reference, on a fresh object -/
theorem m_bonds (l : Launch) (D : va_G) (tC tE sz : Nat) (mm l0 l1 l2 l3 l4 la sk ab bu cu sd : Nat) (a1 : Int32) : Met l yX13_bonds wsX13_bonds ({ frames := 2, cells := 0, slots := 0, locals := 43 }) (Pg D tC tE sz [(mm, .inr (17, [.int 0, .int 0, .ref l0, .ref la, .ref l1, .ref l2, .ref l3, .ref sk, .ref ab, .ref bu, .ref cu, .ref sd, .ref l4])), (l1, .inr (3, [.int 0, .ref tE, .int 0]))] [] [.ref mm, .int a1]) (Qgi (S := Int32 × Int32) D (fun u => [(mm, .inr (17, [.int (u.1), .int (u.2), .ref l0, .ref la, .ref l1, .ref l2, .ref l3, .ref sk, .ref ab, .ref bu, .ref cu, .ref sd, .ref l4]))]) (fun u => []) (fun _ u => u.1 = 1) (va_A [(mm, .inr (17, [.int 0, .int 0, .ref l0, .ref la, .ref l1, .ref l2, .ref l3, .ref sk, .ref ab, .ref bu, .ref cu, .ref sd, .ref l4])), (l1, .inr (3, [.int 0, .ref tE, .int 0]))] sz)) 0 0 (va_A [(mm, .inr (17, [.int 0, .int 0, .ref l0, .ref la, .ref l1, .ref l2, .ref l3, .ref sk, .ref ab, .ref bu, .ref cu, .ref sd, .ref l4])), (l1, .inr (3, [.int 0, .ref tE, .int 0]))] sz) := by
  refine og_m (cc := cX13_bonds) (maxL := 2) (ret := (some .boolean)) (Qc := Qgi (S := Int32 × Int32) D (fun u => [(mm, .inr (17, [.int (u.1), .int (u.2), .ref l0, .ref la, .ref l1, .ref l2, .ref l3, .ref sk, .ref ab, .ref bu, .ref cu, .ref sd, .ref l4]))]) (fun u => []) (fun _ u => u.1 = 1)) (by decide) rfl (Nat.le_of_ble_eq_true rfl) ?_
  intro p e s m below meth c A hx hb hr hml hts hown hlocks hin hP hD hK hG hA hS ls hl
  have hl : lv_has ls 2 [(0, .ref mm), (1, .int a1)] := hl
  refine lv_aload_n hx hb dX13_bonds_0 rfl (lv_at hl 0 rfl) ?_
  refine lv_aload_n hx hb dX13_bonds_1 rfl (lv_at hl 0 rfl) ?_
  refine lv_iload_n hx hb dX13_bonds_2 rfl (lv_at hl 1 rfl) ?_
  have hFc := va_free (wc := [(mm, .inr (17, [.int 0, .int 0, .ref l0, .ref la, .ref l1, .ref l2, .ref l3, .ref sk, .ref ab, .ref bu, .ref cu, .ref sd, .ref l4])), (l1, .inr (3, [.int 0, .ref tE, .int 0]))]) hD hS hA [0, 1] rfl
  refine va_calli (va_runV (As := [.int a1]) (rest := [.ref mm]) ⟨hx, hb, hml, hown, hts⟩ (m_isStyle l D tC tE s.heap.size mm l0 l1 l2 l3 l4 la sk ab bu cu sd 0 0 a1) (cwV 1 hts gX13_bonds_X13_isStyle rfl rfl rfl (by decide +kernel) ⟨(Nat.le_of_ble_eq_true rfl), (Nat.le_of_ble_eq_true rfl)⟩) ⟨pg_blind, (va_recv hK hP (ci := 17) (q0 := 0) rfl rfl), (pg_pre hP hD hK hG hS hFc [0, 1] rfl (by decide) [] rfl _)⟩ rfl rfl hl.1 rfl (lv_room (Nat.le_of_ble_eq_true rfl)) dX13_bonds_3 ⟨(Nat.le_of_ble_eq_true rfl), (Nat.le_of_ble_eq_true rfl)⟩) hS (fun q _ h => hFc q h) hFc (fun r_1 u_2 t H locs ht hvm hw hB hz1 hk1 hS => ?_)
  subst hw
  obtain ⟨hP, hD, hK⟩ := jn (wr := []) (w1 := [(mm, .inr (17, [.int 0, .int 0, .ref l0, .ref la, .ref l1, .ref l2, .ref l3, .ref sk, .ref ab, .ref bu, .ref cu, .ref sd, .ref l4])), (l1, .inr (3, [.int 0, .ref tE, .int 0]))]) (t1 := []) (tr := []) hP hD hK [0, 1] [] rfl rfl (by decide) (by decide) [] rfl hk1 hFc hB rfl rfl ht hvm
  have hP : va_P D vwCl [(mm, .inr (17, [.int 0, .int 0, .ref l0, .ref la, .ref l1, .ref l2, .ref l3, .ref sk, .ref ab, .ref bu, .ref cu, .ref sd, .ref l4])), (l1, .inr (3, [.int 0, .ref tE, .int 0]))] H := hP
  have hD : va_D A [(mm, .inr (17, [.int 0, .int 0, .ref l0, .ref la, .ref l1, .ref l2, .ref l3, .ref sk, .ref ab, .ref bu, .ref cu, .ref sd, .ref l4])), (l1, .inr (3, [.int 0, .ref tE, .int 0]))] := hD
  have hK : va_K D vwCl [] s := hK
  refine W.widen (k := 0) (n := 0) (Nat.le_of_ble_eq_true rfl) (Nat.le_of_ble_eq_true rfl) ?_
  refine lv_if_eq (tgt := 13) hx hb dX13_bonds_6 (by decide) (fun c_3 => ?_) (fun c_3 => absurd (show (0 : Int32) = 0 from (by decide)) c_3)
  refine lv_iconst (v := 1) hx hb dX13_bonds_13 (by decide) ?_
  refine va_put (D := D) (ci := 17) (v := .int 1) (ty := .int) (C := RX13) (T := TX13) (N := 13) hx hb hts (fun w h => List.mem_cons_of_mem _ (List.mem_append_left _ (List.mem_append_left _ (List.mem_append_right _ h)))) tyX13 tyX13_ok nmX13 hown hK hP hD hS 0 rfl rfl 0 (by decide) (hts (.fieldLink RX13 48 "LastroomModel" "code" "I") (List.mem_of_getElem? (i := 1) rfl)) (fun _ h9 => h9) rfl (by decide +kernel) rfl rfl (Nat.le_of_ble_eq_true rfl) dX13_bonds_14 (fun H locs hP hD hS => ?_)
  have hP : va_P D vwCl [(mm, .inr (17, [.int 1, .int 0, .ref l0, .ref la, .ref l1, .ref l2, .ref l3, .ref sk, .ref ab, .ref bu, .ref cu, .ref sd, .ref l4])), (l1, .inr (3, [.int 0, .ref tE, .int 0]))] H := hP
  have hD : va_D A [(mm, .inr (17, [.int 1, .int 0, .ref l0, .ref la, .ref l1, .ref l2, .ref l3, .ref sk, .ref ab, .ref bu, .ref cu, .ref sd, .ref l4])), (l1, .inr (3, [.int 0, .ref tE, .int 0]))] := hD
  refine lv_aload_n hx hb dX13_bonds_17 rfl (lv_at hl 0 rfl) ?_
  refine va_get (D := D) (ci := 17) (v := .int 1) (C := RX13) (T := TX13) (N := 13) hx hb hts (fun w h => List.mem_cons_of_mem _ (List.mem_append_left _ (List.mem_append_left _ (List.mem_append_right _ h)))) hown hK hP 0 rfl rfl 0 (by decide) (hts (.fieldLink RX13 48 "LastroomModel" "code" "I") (List.mem_of_getElem? (i := 1) rfl)) (fun _ h9 => h9) rfl dX13_bonds_18 ?_
  refine lv_if_ne (tgt := 47) hx hb dX13_bonds_21 (by decide) (fun c_4 => ?_) (fun c_4 => absurd c_4 (by decide))
  refine lv_iconst (v := 0) hx hb dX13_bonds_47 (by decide) ?_
  have hP9 := hP.sub (ws' := [(mm, .inr (17, [.int 1, .int 0, .ref l0, .ref la, .ref l1, .ref l2, .ref l3, .ref sk, .ref ab, .ref bu, .ref cu, .ref sd, .ref l4]))]) [0] rfl
  have hD9 := hD.sub (ws' := [(mm, .inr (17, [.int 1, .int 0, .ref l0, .ref la, .ref l1, .ref l2, .ref l3, .ref sk, .ref ab, .ref bu, .ref cu, .ref sd, .ref l4]))]) [0] (by decide) rfl
  have hK9 := hK.sub (tys' := []) [] rfl
  exact end_z hx hb hr hlocks (by decide) hP9 hD9 hK9 hS (1, 0) rfl rfl rfl (Nat.le_of_ble_eq_true rfl) (Nat.le_of_ble_eq_true rfl) dX13_bonds_48
set_option maxHeartbeats 4000000 in
set_option maxRecDepth 100000 in
/-- ticket of the reference, on a fresh object -/
theorem m_ticket (l : Launch) (D : va_G) (tC tE sz : Nat) (mm l0 l1 l2 l3 l4 la sk ab bu cu sd : Nat) (a1 a2 : Int32) : Met l yX13_ticket wsX13_ticket ({ frames := 2, cells := 0, slots := 0, locals := 43 }) (Pg D tC tE sz [(mm, .inr (17, [.int 0, .int 0, .ref l0, .ref la, .ref l1, .ref l2, .ref l3, .ref sk, .ref ab, .ref bu, .ref cu, .ref sd, .ref l4])), (l1, .inr (3, [.int 0, .ref tE, .int 0]))] [] [.ref mm, .int a1, .int a2]) (Qgi (S := Int32 × Int32) D (fun u => [(mm, .inr (17, [.int (u.1), .int (u.2), .ref l0, .ref la, .ref l1, .ref l2, .ref l3, .ref sk, .ref ab, .ref bu, .ref cu, .ref sd, .ref l4]))]) (fun u => []) (fun _ u => u.1 = 1) (va_A [(mm, .inr (17, [.int 0, .int 0, .ref l0, .ref la, .ref l1, .ref l2, .ref l3, .ref sk, .ref ab, .ref bu, .ref cu, .ref sd, .ref l4])), (l1, .inr (3, [.int 0, .ref tE, .int 0]))] sz)) 0 0 (va_A [(mm, .inr (17, [.int 0, .int 0, .ref l0, .ref la, .ref l1, .ref l2, .ref l3, .ref sk, .ref ab, .ref bu, .ref cu, .ref sd, .ref l4])), (l1, .inr (3, [.int 0, .ref tE, .int 0]))] sz) := by
  refine og_m (cc := cX13_ticket) (maxL := 3) (ret := (some .int)) (Qc := Qgi (S := Int32 × Int32) D (fun u => [(mm, .inr (17, [.int (u.1), .int (u.2), .ref l0, .ref la, .ref l1, .ref l2, .ref l3, .ref sk, .ref ab, .ref bu, .ref cu, .ref sd, .ref l4]))]) (fun u => []) (fun _ u => u.1 = 1)) (by decide) rfl (Nat.le_of_ble_eq_true rfl) ?_
  intro p e s m below meth c A hx hb hr hml hts hown hlocks hin hP hD hK hG hA hS ls hl
  have hl : lv_has ls 3 [(0, .ref mm), (1, .int a1), (2, .int a2)] := hl
  refine lv_aload_n hx hb dX13_ticket_0 rfl (lv_at hl 0 rfl) ?_
  refine lv_iconst (v := 0) hx hb dX13_ticket_1 (by decide) ?_
  refine va_put (D := D) (ci := 17) (v := .int 0) (ty := .int) (C := RX13) (T := TX13) (N := 13) hx hb hts (fun w h => List.mem_cons_of_mem _ (List.mem_append_left _ (List.mem_append_left _ (List.mem_append_left _ (List.mem_append_right _ h))))) tyX13 tyX13_ok nmX13 hown hK hP hD hS 0 rfl rfl 0 (by decide) (hts (.fieldLink RX13 48 "LastroomModel" "code" "I") (List.mem_of_getElem? (i := 1) rfl)) (fun _ h9 => h9) rfl (by decide +kernel) rfl rfl (Nat.le_of_ble_eq_true rfl) dX13_ticket_2 (fun H locs hP hD hS => ?_)
  have hP : va_P D vwCl [(mm, .inr (17, [.int 0, .int 0, .ref l0, .ref la, .ref l1, .ref l2, .ref l3, .ref sk, .ref ab, .ref bu, .ref cu, .ref sd, .ref l4])), (l1, .inr (3, [.int 0, .ref tE, .int 0]))] H := hP
  have hD : va_D A [(mm, .inr (17, [.int 0, .int 0, .ref l0, .ref la, .ref l1, .ref l2, .ref l3, .ref sk, .ref ab, .ref bu, .ref cu, .ref sd, .ref l4])), (l1, .inr (3, [.int 0, .ref tE, .int 0]))] := hD
  refine lv_aload_n hx hb dX13_ticket_5 rfl (lv_at hl 0 rfl) ?_
  refine lv_iload_n hx hb dX13_ticket_6 rfl (lv_at hl 1 rfl) ?_
  have hFc := va_free (wc := [(mm, .inr (17, [.int 0, .int 0, .ref l0, .ref la, .ref l1, .ref l2, .ref l3, .ref sk, .ref ab, .ref bu, .ref cu, .ref sd, .ref l4])), (l1, .inr (3, [.int 0, .ref tE, .int 0]))]) hD hS hA [0, 1] rfl
  refine va_calli (va_runV (As := [.int a1]) (rest := []) ⟨hx, hb, hml, hown, hts⟩ (m_isStyle l D tC tE H.size mm l0 l1 l2 l3 l4 la sk ab bu cu sd 0 0 a1) (cwV 1 hts gX13_ticket_X13_isStyle rfl rfl rfl (by decide +kernel) ⟨(Nat.le_of_ble_eq_true rfl), (Nat.le_of_ble_eq_true rfl)⟩) ⟨pg_blind, (va_recv hK hP (ci := 17) (q0 := 0) rfl rfl), (pg_pre hP hD hK hG hS hFc [0, 1] rfl (by decide) [] rfl _)⟩ rfl rfl hl.1 rfl (lv_room (Nat.le_of_ble_eq_true rfl)) dX13_ticket_7 ⟨(Nat.le_of_ble_eq_true rfl), (Nat.le_of_ble_eq_true rfl)⟩) hS (fun q _ h => hFc q h) hFc (fun r_1 u_2 t H locs ht hvm hw hB hz1 hk1 hS => ?_)
  subst hw
  obtain ⟨hP, hD, hK⟩ := jn (wr := []) (w1 := [(mm, .inr (17, [.int 0, .int 0, .ref l0, .ref la, .ref l1, .ref l2, .ref l3, .ref sk, .ref ab, .ref bu, .ref cu, .ref sd, .ref l4])), (l1, .inr (3, [.int 0, .ref tE, .int 0]))]) (t1 := []) (tr := []) hP hD hK [0, 1] [] rfl rfl (by decide) (by decide) [] rfl hk1 hFc hB rfl rfl ht hvm
  have hP : va_P D vwCl [(mm, .inr (17, [.int 0, .int 0, .ref l0, .ref la, .ref l1, .ref l2, .ref l3, .ref sk, .ref ab, .ref bu, .ref cu, .ref sd, .ref l4])), (l1, .inr (3, [.int 0, .ref tE, .int 0]))] H := hP
  have hD : va_D A [(mm, .inr (17, [.int 0, .int 0, .ref l0, .ref la, .ref l1, .ref l2, .ref l3, .ref sk, .ref ab, .ref bu, .ref cu, .ref sd, .ref l4])), (l1, .inr (3, [.int 0, .ref tE, .int 0]))] := hD
  have hK : va_K D vwCl [] s := hK
  refine W.widen (k := 0) (n := 0) (Nat.le_of_ble_eq_true rfl) (Nat.le_of_ble_eq_true rfl) ?_
  refine lv_if_ne (tgt := 19) hx hb dX13_ticket_10 (by decide) (fun c_3 => absurd (by decide) c_3) (fun c_3 => ?_)
  refine lv_aload_n hx hb dX13_ticket_13 rfl (lv_at hl 0 rfl) ?_
  refine lv_iconst (v := 1) hx hb dX13_ticket_14 (by decide) ?_
  have hFc := va_free (wc := [(mm, .inr (17, [.int 0, .int 0, .ref l0, .ref la, .ref l1, .ref l2, .ref l3, .ref sk, .ref ab, .ref bu, .ref cu, .ref sd, .ref l4]))]) hD hS hA [0] rfl
  refine va_calli (va_runV (As := [.int 1]) (rest := []) ⟨hx, hb, hml, hown, hts⟩ (m_fails l D tC tE H.size mm l0 l1 l2 l3 l4 la sk ab bu cu sd 0 0 1) (cwV 1 hts gX13_ticket_X13_fails rfl rfl rfl (by decide +kernel) ⟨(Nat.le_of_ble_eq_true rfl), (Nat.le_of_ble_eq_true rfl)⟩) ⟨pg_blind, (va_recv hK hP (ci := 17) (q0 := 0) rfl rfl), (pg_pre hP hD hK hG hS hFc [0] rfl (by decide) [] rfl _)⟩ rfl rfl hl.1 rfl (lv_room (Nat.le_of_ble_eq_true rfl)) dX13_ticket_15 ⟨(Nat.le_of_ble_eq_true rfl), (Nat.le_of_ble_eq_true rfl)⟩) hS (fun q _ h => hFc q h) hFc (fun r_4 u_5 t H locs ht hvm hw hB hz1 hk1 hS => ?_)
  subst hw
  obtain ⟨hP, hD, hK⟩ := jn (wr := [(l1, .inr (3, [.int 0, .ref tE, .int 0]))]) (w1 := [(mm, .inr (17, [.int 1, .int 0, .ref l0, .ref la, .ref l1, .ref l2, .ref l3, .ref sk, .ref ab, .ref bu, .ref cu, .ref sd, .ref l4]))]) (t1 := []) (tr := []) hP hD hK [0] [1] rfl rfl (by decide) (by decide) [] rfl hk1 hFc hB rfl rfl ht hvm
  have hP : va_P D vwCl [(l1, .inr (3, [.int 0, .ref tE, .int 0])), (mm, .inr (17, [.int 1, .int 0, .ref l0, .ref la, .ref l1, .ref l2, .ref l3, .ref sk, .ref ab, .ref bu, .ref cu, .ref sd, .ref l4]))] H := hP
  have hD : va_D A [(l1, .inr (3, [.int 0, .ref tE, .int 0])), (mm, .inr (17, [.int 1, .int 0, .ref l0, .ref la, .ref l1, .ref l2, .ref l3, .ref sk, .ref ab, .ref bu, .ref cu, .ref sd, .ref l4]))] := hD
  have hK : va_K D vwCl [] s := hK
  refine W.widen (k := 0) (n := 0) (Nat.le_of_ble_eq_true rfl) (Nat.le_of_ble_eq_true rfl) ?_
  have hP9 := hP.sub (ws' := [(mm, .inr (17, [.int 1, .int 0, .ref l0, .ref la, .ref l1, .ref l2, .ref l3, .ref sk, .ref ab, .ref bu, .ref cu, .ref sd, .ref l4]))]) [1] rfl
  have hD9 := hD.sub (ws' := [(mm, .inr (17, [.int 1, .int 0, .ref l0, .ref la, .ref l1, .ref l2, .ref l3, .ref sk, .ref ab, .ref bu, .ref cu, .ref sd, .ref l4]))]) [1] (by decide) rfl
  have hK9 := hK.sub (tys' := []) [] rfl
  exact end_i hx hb hr hlocks hP9 hD9 hK9 hS (1, 0) rfl rfl rfl (Nat.le_of_ble_eq_true rfl) (Nat.le_of_ble_eq_true rfl) dX13_ticket_18
set_option maxHeartbeats 4000000 in
set_option maxRecDepth 100000 in
/-- fault of the reference, on a fresh object -/
theorem m_fault (l : Launch) (D : va_G) (tC tE sz : Nat) (mm l0 l1 l2 l3 l4 la sk ab bu cu sd : Nat) (a1 a2 a3 a4 : Int32) : Met l yX13_fault wsX13_fault ({ frames := 2, cells := 0, slots := 0, locals := 43 }) (Pg D tC tE sz [(mm, .inr (17, [.int 0, .int 0, .ref l0, .ref la, .ref l1, .ref l2, .ref l3, .ref sk, .ref ab, .ref bu, .ref cu, .ref sd, .ref l4])), (l2, .inr (3, [.int 0, .ref tE, .int 0]))] [] [.ref mm, .int a1, .int a2, .int a3, .int a4]) (Qgi (S := Int32 × Int32) D (fun u => [(mm, .inr (17, [.int (u.1), .int (u.2), .ref l0, .ref la, .ref l1, .ref l2, .ref l3, .ref sk, .ref ab, .ref bu, .ref cu, .ref sd, .ref l4]))]) (fun u => []) (fun _ u => u.1 = 1) (va_A [(mm, .inr (17, [.int 0, .int 0, .ref l0, .ref la, .ref l1, .ref l2, .ref l3, .ref sk, .ref ab, .ref bu, .ref cu, .ref sd, .ref l4])), (l2, .inr (3, [.int 0, .ref tE, .int 0]))] sz)) 0 0 (va_A [(mm, .inr (17, [.int 0, .int 0, .ref l0, .ref la, .ref l1, .ref l2, .ref l3, .ref sk, .ref ab, .ref bu, .ref cu, .ref sd, .ref l4])), (l2, .inr (3, [.int 0, .ref tE, .int 0]))] sz) := by
  refine og_m (cc := cX13_fault) (maxL := 7) (ret := (some .int)) (Qc := Qgi (S := Int32 × Int32) D (fun u => [(mm, .inr (17, [.int (u.1), .int (u.2), .ref l0, .ref la, .ref l1, .ref l2, .ref l3, .ref sk, .ref ab, .ref bu, .ref cu, .ref sd, .ref l4]))]) (fun u => []) (fun _ u => u.1 = 1)) (by decide) rfl (Nat.le_of_ble_eq_true rfl) ?_
  intro p e s m below meth c A hx hb hr hml hts hown hlocks hin hP hD hK hG hA hS ls hl
  have hl : lv_has ls 7 [(0, .ref mm), (1, .int a1), (2, .int a2), (3, .int a3), (4, .int a4)] := hl
  refine lv_aload_n hx hb dX13_fault_0 rfl (lv_at hl 0 rfl) ?_
  refine lv_iconst (v := 0) hx hb dX13_fault_1 (by decide) ?_
  refine va_put (D := D) (ci := 17) (v := .int 0) (ty := .int) (C := RX13) (T := TX13) (N := 13) hx hb hts (fun w h => List.mem_cons_of_mem _ (List.mem_append_left _ (List.mem_append_left _ (List.mem_append_left _ (List.mem_append_right _ h))))) tyX13 tyX13_ok nmX13 hown hK hP hD hS 0 rfl rfl 0 (by decide) (hts (.fieldLink RX13 48 "LastroomModel" "code" "I") (List.mem_of_getElem? (i := 1) rfl)) (fun _ h9 => h9) rfl (by decide +kernel) rfl rfl (Nat.le_of_ble_eq_true rfl) dX13_fault_2 (fun H locs hP hD hS => ?_)
  have hP : va_P D vwCl [(mm, .inr (17, [.int 0, .int 0, .ref l0, .ref la, .ref l1, .ref l2, .ref l3, .ref sk, .ref ab, .ref bu, .ref cu, .ref sd, .ref l4])), (l2, .inr (3, [.int 0, .ref tE, .int 0]))] H := hP
  have hD : va_D A [(mm, .inr (17, [.int 0, .int 0, .ref l0, .ref la, .ref l1, .ref l2, .ref l3, .ref sk, .ref ab, .ref bu, .ref cu, .ref sd, .ref l4])), (l2, .inr (3, [.int 0, .ref tE, .int 0]))] := hD
  refine lv_aload_n hx hb dX13_fault_5 rfl (lv_at hl 0 rfl) ?_
  refine lv_iload_n hx hb dX13_fault_6 rfl (lv_at hl 1 rfl) ?_
  have hFc := va_free (wc := [(mm, .inr (17, [.int 0, .int 0, .ref l0, .ref la, .ref l1, .ref l2, .ref l3, .ref sk, .ref ab, .ref bu, .ref cu, .ref sd, .ref l4])), (l2, .inr (3, [.int 0, .ref tE, .int 0]))]) hD hS hA [0, 1] rfl
  refine va_calli (va_runV (As := [.int a1]) (rest := []) ⟨hx, hb, hml, hown, hts⟩ (m_isHide l D tC tE H.size mm l0 l1 l2 l3 l4 la sk ab bu cu sd 0 0 a1) (cwV 1 hts gX13_fault_X13_isHide rfl rfl rfl (by decide +kernel) ⟨(Nat.le_of_ble_eq_true rfl), (Nat.le_of_ble_eq_true rfl)⟩) ⟨pg_blind, (va_recv hK hP (ci := 17) (q0 := 0) rfl rfl), (pg_pre hP hD hK hG hS hFc [0, 1] rfl (by decide) [] rfl _)⟩ rfl rfl hl.1 rfl (lv_room (Nat.le_of_ble_eq_true rfl)) dX13_fault_7 ⟨(Nat.le_of_ble_eq_true rfl), (Nat.le_of_ble_eq_true rfl)⟩) hS (fun q _ h => hFc q h) hFc (fun r_1 u_2 t H locs ht hvm hw hB hz1 hk1 hS => ?_)
  subst hw
  obtain ⟨hP, hD, hK⟩ := jn (wr := []) (w1 := [(mm, .inr (17, [.int 0, .int 0, .ref l0, .ref la, .ref l1, .ref l2, .ref l3, .ref sk, .ref ab, .ref bu, .ref cu, .ref sd, .ref l4])), (l2, .inr (3, [.int 0, .ref tE, .int 0]))]) (t1 := []) (tr := []) hP hD hK [0, 1] [] rfl rfl (by decide) (by decide) [] rfl hk1 hFc hB rfl rfl ht hvm
  have hP : va_P D vwCl [(mm, .inr (17, [.int 0, .int 0, .ref l0, .ref la, .ref l1, .ref l2, .ref l3, .ref sk, .ref ab, .ref bu, .ref cu, .ref sd, .ref l4])), (l2, .inr (3, [.int 0, .ref tE, .int 0]))] H := hP
  have hD : va_D A [(mm, .inr (17, [.int 0, .int 0, .ref l0, .ref la, .ref l1, .ref l2, .ref l3, .ref sk, .ref ab, .ref bu, .ref cu, .ref sd, .ref l4])), (l2, .inr (3, [.int 0, .ref tE, .int 0]))] := hD
  have hK : va_K D vwCl [] s := hK
  refine W.widen (k := 0) (n := 0) (Nat.le_of_ble_eq_true rfl) (Nat.le_of_ble_eq_true rfl) ?_
  refine lv_if_ne (tgt := 19) hx hb dX13_fault_10 (by decide) (fun c_3 => absurd (by decide) c_3) (fun c_3 => ?_)
  refine lv_aload_n hx hb dX13_fault_13 rfl (lv_at hl 0 rfl) ?_
  refine lv_iconst (v := 1) hx hb dX13_fault_14 (by decide) ?_
  have hFc := va_free (wc := [(mm, .inr (17, [.int 0, .int 0, .ref l0, .ref la, .ref l1, .ref l2, .ref l3, .ref sk, .ref ab, .ref bu, .ref cu, .ref sd, .ref l4]))]) hD hS hA [0] rfl
  refine va_calli (va_runV (As := [.int 1]) (rest := []) ⟨hx, hb, hml, hown, hts⟩ (m_fails l D tC tE H.size mm l0 l1 l2 l3 l4 la sk ab bu cu sd 0 0 1) (cwV 1 hts gX13_fault_X13_fails rfl rfl rfl (by decide +kernel) ⟨(Nat.le_of_ble_eq_true rfl), (Nat.le_of_ble_eq_true rfl)⟩) ⟨pg_blind, (va_recv hK hP (ci := 17) (q0 := 0) rfl rfl), (pg_pre hP hD hK hG hS hFc [0] rfl (by decide) [] rfl _)⟩ rfl rfl hl.1 rfl (lv_room (Nat.le_of_ble_eq_true rfl)) dX13_fault_15 ⟨(Nat.le_of_ble_eq_true rfl), (Nat.le_of_ble_eq_true rfl)⟩) hS (fun q _ h => hFc q h) hFc (fun r_4 u_5 t H locs ht hvm hw hB hz1 hk1 hS => ?_)
  subst hw
  obtain ⟨hP, hD, hK⟩ := jn (wr := [(l2, .inr (3, [.int 0, .ref tE, .int 0]))]) (w1 := [(mm, .inr (17, [.int 1, .int 0, .ref l0, .ref la, .ref l1, .ref l2, .ref l3, .ref sk, .ref ab, .ref bu, .ref cu, .ref sd, .ref l4]))]) (t1 := []) (tr := []) hP hD hK [0] [1] rfl rfl (by decide) (by decide) [] rfl hk1 hFc hB rfl rfl ht hvm
  have hP : va_P D vwCl [(l2, .inr (3, [.int 0, .ref tE, .int 0])), (mm, .inr (17, [.int 1, .int 0, .ref l0, .ref la, .ref l1, .ref l2, .ref l3, .ref sk, .ref ab, .ref bu, .ref cu, .ref sd, .ref l4]))] H := hP
  have hD : va_D A [(l2, .inr (3, [.int 0, .ref tE, .int 0])), (mm, .inr (17, [.int 1, .int 0, .ref l0, .ref la, .ref l1, .ref l2, .ref l3, .ref sk, .ref ab, .ref bu, .ref cu, .ref sd, .ref l4]))] := hD
  have hK : va_K D vwCl [] s := hK
  refine W.widen (k := 0) (n := 0) (Nat.le_of_ble_eq_true rfl) (Nat.le_of_ble_eq_true rfl) ?_
  have hP9 := hP.sub (ws' := [(mm, .inr (17, [.int 1, .int 0, .ref l0, .ref la, .ref l1, .ref l2, .ref l3, .ref sk, .ref ab, .ref bu, .ref cu, .ref sd, .ref l4]))]) [1] rfl
  have hD9 := hD.sub (ws' := [(mm, .inr (17, [.int 1, .int 0, .ref l0, .ref la, .ref l1, .ref l2, .ref l3, .ref sk, .ref ab, .ref bu, .ref cu, .ref sd, .ref l4]))]) [1] (by decide) rfl
  have hK9 := hK.sub (tys' := []) [] rfl
  exact end_i hx hb hr hlocks hP9 hD9 hK9 hS (1, 0) rfl rfl rfl (Nat.le_of_ble_eq_true rfl) (Nat.le_of_ble_eq_true rfl) dX13_fault_18
set_option maxHeartbeats 4000000 in
set_option maxRecDepth 100000 in
/-- cellOf of the reference, on a fresh object -/
theorem m_cellOf (l : Launch) (D : va_G) (tC tE sz : Nat) (mm l0 l1 l2 l3 l4 la sk ab bu cu sd : Nat) (a1 a2 a3 : Int32) : Met l yX13_cellOf wsX13_cellOf ({ frames := 2, cells := 0, slots := 0, locals := 43 }) (Pg D tC tE sz [(mm, .inr (17, [.int 0, .int 0, .ref l0, .ref la, .ref l1, .ref l2, .ref l3, .ref sk, .ref ab, .ref bu, .ref cu, .ref sd, .ref l4])), (l2, .inr (3, [.int 0, .ref tE, .int 0]))] [] [.ref mm, .int a1, .int a2, .int a3]) (Qgi (S := Int32 × Int32) D (fun u => [(mm, .inr (17, [.int (u.1), .int (u.2), .ref l0, .ref la, .ref l1, .ref l2, .ref l3, .ref sk, .ref ab, .ref bu, .ref cu, .ref sd, .ref l4]))]) (fun u => []) (fun _ u => u.1 = 1) (va_A [(mm, .inr (17, [.int 0, .int 0, .ref l0, .ref la, .ref l1, .ref l2, .ref l3, .ref sk, .ref ab, .ref bu, .ref cu, .ref sd, .ref l4])), (l2, .inr (3, [.int 0, .ref tE, .int 0]))] sz)) 0 0 (va_A [(mm, .inr (17, [.int 0, .int 0, .ref l0, .ref la, .ref l1, .ref l2, .ref l3, .ref sk, .ref ab, .ref bu, .ref cu, .ref sd, .ref l4])), (l2, .inr (3, [.int 0, .ref tE, .int 0]))] sz) := by
  refine og_m (cc := cX13_cellOf) (maxL := 4) (ret := (some .int)) (Qc := Qgi (S := Int32 × Int32) D (fun u => [(mm, .inr (17, [.int (u.1), .int (u.2), .ref l0, .ref la, .ref l1, .ref l2, .ref l3, .ref sk, .ref ab, .ref bu, .ref cu, .ref sd, .ref l4]))]) (fun u => []) (fun _ u => u.1 = 1)) (by decide) rfl (Nat.le_of_ble_eq_true rfl) ?_
  intro p e s m below meth c A hx hb hr hml hts hown hlocks hin hP hD hK hG hA hS ls hl
  have hl : lv_has ls 4 [(0, .ref mm), (1, .int a1), (2, .int a2), (3, .int a3)] := hl
  refine lv_aload_n hx hb dX13_cellOf_0 rfl (lv_at hl 0 rfl) ?_
  refine lv_iconst (v := 0) hx hb dX13_cellOf_1 (by decide) ?_
  refine va_put (D := D) (ci := 17) (v := .int 0) (ty := .int) (C := RX13) (T := TX13) (N := 13) hx hb hts (fun w h => List.mem_cons_of_mem _ (List.mem_append_left _ (List.mem_append_left _ (List.mem_append_left _ (List.mem_append_right _ h))))) tyX13 tyX13_ok nmX13 hown hK hP hD hS 0 rfl rfl 0 (by decide) (hts (.fieldLink RX13 48 "LastroomModel" "code" "I") (List.mem_of_getElem? (i := 1) rfl)) (fun _ h9 => h9) rfl (by decide +kernel) rfl rfl (Nat.le_of_ble_eq_true rfl) dX13_cellOf_2 (fun H locs hP hD hS => ?_)
  have hP : va_P D vwCl [(mm, .inr (17, [.int 0, .int 0, .ref l0, .ref la, .ref l1, .ref l2, .ref l3, .ref sk, .ref ab, .ref bu, .ref cu, .ref sd, .ref l4])), (l2, .inr (3, [.int 0, .ref tE, .int 0]))] H := hP
  have hD : va_D A [(mm, .inr (17, [.int 0, .int 0, .ref l0, .ref la, .ref l1, .ref l2, .ref l3, .ref sk, .ref ab, .ref bu, .ref cu, .ref sd, .ref l4])), (l2, .inr (3, [.int 0, .ref tE, .int 0]))] := hD
  refine lv_aload_n hx hb dX13_cellOf_5 rfl (lv_at hl 0 rfl) ?_
  refine lv_iload_n hx hb dX13_cellOf_6 rfl (lv_at hl 1 rfl) ?_
  have hFc := va_free (wc := [(mm, .inr (17, [.int 0, .int 0, .ref l0, .ref la, .ref l1, .ref l2, .ref l3, .ref sk, .ref ab, .ref bu, .ref cu, .ref sd, .ref l4])), (l2, .inr (3, [.int 0, .ref tE, .int 0]))]) hD hS hA [0, 1] rfl
  refine va_calli (va_runV (As := [.int a1]) (rest := []) ⟨hx, hb, hml, hown, hts⟩ (m_isHide l D tC tE H.size mm l0 l1 l2 l3 l4 la sk ab bu cu sd 0 0 a1) (cwV 1 hts gX13_cellOf_X13_isHide rfl rfl rfl (by decide +kernel) ⟨(Nat.le_of_ble_eq_true rfl), (Nat.le_of_ble_eq_true rfl)⟩) ⟨pg_blind, (va_recv hK hP (ci := 17) (q0 := 0) rfl rfl), (pg_pre hP hD hK hG hS hFc [0, 1] rfl (by decide) [] rfl _)⟩ rfl rfl hl.1 rfl (lv_room (Nat.le_of_ble_eq_true rfl)) dX13_cellOf_7 ⟨(Nat.le_of_ble_eq_true rfl), (Nat.le_of_ble_eq_true rfl)⟩) hS (fun q _ h => hFc q h) hFc (fun r_1 u_2 t H locs ht hvm hw hB hz1 hk1 hS => ?_)
  subst hw
  obtain ⟨hP, hD, hK⟩ := jn (wr := []) (w1 := [(mm, .inr (17, [.int 0, .int 0, .ref l0, .ref la, .ref l1, .ref l2, .ref l3, .ref sk, .ref ab, .ref bu, .ref cu, .ref sd, .ref l4])), (l2, .inr (3, [.int 0, .ref tE, .int 0]))]) (t1 := []) (tr := []) hP hD hK [0, 1] [] rfl rfl (by decide) (by decide) [] rfl hk1 hFc hB rfl rfl ht hvm
  have hP : va_P D vwCl [(mm, .inr (17, [.int 0, .int 0, .ref l0, .ref la, .ref l1, .ref l2, .ref l3, .ref sk, .ref ab, .ref bu, .ref cu, .ref sd, .ref l4])), (l2, .inr (3, [.int 0, .ref tE, .int 0]))] H := hP
  have hD : va_D A [(mm, .inr (17, [.int 0, .int 0, .ref l0, .ref la, .ref l1, .ref l2, .ref l3, .ref sk, .ref ab, .ref bu, .ref cu, .ref sd, .ref l4])), (l2, .inr (3, [.int 0, .ref tE, .int 0]))] := hD
  have hK : va_K D vwCl [] s := hK
  refine W.widen (k := 0) (n := 0) (Nat.le_of_ble_eq_true rfl) (Nat.le_of_ble_eq_true rfl) ?_
  refine lv_if_ne (tgt := 19) hx hb dX13_cellOf_10 (by decide) (fun c_3 => absurd (by decide) c_3) (fun c_3 => ?_)
  refine lv_aload_n hx hb dX13_cellOf_13 rfl (lv_at hl 0 rfl) ?_
  refine lv_iconst (v := 1) hx hb dX13_cellOf_14 (by decide) ?_
  have hFc := va_free (wc := [(mm, .inr (17, [.int 0, .int 0, .ref l0, .ref la, .ref l1, .ref l2, .ref l3, .ref sk, .ref ab, .ref bu, .ref cu, .ref sd, .ref l4]))]) hD hS hA [0] rfl
  refine va_calli (va_runV (As := [.int 1]) (rest := []) ⟨hx, hb, hml, hown, hts⟩ (m_fails l D tC tE H.size mm l0 l1 l2 l3 l4 la sk ab bu cu sd 0 0 1) (cwV 1 hts gX13_cellOf_X13_fails rfl rfl rfl (by decide +kernel) ⟨(Nat.le_of_ble_eq_true rfl), (Nat.le_of_ble_eq_true rfl)⟩) ⟨pg_blind, (va_recv hK hP (ci := 17) (q0 := 0) rfl rfl), (pg_pre hP hD hK hG hS hFc [0] rfl (by decide) [] rfl _)⟩ rfl rfl hl.1 rfl (lv_room (Nat.le_of_ble_eq_true rfl)) dX13_cellOf_15 ⟨(Nat.le_of_ble_eq_true rfl), (Nat.le_of_ble_eq_true rfl)⟩) hS (fun q _ h => hFc q h) hFc (fun r_4 u_5 t H locs ht hvm hw hB hz1 hk1 hS => ?_)
  subst hw
  obtain ⟨hP, hD, hK⟩ := jn (wr := [(l2, .inr (3, [.int 0, .ref tE, .int 0]))]) (w1 := [(mm, .inr (17, [.int 1, .int 0, .ref l0, .ref la, .ref l1, .ref l2, .ref l3, .ref sk, .ref ab, .ref bu, .ref cu, .ref sd, .ref l4]))]) (t1 := []) (tr := []) hP hD hK [0] [1] rfl rfl (by decide) (by decide) [] rfl hk1 hFc hB rfl rfl ht hvm
  have hP : va_P D vwCl [(l2, .inr (3, [.int 0, .ref tE, .int 0])), (mm, .inr (17, [.int 1, .int 0, .ref l0, .ref la, .ref l1, .ref l2, .ref l3, .ref sk, .ref ab, .ref bu, .ref cu, .ref sd, .ref l4]))] H := hP
  have hD : va_D A [(l2, .inr (3, [.int 0, .ref tE, .int 0])), (mm, .inr (17, [.int 1, .int 0, .ref l0, .ref la, .ref l1, .ref l2, .ref l3, .ref sk, .ref ab, .ref bu, .ref cu, .ref sd, .ref l4]))] := hD
  have hK : va_K D vwCl [] s := hK
  refine W.widen (k := 0) (n := 0) (Nat.le_of_ble_eq_true rfl) (Nat.le_of_ble_eq_true rfl) ?_
  have hP9 := hP.sub (ws' := [(mm, .inr (17, [.int 1, .int 0, .ref l0, .ref la, .ref l1, .ref l2, .ref l3, .ref sk, .ref ab, .ref bu, .ref cu, .ref sd, .ref l4]))]) [1] rfl
  have hD9 := hD.sub (ws' := [(mm, .inr (17, [.int 1, .int 0, .ref l0, .ref la, .ref l1, .ref l2, .ref l3, .ref sk, .ref ab, .ref bu, .ref cu, .ref sd, .ref l4]))]) [1] (by decide) rfl
  have hK9 := hK.sub (tys' := []) [] rfl
  exact end_i hx hb hr hlocks hP9 hD9 hK9 hS (1, 0) rfl rfl rfl (Nat.le_of_ble_eq_true rfl) (Nat.le_of_ble_eq_true rfl) dX13_cellOf_18
set_option maxHeartbeats 4000000 in
set_option maxRecDepth 100000 in
/-- waste of the reference, on a fresh object -/
theorem m_waste (l : Launch) (D : va_G) (tC tE sz : Nat) (mm l0 l1 l2 l3 l4 la sk ab bu cu sd : Nat) (a1 : Int32) : Met l yX13_waste wsX13_waste ({ frames := 2, cells := 0, slots := 0, locals := 43 }) (Pg D tC tE sz [(mm, .inr (17, [.int 0, .int 0, .ref l0, .ref la, .ref l1, .ref l2, .ref l3, .ref sk, .ref ab, .ref bu, .ref cu, .ref sd, .ref l4])), (l2, .inr (3, [.int 0, .ref tE, .int 0]))] [] [.ref mm, .int a1]) (Qgi (S := Int32 × Int32) D (fun u => [(mm, .inr (17, [.int (u.1), .int (u.2), .ref l0, .ref la, .ref l1, .ref l2, .ref l3, .ref sk, .ref ab, .ref bu, .ref cu, .ref sd, .ref l4]))]) (fun u => []) (fun _ u => u.1 = 1) (va_A [(mm, .inr (17, [.int 0, .int 0, .ref l0, .ref la, .ref l1, .ref l2, .ref l3, .ref sk, .ref ab, .ref bu, .ref cu, .ref sd, .ref l4])), (l2, .inr (3, [.int 0, .ref tE, .int 0]))] sz)) 0 0 (va_A [(mm, .inr (17, [.int 0, .int 0, .ref l0, .ref la, .ref l1, .ref l2, .ref l3, .ref sk, .ref ab, .ref bu, .ref cu, .ref sd, .ref l4])), (l2, .inr (3, [.int 0, .ref tE, .int 0]))] sz) := by
  refine og_m (cc := cX13_waste) (maxL := 2) (ret := (some .int)) (Qc := Qgi (S := Int32 × Int32) D (fun u => [(mm, .inr (17, [.int (u.1), .int (u.2), .ref l0, .ref la, .ref l1, .ref l2, .ref l3, .ref sk, .ref ab, .ref bu, .ref cu, .ref sd, .ref l4]))]) (fun u => []) (fun _ u => u.1 = 1)) (by decide) rfl (Nat.le_of_ble_eq_true rfl) ?_
  intro p e s m below meth c A hx hb hr hml hts hown hlocks hin hP hD hK hG hA hS ls hl
  have hl : lv_has ls 2 [(0, .ref mm), (1, .int a1)] := hl
  refine lv_aload_n hx hb dX13_waste_0 rfl (lv_at hl 0 rfl) ?_
  refine lv_iconst (v := 0) hx hb dX13_waste_1 (by decide) ?_
  refine va_put (D := D) (ci := 17) (v := .int 0) (ty := .int) (C := RX13) (T := TX13) (N := 13) hx hb hts (fun w h => List.mem_cons_of_mem _ (List.mem_append_left _ (List.mem_append_left _ (List.mem_append_left _ (List.mem_append_left _ (List.mem_append_right _ h)))))) tyX13 tyX13_ok nmX13 hown hK hP hD hS 0 rfl rfl 0 (by decide) (hts (.fieldLink RX13 48 "LastroomModel" "code" "I") (List.mem_of_getElem? (i := 1) rfl)) (fun _ h9 => h9) rfl (by decide +kernel) rfl rfl (Nat.le_of_ble_eq_true rfl) dX13_waste_2 (fun H locs hP hD hS => ?_)
  have hP : va_P D vwCl [(mm, .inr (17, [.int 0, .int 0, .ref l0, .ref la, .ref l1, .ref l2, .ref l3, .ref sk, .ref ab, .ref bu, .ref cu, .ref sd, .ref l4])), (l2, .inr (3, [.int 0, .ref tE, .int 0]))] H := hP
  have hD : va_D A [(mm, .inr (17, [.int 0, .int 0, .ref l0, .ref la, .ref l1, .ref l2, .ref l3, .ref sk, .ref ab, .ref bu, .ref cu, .ref sd, .ref l4])), (l2, .inr (3, [.int 0, .ref tE, .int 0]))] := hD
  refine lv_aload_n hx hb dX13_waste_5 rfl (lv_at hl 0 rfl) ?_
  refine lv_iload_n hx hb dX13_waste_6 rfl (lv_at hl 1 rfl) ?_
  have hFc := va_free (wc := [(mm, .inr (17, [.int 0, .int 0, .ref l0, .ref la, .ref l1, .ref l2, .ref l3, .ref sk, .ref ab, .ref bu, .ref cu, .ref sd, .ref l4])), (l2, .inr (3, [.int 0, .ref tE, .int 0]))]) hD hS hA [0, 1] rfl
  refine va_calli (va_runV (As := [.int a1]) (rest := []) ⟨hx, hb, hml, hown, hts⟩ (m_isHide l D tC tE H.size mm l0 l1 l2 l3 l4 la sk ab bu cu sd 0 0 a1) (cwV 1 hts gX13_waste_X13_isHide rfl rfl rfl (by decide +kernel) ⟨(Nat.le_of_ble_eq_true rfl), (Nat.le_of_ble_eq_true rfl)⟩) ⟨pg_blind, (va_recv hK hP (ci := 17) (q0 := 0) rfl rfl), (pg_pre hP hD hK hG hS hFc [0, 1] rfl (by decide) [] rfl _)⟩ rfl rfl hl.1 rfl (lv_room (Nat.le_of_ble_eq_true rfl)) dX13_waste_7 ⟨(Nat.le_of_ble_eq_true rfl), (Nat.le_of_ble_eq_true rfl)⟩) hS (fun q _ h => hFc q h) hFc (fun r_1 u_2 t H locs ht hvm hw hB hz1 hk1 hS => ?_)
  subst hw
  obtain ⟨hP, hD, hK⟩ := jn (wr := []) (w1 := [(mm, .inr (17, [.int 0, .int 0, .ref l0, .ref la, .ref l1, .ref l2, .ref l3, .ref sk, .ref ab, .ref bu, .ref cu, .ref sd, .ref l4])), (l2, .inr (3, [.int 0, .ref tE, .int 0]))]) (t1 := []) (tr := []) hP hD hK [0, 1] [] rfl rfl (by decide) (by decide) [] rfl hk1 hFc hB rfl rfl ht hvm
  have hP : va_P D vwCl [(mm, .inr (17, [.int 0, .int 0, .ref l0, .ref la, .ref l1, .ref l2, .ref l3, .ref sk, .ref ab, .ref bu, .ref cu, .ref sd, .ref l4])), (l2, .inr (3, [.int 0, .ref tE, .int 0]))] H := hP
  have hD : va_D A [(mm, .inr (17, [.int 0, .int 0, .ref l0, .ref la, .ref l1, .ref l2, .ref l3, .ref sk, .ref ab, .ref bu, .ref cu, .ref sd, .ref l4])), (l2, .inr (3, [.int 0, .ref tE, .int 0]))] := hD
  have hK : va_K D vwCl [] s := hK
  refine W.widen (k := 0) (n := 0) (Nat.le_of_ble_eq_true rfl) (Nat.le_of_ble_eq_true rfl) ?_
  refine lv_if_eq (tgt := 33) hx hb dX13_waste_10 (by decide) (fun c_3 => ?_) (fun c_3 => absurd (show (0 : Int32) = 0 from (by decide)) c_3)
  refine lv_aload_n hx hb dX13_waste_33 rfl (lv_at hl 0 rfl) ?_
  refine lv_iconst (v := 1) hx hb dX13_waste_34 (by decide) ?_
  have hFc := va_free (wc := [(mm, .inr (17, [.int 0, .int 0, .ref l0, .ref la, .ref l1, .ref l2, .ref l3, .ref sk, .ref ab, .ref bu, .ref cu, .ref sd, .ref l4]))]) hD hS hA [0] rfl
  refine va_calli (va_runV (As := [.int 1]) (rest := []) ⟨hx, hb, hml, hown, hts⟩ (m_fails l D tC tE H.size mm l0 l1 l2 l3 l4 la sk ab bu cu sd 0 0 1) (cwV 1 hts gX13_waste_X13_fails rfl rfl rfl (by decide +kernel) ⟨(Nat.le_of_ble_eq_true rfl), (Nat.le_of_ble_eq_true rfl)⟩) ⟨pg_blind, (va_recv hK hP (ci := 17) (q0 := 0) rfl rfl), (pg_pre hP hD hK hG hS hFc [0] rfl (by decide) [] rfl _)⟩ rfl rfl hl.1 rfl (lv_room (Nat.le_of_ble_eq_true rfl)) dX13_waste_35 ⟨(Nat.le_of_ble_eq_true rfl), (Nat.le_of_ble_eq_true rfl)⟩) hS (fun q _ h => hFc q h) hFc (fun r_4 u_5 t H locs ht hvm hw hB hz1 hk1 hS => ?_)
  subst hw
  obtain ⟨hP, hD, hK⟩ := jn (wr := [(l2, .inr (3, [.int 0, .ref tE, .int 0]))]) (w1 := [(mm, .inr (17, [.int 1, .int 0, .ref l0, .ref la, .ref l1, .ref l2, .ref l3, .ref sk, .ref ab, .ref bu, .ref cu, .ref sd, .ref l4]))]) (t1 := []) (tr := []) hP hD hK [0] [1] rfl rfl (by decide) (by decide) [] rfl hk1 hFc hB rfl rfl ht hvm
  have hP : va_P D vwCl [(l2, .inr (3, [.int 0, .ref tE, .int 0])), (mm, .inr (17, [.int 1, .int 0, .ref l0, .ref la, .ref l1, .ref l2, .ref l3, .ref sk, .ref ab, .ref bu, .ref cu, .ref sd, .ref l4]))] H := hP
  have hD : va_D A [(l2, .inr (3, [.int 0, .ref tE, .int 0])), (mm, .inr (17, [.int 1, .int 0, .ref l0, .ref la, .ref l1, .ref l2, .ref l3, .ref sk, .ref ab, .ref bu, .ref cu, .ref sd, .ref l4]))] := hD
  have hK : va_K D vwCl [] s := hK
  refine W.widen (k := 0) (n := 0) (Nat.le_of_ble_eq_true rfl) (Nat.le_of_ble_eq_true rfl) ?_
  have hP9 := hP.sub (ws' := [(mm, .inr (17, [.int 1, .int 0, .ref l0, .ref la, .ref l1, .ref l2, .ref l3, .ref sk, .ref ab, .ref bu, .ref cu, .ref sd, .ref l4]))]) [1] rfl
  have hD9 := hD.sub (ws' := [(mm, .inr (17, [.int 1, .int 0, .ref l0, .ref la, .ref l1, .ref l2, .ref l3, .ref sk, .ref ab, .ref bu, .ref cu, .ref sd, .ref l4]))]) [1] (by decide) rfl
  have hK9 := hK.sub (tys' := []) [] rfl
  exact end_i hx hb hr hlocks hP9 hD9 hK9 hS (1, 0) rfl rfl rfl (Nat.le_of_ble_eq_true rfl) (Nat.le_of_ble_eq_true rfl) dX13_waste_38
set_option maxHeartbeats 4000000 in
set_option maxRecDepth 100000 in
/-- cut of the reference, on a fresh object -/
theorem m_cut (l : Launch) (D : va_G) (tC tE sz : Nat) (mm l0 l1 l2 l3 l4 la sk ab bu cu sd : Nat) (a1 a2 a3 a4 a5 a6 a7 a8 : Int32) : Met l yX13_cut wsX13_cut ({ frames := 3, cells := 0, slots := 0, locals := 65 }) (Pg D tC tE sz [(mm, .inr (17, [.int 0, .int 0, .ref l0, .ref la, .ref l1, .ref l2, .ref l3, .ref sk, .ref ab, .ref bu, .ref cu, .ref sd, .ref l4])), (l3, .inr (3, [.int 0, .ref tE, .int 0]))] [] [.ref mm, .int a1, .int a2, .int a3, .int a4, .int a5, .int a6, .int a7, .int a8]) (Qgi (S := Int32 × Int32) D (fun u => [(mm, .inr (17, [.int (u.1), .int (u.2), .ref l0, .ref la, .ref l1, .ref l2, .ref l3, .ref sk, .ref ab, .ref bu, .ref cu, .ref sd, .ref l4]))]) (fun u => []) (fun _ u => u.1 = 1) (va_A [(mm, .inr (17, [.int 0, .int 0, .ref l0, .ref la, .ref l1, .ref l2, .ref l3, .ref sk, .ref ab, .ref bu, .ref cu, .ref sd, .ref l4])), (l3, .inr (3, [.int 0, .ref tE, .int 0]))] sz)) 0 0 (va_A [(mm, .inr (17, [.int 0, .int 0, .ref l0, .ref la, .ref l1, .ref l2, .ref l3, .ref sk, .ref ab, .ref bu, .ref cu, .ref sd, .ref l4])), (l3, .inr (3, [.int 0, .ref tE, .int 0]))] sz) := by
  refine og_m (cc := cX13_cut) (maxL := 18) (ret := (some .int)) (Qc := Qgi (S := Int32 × Int32) D (fun u => [(mm, .inr (17, [.int (u.1), .int (u.2), .ref l0, .ref la, .ref l1, .ref l2, .ref l3, .ref sk, .ref ab, .ref bu, .ref cu, .ref sd, .ref l4]))]) (fun u => []) (fun _ u => u.1 = 1)) (by decide) rfl (Nat.le_of_ble_eq_true rfl) ?_
  intro p e s m below meth c A hx hb hr hml hts hown hlocks hin hP hD hK hG hA hS ls hl
  have hl : lv_has ls 18 [(0, .ref mm), (1, .int a1), (2, .int a2), (3, .int a3), (4, .int a4), (5, .int a5), (6, .int a6), (7, .int a7), (8, .int a8)] := hl
  refine lv_aload_n hx hb dX13_cut_0 rfl (lv_at hl 0 rfl) ?_
  refine lv_iconst (v := 0) hx hb dX13_cut_1 (by decide) ?_
  refine va_put (D := D) (ci := 17) (v := .int 0) (ty := .int) (C := RX13) (T := TX13) (N := 13) hx hb hts (fun w h => List.mem_cons_of_mem _ (List.mem_append_left _ (List.mem_append_left _ (List.mem_append_left _ (List.mem_append_left _ (List.mem_append_left _ (List.mem_append_left _ (List.mem_append_right _ h)))))))) tyX13 tyX13_ok nmX13 hown hK hP hD hS 0 rfl rfl 0 (by decide) (hts (.fieldLink RX13 48 "LastroomModel" "code" "I") (List.mem_of_getElem? (i := 1) rfl)) (fun _ h9 => h9) rfl (by decide +kernel) rfl rfl (Nat.le_of_ble_eq_true rfl) dX13_cut_2 (fun H locs hP hD hS => ?_)
  have hP : va_P D vwCl [(mm, .inr (17, [.int 0, .int 0, .ref l0, .ref la, .ref l1, .ref l2, .ref l3, .ref sk, .ref ab, .ref bu, .ref cu, .ref sd, .ref l4])), (l3, .inr (3, [.int 0, .ref tE, .int 0]))] H := hP
  have hD : va_D A [(mm, .inr (17, [.int 0, .int 0, .ref l0, .ref la, .ref l1, .ref l2, .ref l3, .ref sk, .ref ab, .ref bu, .ref cu, .ref sd, .ref l4])), (l3, .inr (3, [.int 0, .ref tE, .int 0]))] := hD
  refine lv_aload_n hx hb dX13_cut_5 rfl (lv_at hl 0 rfl) ?_
  refine lv_iload_n hx hb dX13_cut_6 rfl (lv_at hl 1 rfl) ?_
  refine lv_iload_n hx hb dX13_cut_7 rfl (lv_at hl 3 rfl) ?_
  have hFc := va_free (wc := [(mm, .inr (17, [.int 0, .int 0, .ref l0, .ref la, .ref l1, .ref l2, .ref l3, .ref sk, .ref ab, .ref bu, .ref cu, .ref sd, .ref l4])), (l3, .inr (3, [.int 0, .ref tE, .int 0]))]) hD hS hA [0, 1] rfl
  refine va_calli (va_runV (As := [.int a1, .int a3]) (rest := []) ⟨hx, hb, hml, hown, hts⟩ (m_isPiece l D tC tE H.size mm l0 l1 l2 l3 l4 la sk ab bu cu sd 0 0 a1 a3) (cwV 2 hts gX13_cut_X13_isPiece rfl rfl rfl (by decide +kernel) ⟨(Nat.le_of_ble_eq_true rfl), (Nat.le_of_ble_eq_true rfl)⟩) ⟨pg_blind, (va_recv hK hP (ci := 17) (q0 := 0) rfl rfl), (pg_pre hP hD hK hG hS hFc [0, 1] rfl (by decide) [] rfl _)⟩ rfl rfl hl.1 rfl (lv_room (Nat.le_of_ble_eq_true rfl)) dX13_cut_8 ⟨(Nat.le_of_ble_eq_true rfl), (Nat.le_of_ble_eq_true rfl)⟩) hS (fun q _ h => hFc q h) hFc (fun r_1 u_2 t H locs ht hvm hw hB hz1 hk1 hS => ?_)
  subst hw
  obtain ⟨hP, hD, hK⟩ := jn (wr := []) (w1 := [(mm, .inr (17, [.int 0, .int 0, .ref l0, .ref la, .ref l1, .ref l2, .ref l3, .ref sk, .ref ab, .ref bu, .ref cu, .ref sd, .ref l4])), (l3, .inr (3, [.int 0, .ref tE, .int 0]))]) (t1 := []) (tr := []) hP hD hK [0, 1] [] rfl rfl (by decide) (by decide) [] rfl hk1 hFc hB rfl rfl ht hvm
  have hP : va_P D vwCl [(mm, .inr (17, [.int 0, .int 0, .ref l0, .ref la, .ref l1, .ref l2, .ref l3, .ref sk, .ref ab, .ref bu, .ref cu, .ref sd, .ref l4])), (l3, .inr (3, [.int 0, .ref tE, .int 0]))] H := hP
  have hD : va_D A [(mm, .inr (17, [.int 0, .int 0, .ref l0, .ref la, .ref l1, .ref l2, .ref l3, .ref sk, .ref ab, .ref bu, .ref cu, .ref sd, .ref l4])), (l3, .inr (3, [.int 0, .ref tE, .int 0]))] := hD
  have hK : va_K D vwCl [] s := hK
  refine W.widen (k := 0) (n := 0) (Nat.le_of_ble_eq_true rfl) (Nat.le_of_ble_eq_true rfl) ?_
  refine lv_if_eq (tgt := 43) hx hb dX13_cut_11 (by decide) (fun c_3 => ?_) (fun c_3 => absurd (show (0 : Int32) = 0 from (by decide)) c_3)
  refine lv_aload_n hx hb dX13_cut_43 rfl (lv_at hl 0 rfl) ?_
  refine lv_iconst (v := 1) hx hb dX13_cut_44 (by decide) ?_
  have hFc := va_free (wc := [(mm, .inr (17, [.int 0, .int 0, .ref l0, .ref la, .ref l1, .ref l2, .ref l3, .ref sk, .ref ab, .ref bu, .ref cu, .ref sd, .ref l4]))]) hD hS hA [0] rfl
  refine va_calli (va_runV (As := [.int 1]) (rest := []) ⟨hx, hb, hml, hown, hts⟩ (m_fails l D tC tE H.size mm l0 l1 l2 l3 l4 la sk ab bu cu sd 0 0 1) (cwV 1 hts gX13_cut_X13_fails rfl rfl rfl (by decide +kernel) ⟨(Nat.le_of_ble_eq_true rfl), (Nat.le_of_ble_eq_true rfl)⟩) ⟨pg_blind, (va_recv hK hP (ci := 17) (q0 := 0) rfl rfl), (pg_pre hP hD hK hG hS hFc [0] rfl (by decide) [] rfl _)⟩ rfl rfl hl.1 rfl (lv_room (Nat.le_of_ble_eq_true rfl)) dX13_cut_45 ⟨(Nat.le_of_ble_eq_true rfl), (Nat.le_of_ble_eq_true rfl)⟩) hS (fun q _ h => hFc q h) hFc (fun r_4 u_5 t H locs ht hvm hw hB hz1 hk1 hS => ?_)
  subst hw
  obtain ⟨hP, hD, hK⟩ := jn (wr := [(l3, .inr (3, [.int 0, .ref tE, .int 0]))]) (w1 := [(mm, .inr (17, [.int 1, .int 0, .ref l0, .ref la, .ref l1, .ref l2, .ref l3, .ref sk, .ref ab, .ref bu, .ref cu, .ref sd, .ref l4]))]) (t1 := []) (tr := []) hP hD hK [0] [1] rfl rfl (by decide) (by decide) [] rfl hk1 hFc hB rfl rfl ht hvm
  have hP : va_P D vwCl [(l3, .inr (3, [.int 0, .ref tE, .int 0])), (mm, .inr (17, [.int 1, .int 0, .ref l0, .ref la, .ref l1, .ref l2, .ref l3, .ref sk, .ref ab, .ref bu, .ref cu, .ref sd, .ref l4]))] H := hP
  have hD : va_D A [(l3, .inr (3, [.int 0, .ref tE, .int 0])), (mm, .inr (17, [.int 1, .int 0, .ref l0, .ref la, .ref l1, .ref l2, .ref l3, .ref sk, .ref ab, .ref bu, .ref cu, .ref sd, .ref l4]))] := hD
  have hK : va_K D vwCl [] s := hK
  refine W.widen (k := 0) (n := 0) (Nat.le_of_ble_eq_true rfl) (Nat.le_of_ble_eq_true rfl) ?_
  have hP9 := hP.sub (ws' := [(mm, .inr (17, [.int 1, .int 0, .ref l0, .ref la, .ref l1, .ref l2, .ref l3, .ref sk, .ref ab, .ref bu, .ref cu, .ref sd, .ref l4]))]) [1] rfl
  have hD9 := hD.sub (ws' := [(mm, .inr (17, [.int 1, .int 0, .ref l0, .ref la, .ref l1, .ref l2, .ref l3, .ref sk, .ref ab, .ref bu, .ref cu, .ref sd, .ref l4]))]) [1] (by decide) rfl
  have hK9 := hK.sub (tys' := []) [] rfl
  exact end_i hx hb hr hlocks hP9 hD9 hK9 hS (1, 0) rfl rfl rfl (Nat.le_of_ble_eq_true rfl) (Nat.le_of_ble_eq_true rfl) dX13_cut_48
set_option maxHeartbeats 4000000 in
set_option maxRecDepth 100000 in
/-- firstPlace of the reference, on a fresh object -/
theorem m_firstPlace (l : Launch) (D : va_G) (tC tE sz : Nat) (mm l0 l1 l2 l3 l4 la sk ab bu cu sd : Nat) (a1 a2 a3 : Int32) : Met l yX13_firstPlace wsX13_firstPlace ({ frames := 3, cells := 0, slots := 0, locals := 65 }) (Pg D tC tE sz [(mm, .inr (17, [.int 0, .int 0, .ref l0, .ref la, .ref l1, .ref l2, .ref l3, .ref sk, .ref ab, .ref bu, .ref cu, .ref sd, .ref l4])), (l3, .inr (3, [.int 0, .ref tE, .int 0]))] [] [.ref mm, .int a1, .int a2, .int a3]) (Qgi (S := Int32 × Int32) D (fun u => [(mm, .inr (17, [.int (u.1), .int (u.2), .ref l0, .ref la, .ref l1, .ref l2, .ref l3, .ref sk, .ref ab, .ref bu, .ref cu, .ref sd, .ref l4]))]) (fun u => []) (fun _ u => u.1 = 1) (va_A [(mm, .inr (17, [.int 0, .int 0, .ref l0, .ref la, .ref l1, .ref l2, .ref l3, .ref sk, .ref ab, .ref bu, .ref cu, .ref sd, .ref l4])), (l3, .inr (3, [.int 0, .ref tE, .int 0]))] sz)) 0 0 (va_A [(mm, .inr (17, [.int 0, .int 0, .ref l0, .ref la, .ref l1, .ref l2, .ref l3, .ref sk, .ref ab, .ref bu, .ref cu, .ref sd, .ref l4])), (l3, .inr (3, [.int 0, .ref tE, .int 0]))] sz) := by
  refine og_m (cc := cX13_firstPlace) (maxL := 8) (ret := (some .int)) (Qc := Qgi (S := Int32 × Int32) D (fun u => [(mm, .inr (17, [.int (u.1), .int (u.2), .ref l0, .ref la, .ref l1, .ref l2, .ref l3, .ref sk, .ref ab, .ref bu, .ref cu, .ref sd, .ref l4]))]) (fun u => []) (fun _ u => u.1 = 1)) (by decide) rfl (Nat.le_of_ble_eq_true rfl) ?_
  intro p e s m below meth c A hx hb hr hml hts hown hlocks hin hP hD hK hG hA hS ls hl
  have hl : lv_has ls 8 [(0, .ref mm), (1, .int a1), (2, .int a2), (3, .int a3)] := hl
  refine lv_aload_n hx hb dX13_firstPlace_0 rfl (lv_at hl 0 rfl) ?_
  refine lv_iconst (v := 0) hx hb dX13_firstPlace_1 (by decide) ?_
  refine va_put (D := D) (ci := 17) (v := .int 0) (ty := .int) (C := RX13) (T := TX13) (N := 13) hx hb hts (fun w h => List.mem_cons_of_mem _ (List.mem_append_left _ (List.mem_append_left _ (List.mem_append_left _ (List.mem_append_left _ (List.mem_append_left _ (List.mem_append_left _ (List.mem_append_right _ h)))))))) tyX13 tyX13_ok nmX13 hown hK hP hD hS 0 rfl rfl 0 (by decide) (hts (.fieldLink RX13 48 "LastroomModel" "code" "I") (List.mem_of_getElem? (i := 1) rfl)) (fun _ h9 => h9) rfl (by decide +kernel) rfl rfl (Nat.le_of_ble_eq_true rfl) dX13_firstPlace_2 (fun H locs hP hD hS => ?_)
  have hP : va_P D vwCl [(mm, .inr (17, [.int 0, .int 0, .ref l0, .ref la, .ref l1, .ref l2, .ref l3, .ref sk, .ref ab, .ref bu, .ref cu, .ref sd, .ref l4])), (l3, .inr (3, [.int 0, .ref tE, .int 0]))] H := hP
  have hD : va_D A [(mm, .inr (17, [.int 0, .int 0, .ref l0, .ref la, .ref l1, .ref l2, .ref l3, .ref sk, .ref ab, .ref bu, .ref cu, .ref sd, .ref l4])), (l3, .inr (3, [.int 0, .ref tE, .int 0]))] := hD
  refine lv_aload_n hx hb dX13_firstPlace_5 rfl (lv_at hl 0 rfl) ?_
  refine lv_iload_n hx hb dX13_firstPlace_6 rfl (lv_at hl 1 rfl) ?_
  refine lv_iload_n hx hb dX13_firstPlace_7 rfl (lv_at hl 2 rfl) ?_
  have hFc := va_free (wc := [(mm, .inr (17, [.int 0, .int 0, .ref l0, .ref la, .ref l1, .ref l2, .ref l3, .ref sk, .ref ab, .ref bu, .ref cu, .ref sd, .ref l4])), (l3, .inr (3, [.int 0, .ref tE, .int 0]))]) hD hS hA [0, 1] rfl
  refine va_calli (va_runV (As := [.int a1, .int a2]) (rest := []) ⟨hx, hb, hml, hown, hts⟩ (m_isPiece l D tC tE H.size mm l0 l1 l2 l3 l4 la sk ab bu cu sd 0 0 a1 a2) (cwV 2 hts gX13_firstPlace_X13_isPiece rfl rfl rfl (by decide +kernel) ⟨(Nat.le_of_ble_eq_true rfl), (Nat.le_of_ble_eq_true rfl)⟩) ⟨pg_blind, (va_recv hK hP (ci := 17) (q0 := 0) rfl rfl), (pg_pre hP hD hK hG hS hFc [0, 1] rfl (by decide) [] rfl _)⟩ rfl rfl hl.1 rfl (lv_room (Nat.le_of_ble_eq_true rfl)) dX13_firstPlace_8 ⟨(Nat.le_of_ble_eq_true rfl), (Nat.le_of_ble_eq_true rfl)⟩) hS (fun q _ h => hFc q h) hFc (fun r_1 u_2 t H locs ht hvm hw hB hz1 hk1 hS => ?_)
  subst hw
  obtain ⟨hP, hD, hK⟩ := jn (wr := []) (w1 := [(mm, .inr (17, [.int 0, .int 0, .ref l0, .ref la, .ref l1, .ref l2, .ref l3, .ref sk, .ref ab, .ref bu, .ref cu, .ref sd, .ref l4])), (l3, .inr (3, [.int 0, .ref tE, .int 0]))]) (t1 := []) (tr := []) hP hD hK [0, 1] [] rfl rfl (by decide) (by decide) [] rfl hk1 hFc hB rfl rfl ht hvm
  have hP : va_P D vwCl [(mm, .inr (17, [.int 0, .int 0, .ref l0, .ref la, .ref l1, .ref l2, .ref l3, .ref sk, .ref ab, .ref bu, .ref cu, .ref sd, .ref l4])), (l3, .inr (3, [.int 0, .ref tE, .int 0]))] H := hP
  have hD : va_D A [(mm, .inr (17, [.int 0, .int 0, .ref l0, .ref la, .ref l1, .ref l2, .ref l3, .ref sk, .ref ab, .ref bu, .ref cu, .ref sd, .ref l4])), (l3, .inr (3, [.int 0, .ref tE, .int 0]))] := hD
  have hK : va_K D vwCl [] s := hK
  refine W.widen (k := 0) (n := 0) (Nat.le_of_ble_eq_true rfl) (Nat.le_of_ble_eq_true rfl) ?_
  refine lv_if_eq (tgt := 22) hx hb dX13_firstPlace_11 (by decide) (fun c_3 => ?_) (fun c_3 => absurd (show (0 : Int32) = 0 from (by decide)) c_3)
  refine lv_aload_n hx hb dX13_firstPlace_22 rfl (lv_at hl 0 rfl) ?_
  refine lv_iconst (v := 1) hx hb dX13_firstPlace_23 (by decide) ?_
  have hFc := va_free (wc := [(mm, .inr (17, [.int 0, .int 0, .ref l0, .ref la, .ref l1, .ref l2, .ref l3, .ref sk, .ref ab, .ref bu, .ref cu, .ref sd, .ref l4]))]) hD hS hA [0] rfl
  refine va_calli (va_runV (As := [.int 1]) (rest := []) ⟨hx, hb, hml, hown, hts⟩ (m_fails l D tC tE H.size mm l0 l1 l2 l3 l4 la sk ab bu cu sd 0 0 1) (cwV 1 hts gX13_firstPlace_X13_fails rfl rfl rfl (by decide +kernel) ⟨(Nat.le_of_ble_eq_true rfl), (Nat.le_of_ble_eq_true rfl)⟩) ⟨pg_blind, (va_recv hK hP (ci := 17) (q0 := 0) rfl rfl), (pg_pre hP hD hK hG hS hFc [0] rfl (by decide) [] rfl _)⟩ rfl rfl hl.1 rfl (lv_room (Nat.le_of_ble_eq_true rfl)) dX13_firstPlace_24 ⟨(Nat.le_of_ble_eq_true rfl), (Nat.le_of_ble_eq_true rfl)⟩) hS (fun q _ h => hFc q h) hFc (fun r_4 u_5 t H locs ht hvm hw hB hz1 hk1 hS => ?_)
  subst hw
  obtain ⟨hP, hD, hK⟩ := jn (wr := [(l3, .inr (3, [.int 0, .ref tE, .int 0]))]) (w1 := [(mm, .inr (17, [.int 1, .int 0, .ref l0, .ref la, .ref l1, .ref l2, .ref l3, .ref sk, .ref ab, .ref bu, .ref cu, .ref sd, .ref l4]))]) (t1 := []) (tr := []) hP hD hK [0] [1] rfl rfl (by decide) (by decide) [] rfl hk1 hFc hB rfl rfl ht hvm
  have hP : va_P D vwCl [(l3, .inr (3, [.int 0, .ref tE, .int 0])), (mm, .inr (17, [.int 1, .int 0, .ref l0, .ref la, .ref l1, .ref l2, .ref l3, .ref sk, .ref ab, .ref bu, .ref cu, .ref sd, .ref l4]))] H := hP
  have hD : va_D A [(l3, .inr (3, [.int 0, .ref tE, .int 0])), (mm, .inr (17, [.int 1, .int 0, .ref l0, .ref la, .ref l1, .ref l2, .ref l3, .ref sk, .ref ab, .ref bu, .ref cu, .ref sd, .ref l4]))] := hD
  have hK : va_K D vwCl [] s := hK
  refine W.widen (k := 0) (n := 0) (Nat.le_of_ble_eq_true rfl) (Nat.le_of_ble_eq_true rfl) ?_
  have hP9 := hP.sub (ws' := [(mm, .inr (17, [.int 1, .int 0, .ref l0, .ref la, .ref l1, .ref l2, .ref l3, .ref sk, .ref ab, .ref bu, .ref cu, .ref sd, .ref l4]))]) [1] rfl
  have hD9 := hD.sub (ws' := [(mm, .inr (17, [.int 1, .int 0, .ref l0, .ref la, .ref l1, .ref l2, .ref l3, .ref sk, .ref ab, .ref bu, .ref cu, .ref sd, .ref l4]))]) [1] (by decide) rfl
  have hK9 := hK.sub (tys' := []) [] rfl
  exact end_i hx hb hr hlocks hP9 hD9 hK9 hS (1, 0) rfl rfl rfl (Nat.le_of_ble_eq_true rfl) (Nat.le_of_ble_eq_true rfl) dX13_firstPlace_27
set_option maxHeartbeats 4000000 in
set_option maxRecDepth 100000 in
/-- sew of the reference, on a fresh object -/
theorem m_sew (l : Launch) (D : va_G) (tC tE sz : Nat) (mm l0 l1 l2 l3 l4 la sk ab bu cu sd : Nat) (a1 a2 a3 a4 : Int32) : Met l yX13_sew wsX13_sew ({ frames := 3, cells := 0, slots := 0, locals := 65 }) (Pg D tC tE sz [(mm, .inr (17, [.int 0, .int 0, .ref l0, .ref la, .ref l1, .ref l2, .ref l3, .ref sk, .ref ab, .ref bu, .ref cu, .ref sd, .ref l4])), (l3, .inr (3, [.int 0, .ref tE, .int 0]))] [] [.ref mm, .int a1, .int a2, .int a3, .int a4]) (Qgi (S := Int32 × Int32) D (fun u => [(mm, .inr (17, [.int (u.1), .int (u.2), .ref l0, .ref la, .ref l1, .ref l2, .ref l3, .ref sk, .ref ab, .ref bu, .ref cu, .ref sd, .ref l4]))]) (fun u => []) (fun _ u => u.1 = 1) (va_A [(mm, .inr (17, [.int 0, .int 0, .ref l0, .ref la, .ref l1, .ref l2, .ref l3, .ref sk, .ref ab, .ref bu, .ref cu, .ref sd, .ref l4])), (l3, .inr (3, [.int 0, .ref tE, .int 0]))] sz)) 0 0 (va_A [(mm, .inr (17, [.int 0, .int 0, .ref l0, .ref la, .ref l1, .ref l2, .ref l3, .ref sk, .ref ab, .ref bu, .ref cu, .ref sd, .ref l4])), (l3, .inr (3, [.int 0, .ref tE, .int 0]))] sz) := by
  refine og_m (cc := cX13_sew) (maxL := 9) (ret := (some .int)) (Qc := Qgi (S := Int32 × Int32) D (fun u => [(mm, .inr (17, [.int (u.1), .int (u.2), .ref l0, .ref la, .ref l1, .ref l2, .ref l3, .ref sk, .ref ab, .ref bu, .ref cu, .ref sd, .ref l4]))]) (fun u => []) (fun _ u => u.1 = 1)) (by decide) rfl (Nat.le_of_ble_eq_true rfl) ?_
  intro p e s m below meth c A hx hb hr hml hts hown hlocks hin hP hD hK hG hA hS ls hl
  have hl : lv_has ls 9 [(0, .ref mm), (1, .int a1), (2, .int a2), (3, .int a3), (4, .int a4)] := hl
  refine lv_aload_n hx hb dX13_sew_0 rfl (lv_at hl 0 rfl) ?_
  refine lv_iconst (v := 0) hx hb dX13_sew_1 (by decide) ?_
  refine va_put (D := D) (ci := 17) (v := .int 0) (ty := .int) (C := RX13) (T := TX13) (N := 13) hx hb hts (fun w h => List.mem_cons_of_mem _ (List.mem_append_left _ (List.mem_append_left _ (List.mem_append_left _ (List.mem_append_left _ (List.mem_append_right _ h)))))) tyX13 tyX13_ok nmX13 hown hK hP hD hS 0 rfl rfl 0 (by decide) (hts (.fieldLink RX13 48 "LastroomModel" "code" "I") (List.mem_of_getElem? (i := 1) rfl)) (fun _ h9 => h9) rfl (by decide +kernel) rfl rfl (Nat.le_of_ble_eq_true rfl) dX13_sew_2 (fun H locs hP hD hS => ?_)
  have hP : va_P D vwCl [(mm, .inr (17, [.int 0, .int 0, .ref l0, .ref la, .ref l1, .ref l2, .ref l3, .ref sk, .ref ab, .ref bu, .ref cu, .ref sd, .ref l4])), (l3, .inr (3, [.int 0, .ref tE, .int 0]))] H := hP
  have hD : va_D A [(mm, .inr (17, [.int 0, .int 0, .ref l0, .ref la, .ref l1, .ref l2, .ref l3, .ref sk, .ref ab, .ref bu, .ref cu, .ref sd, .ref l4])), (l3, .inr (3, [.int 0, .ref tE, .int 0]))] := hD
  refine lv_aload_n hx hb dX13_sew_5 rfl (lv_at hl 0 rfl) ?_
  refine lv_iload_n hx hb dX13_sew_6 rfl (lv_at hl 1 rfl) ?_
  refine lv_iload_n hx hb dX13_sew_7 rfl (lv_at hl 3 rfl) ?_
  have hFc := va_free (wc := [(mm, .inr (17, [.int 0, .int 0, .ref l0, .ref la, .ref l1, .ref l2, .ref l3, .ref sk, .ref ab, .ref bu, .ref cu, .ref sd, .ref l4])), (l3, .inr (3, [.int 0, .ref tE, .int 0]))]) hD hS hA [0, 1] rfl
  refine va_calli (va_runV (As := [.int a1, .int a3]) (rest := []) ⟨hx, hb, hml, hown, hts⟩ (m_isSeam l D tC tE H.size mm l0 l1 l2 l3 l4 la sk ab bu cu sd 0 0 a1 a3) (cwV 2 hts gX13_sew_X13_isSeam rfl rfl rfl (by decide +kernel) ⟨(Nat.le_of_ble_eq_true rfl), (Nat.le_of_ble_eq_true rfl)⟩) ⟨pg_blind, (va_recv hK hP (ci := 17) (q0 := 0) rfl rfl), (pg_pre hP hD hK hG hS hFc [0, 1] rfl (by decide) [] rfl _)⟩ rfl rfl hl.1 rfl (lv_room (Nat.le_of_ble_eq_true rfl)) dX13_sew_8 ⟨(Nat.le_of_ble_eq_true rfl), (Nat.le_of_ble_eq_true rfl)⟩) hS (fun q _ h => hFc q h) hFc (fun r_1 u_2 t H locs ht hvm hw hB hz1 hk1 hS => ?_)
  subst hw
  obtain ⟨hP, hD, hK⟩ := jn (wr := []) (w1 := [(mm, .inr (17, [.int 0, .int 0, .ref l0, .ref la, .ref l1, .ref l2, .ref l3, .ref sk, .ref ab, .ref bu, .ref cu, .ref sd, .ref l4])), (l3, .inr (3, [.int 0, .ref tE, .int 0]))]) (t1 := []) (tr := []) hP hD hK [0, 1] [] rfl rfl (by decide) (by decide) [] rfl hk1 hFc hB rfl rfl ht hvm
  have hP : va_P D vwCl [(mm, .inr (17, [.int 0, .int 0, .ref l0, .ref la, .ref l1, .ref l2, .ref l3, .ref sk, .ref ab, .ref bu, .ref cu, .ref sd, .ref l4])), (l3, .inr (3, [.int 0, .ref tE, .int 0]))] H := hP
  have hD : va_D A [(mm, .inr (17, [.int 0, .int 0, .ref l0, .ref la, .ref l1, .ref l2, .ref l3, .ref sk, .ref ab, .ref bu, .ref cu, .ref sd, .ref l4])), (l3, .inr (3, [.int 0, .ref tE, .int 0]))] := hD
  have hK : va_K D vwCl [] s := hK
  refine W.widen (k := 0) (n := 0) (Nat.le_of_ble_eq_true rfl) (Nat.le_of_ble_eq_true rfl) ?_
  refine lv_if_eq (tgt := 34) hx hb dX13_sew_11 (by decide) (fun c_3 => ?_) (fun c_3 => absurd (show (0 : Int32) = 0 from (by decide)) c_3)
  refine lv_aload_n hx hb dX13_sew_34 rfl (lv_at hl 0 rfl) ?_
  refine lv_iconst (v := 1) hx hb dX13_sew_35 (by decide) ?_
  have hFc := va_free (wc := [(mm, .inr (17, [.int 0, .int 0, .ref l0, .ref la, .ref l1, .ref l2, .ref l3, .ref sk, .ref ab, .ref bu, .ref cu, .ref sd, .ref l4]))]) hD hS hA [0] rfl
  refine va_calli (va_runV (As := [.int 1]) (rest := []) ⟨hx, hb, hml, hown, hts⟩ (m_fails l D tC tE H.size mm l0 l1 l2 l3 l4 la sk ab bu cu sd 0 0 1) (cwV 1 hts gX13_sew_X13_fails rfl rfl rfl (by decide +kernel) ⟨(Nat.le_of_ble_eq_true rfl), (Nat.le_of_ble_eq_true rfl)⟩) ⟨pg_blind, (va_recv hK hP (ci := 17) (q0 := 0) rfl rfl), (pg_pre hP hD hK hG hS hFc [0] rfl (by decide) [] rfl _)⟩ rfl rfl hl.1 rfl (lv_room (Nat.le_of_ble_eq_true rfl)) dX13_sew_36 ⟨(Nat.le_of_ble_eq_true rfl), (Nat.le_of_ble_eq_true rfl)⟩) hS (fun q _ h => hFc q h) hFc (fun r_4 u_5 t H locs ht hvm hw hB hz1 hk1 hS => ?_)
  subst hw
  obtain ⟨hP, hD, hK⟩ := jn (wr := [(l3, .inr (3, [.int 0, .ref tE, .int 0]))]) (w1 := [(mm, .inr (17, [.int 1, .int 0, .ref l0, .ref la, .ref l1, .ref l2, .ref l3, .ref sk, .ref ab, .ref bu, .ref cu, .ref sd, .ref l4]))]) (t1 := []) (tr := []) hP hD hK [0] [1] rfl rfl (by decide) (by decide) [] rfl hk1 hFc hB rfl rfl ht hvm
  have hP : va_P D vwCl [(l3, .inr (3, [.int 0, .ref tE, .int 0])), (mm, .inr (17, [.int 1, .int 0, .ref l0, .ref la, .ref l1, .ref l2, .ref l3, .ref sk, .ref ab, .ref bu, .ref cu, .ref sd, .ref l4]))] H := hP
  have hD : va_D A [(l3, .inr (3, [.int 0, .ref tE, .int 0])), (mm, .inr (17, [.int 1, .int 0, .ref l0, .ref la, .ref l1, .ref l2, .ref l3, .ref sk, .ref ab, .ref bu, .ref cu, .ref sd, .ref l4]))] := hD
  have hK : va_K D vwCl [] s := hK
  refine W.widen (k := 0) (n := 0) (Nat.le_of_ble_eq_true rfl) (Nat.le_of_ble_eq_true rfl) ?_
  have hP9 := hP.sub (ws' := [(mm, .inr (17, [.int 1, .int 0, .ref l0, .ref la, .ref l1, .ref l2, .ref l3, .ref sk, .ref ab, .ref bu, .ref cu, .ref sd, .ref l4]))]) [1] rfl
  have hD9 := hD.sub (ws' := [(mm, .inr (17, [.int 1, .int 0, .ref l0, .ref la, .ref l1, .ref l2, .ref l3, .ref sk, .ref ab, .ref bu, .ref cu, .ref sd, .ref l4]))]) [1] (by decide) rfl
  have hK9 := hK.sub (tys' := []) [] rfl
  exact end_i hx hb hr hlocks hP9 hD9 hK9 hS (1, 0) rfl rfl rfl (Nat.le_of_ble_eq_true rfl) (Nat.le_of_ble_eq_true rfl) dX13_sew_39
set_option maxHeartbeats 4000000 in
set_option maxRecDepth 100000 in
/-- room of the reference, on a fresh object -/
theorem m_room (l : Launch) (D : va_G) (tC tE sz : Nat) (mm l0 l1 l2 l3 l4 la sk ab bu cu sd : Nat) (a1 : Int32) : Met l yX13_room wsX13_room ({ frames := 2, cells := 0, slots := 0, locals := 43 }) (Pg D tC tE sz [(mm, .inr (17, [.int 0, .int 0, .ref l0, .ref la, .ref l1, .ref l2, .ref l3, .ref sk, .ref ab, .ref bu, .ref cu, .ref sd, .ref l4])), (l3, .inr (3, [.int 0, .ref tE, .int 0]))] [] [.ref mm, .int a1]) (Qgi (S := Int32 × Int32) D (fun u => [(mm, .inr (17, [.int (u.1), .int (u.2), .ref l0, .ref la, .ref l1, .ref l2, .ref l3, .ref sk, .ref ab, .ref bu, .ref cu, .ref sd, .ref l4]))]) (fun u => []) (fun _ u => u.1 = 1) (va_A [(mm, .inr (17, [.int 0, .int 0, .ref l0, .ref la, .ref l1, .ref l2, .ref l3, .ref sk, .ref ab, .ref bu, .ref cu, .ref sd, .ref l4])), (l3, .inr (3, [.int 0, .ref tE, .int 0]))] sz)) 0 0 (va_A [(mm, .inr (17, [.int 0, .int 0, .ref l0, .ref la, .ref l1, .ref l2, .ref l3, .ref sk, .ref ab, .ref bu, .ref cu, .ref sd, .ref l4])), (l3, .inr (3, [.int 0, .ref tE, .int 0]))] sz) := by
  refine og_m (cc := cX13_room) (maxL := 2) (ret := (some .char)) (Qc := Qgi (S := Int32 × Int32) D (fun u => [(mm, .inr (17, [.int (u.1), .int (u.2), .ref l0, .ref la, .ref l1, .ref l2, .ref l3, .ref sk, .ref ab, .ref bu, .ref cu, .ref sd, .ref l4]))]) (fun u => []) (fun _ u => u.1 = 1)) (by decide) rfl (Nat.le_of_ble_eq_true rfl) ?_
  intro p e s m below meth c A hx hb hr hml hts hown hlocks hin hP hD hK hG hA hS ls hl
  have hl : lv_has ls 2 [(0, .ref mm), (1, .int a1)] := hl
  refine lv_aload_n hx hb dX13_room_0 rfl (lv_at hl 0 rfl) ?_
  refine lv_aload_n hx hb dX13_room_1 rfl (lv_at hl 0 rfl) ?_
  refine lv_iload_n hx hb dX13_room_2 rfl (lv_at hl 1 rfl) ?_
  have hFc := va_free (wc := [(mm, .inr (17, [.int 0, .int 0, .ref l0, .ref la, .ref l1, .ref l2, .ref l3, .ref sk, .ref ab, .ref bu, .ref cu, .ref sd, .ref l4])), (l3, .inr (3, [.int 0, .ref tE, .int 0]))]) hD hS hA [0, 1] rfl
  refine va_calli (va_runV (As := [.int a1]) (rest := [.ref mm]) ⟨hx, hb, hml, hown, hts⟩ (m_isTicket l D tC tE s.heap.size mm l0 l1 l2 l3 l4 la sk ab bu cu sd 0 0 a1) (cwV 1 hts gX13_room_X13_isTicket rfl rfl rfl (by decide +kernel) ⟨(Nat.le_of_ble_eq_true rfl), (Nat.le_of_ble_eq_true rfl)⟩) ⟨pg_blind, (va_recv hK hP (ci := 17) (q0 := 0) rfl rfl), (pg_pre hP hD hK hG hS hFc [0, 1] rfl (by decide) [] rfl _)⟩ rfl rfl hl.1 rfl (lv_room (Nat.le_of_ble_eq_true rfl)) dX13_room_3 ⟨(Nat.le_of_ble_eq_true rfl), (Nat.le_of_ble_eq_true rfl)⟩) hS (fun q _ h => hFc q h) hFc (fun r_1 u_2 t H locs ht hvm hw hB hz1 hk1 hS => ?_)
  subst hw
  obtain ⟨hP, hD, hK⟩ := jn (wr := []) (w1 := [(mm, .inr (17, [.int 0, .int 0, .ref l0, .ref la, .ref l1, .ref l2, .ref l3, .ref sk, .ref ab, .ref bu, .ref cu, .ref sd, .ref l4])), (l3, .inr (3, [.int 0, .ref tE, .int 0]))]) (t1 := []) (tr := []) hP hD hK [0, 1] [] rfl rfl (by decide) (by decide) [] rfl hk1 hFc hB rfl rfl ht hvm
  have hP : va_P D vwCl [(mm, .inr (17, [.int 0, .int 0, .ref l0, .ref la, .ref l1, .ref l2, .ref l3, .ref sk, .ref ab, .ref bu, .ref cu, .ref sd, .ref l4])), (l3, .inr (3, [.int 0, .ref tE, .int 0]))] H := hP
  have hD : va_D A [(mm, .inr (17, [.int 0, .int 0, .ref l0, .ref la, .ref l1, .ref l2, .ref l3, .ref sk, .ref ab, .ref bu, .ref cu, .ref sd, .ref l4])), (l3, .inr (3, [.int 0, .ref tE, .int 0]))] := hD
  have hK : va_K D vwCl [] s := hK
  refine W.widen (k := 0) (n := 0) (Nat.le_of_ble_eq_true rfl) (Nat.le_of_ble_eq_true rfl) ?_
  refine lv_if_eq (tgt := 13) hx hb dX13_room_6 (by decide) (fun c_3 => ?_) (fun c_3 => absurd (show (0 : Int32) = 0 from (by decide)) c_3)
  refine lv_iconst (v := 1) hx hb dX13_room_13 (by decide) ?_
  refine va_put (D := D) (ci := 17) (v := .int 1) (ty := .int) (C := RX13) (T := TX13) (N := 13) hx hb hts (fun w h => List.mem_cons_of_mem _ (List.mem_append_left _ (List.mem_append_left _ (List.mem_append_left _ (List.mem_append_left _ (List.mem_append_right _ h)))))) tyX13 tyX13_ok nmX13 hown hK hP hD hS 0 rfl rfl 0 (by decide) (hts (.fieldLink RX13 48 "LastroomModel" "code" "I") (List.mem_of_getElem? (i := 1) rfl)) (fun _ h9 => h9) rfl (by decide +kernel) rfl rfl (Nat.le_of_ble_eq_true rfl) dX13_room_14 (fun H locs hP hD hS => ?_)
  have hP : va_P D vwCl [(mm, .inr (17, [.int 1, .int 0, .ref l0, .ref la, .ref l1, .ref l2, .ref l3, .ref sk, .ref ab, .ref bu, .ref cu, .ref sd, .ref l4])), (l3, .inr (3, [.int 0, .ref tE, .int 0]))] H := hP
  have hD : va_D A [(mm, .inr (17, [.int 1, .int 0, .ref l0, .ref la, .ref l1, .ref l2, .ref l3, .ref sk, .ref ab, .ref bu, .ref cu, .ref sd, .ref l4])), (l3, .inr (3, [.int 0, .ref tE, .int 0]))] := hD
  refine lv_aload_n hx hb dX13_room_17 rfl (lv_at hl 0 rfl) ?_
  refine va_get (D := D) (ci := 17) (v := .int 1) (C := RX13) (T := TX13) (N := 13) hx hb hts (fun w h => List.mem_cons_of_mem _ (List.mem_append_left _ (List.mem_append_left _ (List.mem_append_left _ (List.mem_append_left _ (List.mem_append_right _ h)))))) hown hK hP 0 rfl rfl 0 (by decide) (hts (.fieldLink RX13 48 "LastroomModel" "code" "I") (List.mem_of_getElem? (i := 1) rfl)) (fun _ h9 => h9) rfl dX13_room_18 ?_
  refine lv_if_le (tgt := 28) hx hb dX13_room_21 (by decide) (fun c_4 => absurd c_4 (show ¬ (1 : Int32) ≤ 0 from (by decide))) (fun c_4 => ?_)
  refine lv_iconst (v := 0) hx hb dX13_room_24 (by decide) ?_
  refine lv_goto (tgt := 48) hx hb dX13_room_25 (by decide) ?_
  have hP9 := hP.sub (ws' := [(mm, .inr (17, [.int 1, .int 0, .ref l0, .ref la, .ref l1, .ref l2, .ref l3, .ref sk, .ref ab, .ref bu, .ref cu, .ref sd, .ref l4]))]) [0] rfl
  have hD9 := hD.sub (ws' := [(mm, .inr (17, [.int 1, .int 0, .ref l0, .ref la, .ref l1, .ref l2, .ref l3, .ref sk, .ref ab, .ref bu, .ref cu, .ref sd, .ref l4]))]) [0] (by decide) rfl
  have hK9 := hK.sub (tys' := []) [] rfl
  exact end_z hx hb hr hlocks (by decide) hP9 hD9 hK9 hS (1, 0) rfl rfl rfl (Nat.le_of_ble_eq_true rfl) (Nat.le_of_ble_eq_true rfl) dX13_room_48
set_option maxHeartbeats 4000000 in
set_option maxRecDepth 100000 in
/-- lastOn of the reference, on a fresh object -/
theorem m_lastOn (l : Launch) (D : va_G) (tC tE sz : Nat) (mm l0 l1 l2 l3 l4 la sk ab bu cu sd : Nat) (a1 : Int32) : Met l yX13_lastOn wsX13_lastOn ({ frames := 2, cells := 0, slots := 0, locals := 43 }) (Pg D tC tE sz [(mm, .inr (17, [.int 0, .int 0, .ref l0, .ref la, .ref l1, .ref l2, .ref l3, .ref sk, .ref ab, .ref bu, .ref cu, .ref sd, .ref l4])), (l3, .inr (3, [.int 0, .ref tE, .int 0]))] [] [.ref mm, .int a1]) (Qgi (S := Int32 × Int32) D (fun u => [(mm, .inr (17, [.int (u.1), .int (u.2), .ref l0, .ref la, .ref l1, .ref l2, .ref l3, .ref sk, .ref ab, .ref bu, .ref cu, .ref sd, .ref l4]))]) (fun u => []) (fun _ u => u.1 = 1) (va_A [(mm, .inr (17, [.int 0, .int 0, .ref l0, .ref la, .ref l1, .ref l2, .ref l3, .ref sk, .ref ab, .ref bu, .ref cu, .ref sd, .ref l4])), (l3, .inr (3, [.int 0, .ref tE, .int 0]))] sz)) 0 0 (va_A [(mm, .inr (17, [.int 0, .int 0, .ref l0, .ref la, .ref l1, .ref l2, .ref l3, .ref sk, .ref ab, .ref bu, .ref cu, .ref sd, .ref l4])), (l3, .inr (3, [.int 0, .ref tE, .int 0]))] sz) := by
  refine og_m (cc := cX13_lastOn) (maxL := 3) (ret := (some .int)) (Qc := Qgi (S := Int32 × Int32) D (fun u => [(mm, .inr (17, [.int (u.1), .int (u.2), .ref l0, .ref la, .ref l1, .ref l2, .ref l3, .ref sk, .ref ab, .ref bu, .ref cu, .ref sd, .ref l4]))]) (fun u => []) (fun _ u => u.1 = 1)) (by decide) rfl (Nat.le_of_ble_eq_true rfl) ?_
  intro p e s m below meth c A hx hb hr hml hts hown hlocks hin hP hD hK hG hA hS ls hl
  have hl : lv_has ls 3 [(0, .ref mm), (1, .int a1)] := hl
  refine lv_aload_n hx hb dX13_lastOn_0 rfl (lv_at hl 0 rfl) ?_
  refine lv_iconst (v := 0) hx hb dX13_lastOn_1 (by decide) ?_
  refine va_put (D := D) (ci := 17) (v := .int 0) (ty := .int) (C := RX13) (T := TX13) (N := 13) hx hb hts (fun w h => List.mem_cons_of_mem _ (List.mem_append_left _ (List.mem_append_left _ (List.mem_append_left _ (List.mem_append_left _ (List.mem_append_left _ (List.mem_append_left _ (List.mem_append_right _ h)))))))) tyX13 tyX13_ok nmX13 hown hK hP hD hS 0 rfl rfl 0 (by decide) (hts (.fieldLink RX13 48 "LastroomModel" "code" "I") (List.mem_of_getElem? (i := 1) rfl)) (fun _ h9 => h9) rfl (by decide +kernel) rfl rfl (Nat.le_of_ble_eq_true rfl) dX13_lastOn_2 (fun H locs hP hD hS => ?_)
  have hP : va_P D vwCl [(mm, .inr (17, [.int 0, .int 0, .ref l0, .ref la, .ref l1, .ref l2, .ref l3, .ref sk, .ref ab, .ref bu, .ref cu, .ref sd, .ref l4])), (l3, .inr (3, [.int 0, .ref tE, .int 0]))] H := hP
  have hD : va_D A [(mm, .inr (17, [.int 0, .int 0, .ref l0, .ref la, .ref l1, .ref l2, .ref l3, .ref sk, .ref ab, .ref bu, .ref cu, .ref sd, .ref l4])), (l3, .inr (3, [.int 0, .ref tE, .int 0]))] := hD
  refine lv_aload_n hx hb dX13_lastOn_5 rfl (lv_at hl 0 rfl) ?_
  refine lv_iload_n hx hb dX13_lastOn_6 rfl (lv_at hl 1 rfl) ?_
  have hFc := va_free (wc := [(mm, .inr (17, [.int 0, .int 0, .ref l0, .ref la, .ref l1, .ref l2, .ref l3, .ref sk, .ref ab, .ref bu, .ref cu, .ref sd, .ref l4])), (l3, .inr (3, [.int 0, .ref tE, .int 0]))]) hD hS hA [0, 1] rfl
  refine va_calli (va_runV (As := [.int a1]) (rest := []) ⟨hx, hb, hml, hown, hts⟩ (m_isTicket l D tC tE H.size mm l0 l1 l2 l3 l4 la sk ab bu cu sd 0 0 a1) (cwV 1 hts gX13_lastOn_X13_isTicket rfl rfl rfl (by decide +kernel) ⟨(Nat.le_of_ble_eq_true rfl), (Nat.le_of_ble_eq_true rfl)⟩) ⟨pg_blind, (va_recv hK hP (ci := 17) (q0 := 0) rfl rfl), (pg_pre hP hD hK hG hS hFc [0, 1] rfl (by decide) [] rfl _)⟩ rfl rfl hl.1 rfl (lv_room (Nat.le_of_ble_eq_true rfl)) dX13_lastOn_7 ⟨(Nat.le_of_ble_eq_true rfl), (Nat.le_of_ble_eq_true rfl)⟩) hS (fun q _ h => hFc q h) hFc (fun r_1 u_2 t H locs ht hvm hw hB hz1 hk1 hS => ?_)
  subst hw
  obtain ⟨hP, hD, hK⟩ := jn (wr := []) (w1 := [(mm, .inr (17, [.int 0, .int 0, .ref l0, .ref la, .ref l1, .ref l2, .ref l3, .ref sk, .ref ab, .ref bu, .ref cu, .ref sd, .ref l4])), (l3, .inr (3, [.int 0, .ref tE, .int 0]))]) (t1 := []) (tr := []) hP hD hK [0, 1] [] rfl rfl (by decide) (by decide) [] rfl hk1 hFc hB rfl rfl ht hvm
  have hP : va_P D vwCl [(mm, .inr (17, [.int 0, .int 0, .ref l0, .ref la, .ref l1, .ref l2, .ref l3, .ref sk, .ref ab, .ref bu, .ref cu, .ref sd, .ref l4])), (l3, .inr (3, [.int 0, .ref tE, .int 0]))] H := hP
  have hD : va_D A [(mm, .inr (17, [.int 0, .int 0, .ref l0, .ref la, .ref l1, .ref l2, .ref l3, .ref sk, .ref ab, .ref bu, .ref cu, .ref sd, .ref l4])), (l3, .inr (3, [.int 0, .ref tE, .int 0]))] := hD
  have hK : va_K D vwCl [] s := hK
  refine W.widen (k := 0) (n := 0) (Nat.le_of_ble_eq_true rfl) (Nat.le_of_ble_eq_true rfl) ?_
  refine lv_if_ne (tgt := 19) hx hb dX13_lastOn_10 (by decide) (fun c_3 => absurd (by decide) c_3) (fun c_3 => ?_)
  refine lv_aload_n hx hb dX13_lastOn_13 rfl (lv_at hl 0 rfl) ?_
  refine lv_iconst (v := 1) hx hb dX13_lastOn_14 (by decide) ?_
  have hFc := va_free (wc := [(mm, .inr (17, [.int 0, .int 0, .ref l0, .ref la, .ref l1, .ref l2, .ref l3, .ref sk, .ref ab, .ref bu, .ref cu, .ref sd, .ref l4]))]) hD hS hA [0] rfl
  refine va_calli (va_runV (As := [.int 1]) (rest := []) ⟨hx, hb, hml, hown, hts⟩ (m_fails l D tC tE H.size mm l0 l1 l2 l3 l4 la sk ab bu cu sd 0 0 1) (cwV 1 hts gX13_lastOn_X13_fails rfl rfl rfl (by decide +kernel) ⟨(Nat.le_of_ble_eq_true rfl), (Nat.le_of_ble_eq_true rfl)⟩) ⟨pg_blind, (va_recv hK hP (ci := 17) (q0 := 0) rfl rfl), (pg_pre hP hD hK hG hS hFc [0] rfl (by decide) [] rfl _)⟩ rfl rfl hl.1 rfl (lv_room (Nat.le_of_ble_eq_true rfl)) dX13_lastOn_15 ⟨(Nat.le_of_ble_eq_true rfl), (Nat.le_of_ble_eq_true rfl)⟩) hS (fun q _ h => hFc q h) hFc (fun r_4 u_5 t H locs ht hvm hw hB hz1 hk1 hS => ?_)
  subst hw
  obtain ⟨hP, hD, hK⟩ := jn (wr := [(l3, .inr (3, [.int 0, .ref tE, .int 0]))]) (w1 := [(mm, .inr (17, [.int 1, .int 0, .ref l0, .ref la, .ref l1, .ref l2, .ref l3, .ref sk, .ref ab, .ref bu, .ref cu, .ref sd, .ref l4]))]) (t1 := []) (tr := []) hP hD hK [0] [1] rfl rfl (by decide) (by decide) [] rfl hk1 hFc hB rfl rfl ht hvm
  have hP : va_P D vwCl [(l3, .inr (3, [.int 0, .ref tE, .int 0])), (mm, .inr (17, [.int 1, .int 0, .ref l0, .ref la, .ref l1, .ref l2, .ref l3, .ref sk, .ref ab, .ref bu, .ref cu, .ref sd, .ref l4]))] H := hP
  have hD : va_D A [(l3, .inr (3, [.int 0, .ref tE, .int 0])), (mm, .inr (17, [.int 1, .int 0, .ref l0, .ref la, .ref l1, .ref l2, .ref l3, .ref sk, .ref ab, .ref bu, .ref cu, .ref sd, .ref l4]))] := hD
  have hK : va_K D vwCl [] s := hK
  refine W.widen (k := 0) (n := 0) (Nat.le_of_ble_eq_true rfl) (Nat.le_of_ble_eq_true rfl) ?_
  have hP9 := hP.sub (ws' := [(mm, .inr (17, [.int 1, .int 0, .ref l0, .ref la, .ref l1, .ref l2, .ref l3, .ref sk, .ref ab, .ref bu, .ref cu, .ref sd, .ref l4]))]) [1] rfl
  have hD9 := hD.sub (ws' := [(mm, .inr (17, [.int 1, .int 0, .ref l0, .ref la, .ref l1, .ref l2, .ref l3, .ref sk, .ref ab, .ref bu, .ref cu, .ref sd, .ref l4]))]) [1] (by decide) rfl
  have hK9 := hK.sub (tys' := []) [] rfl
  exact end_i hx hb hr hlocks hP9 hD9 hK9 hS (1, 0) rfl rfl rfl (Nat.le_of_ble_eq_true rfl) (Nat.le_of_ble_eq_true rfl) dX13_lastOn_18
set_option maxHeartbeats 4000000 in
set_option maxRecDepth 100000 in
/-- sole of the reference, on a fresh object -/
theorem m_sole (l : Launch) (D : va_G) (tC tE sz : Nat) (mm l0 l1 l2 l3 l4 la sk ab bu cu sd : Nat) (a1 a2 a3 : Int32) : Met l yX13_sole wsX13_sole ({ frames := 2, cells := 0, slots := 0, locals := 43 }) (Pg D tC tE sz [(mm, .inr (17, [.int 0, .int 0, .ref l0, .ref la, .ref l1, .ref l2, .ref l3, .ref sk, .ref ab, .ref bu, .ref cu, .ref sd, .ref l4])), (l3, .inr (3, [.int 0, .ref tE, .int 0]))] [] [.ref mm, .int a1, .int a2, .int a3]) (Qgi (S := Int32 × Int32) D (fun u => [(mm, .inr (17, [.int (u.1), .int (u.2), .ref l0, .ref la, .ref l1, .ref l2, .ref l3, .ref sk, .ref ab, .ref bu, .ref cu, .ref sd, .ref l4]))]) (fun u => []) (fun _ u => u.1 = 1) (va_A [(mm, .inr (17, [.int 0, .int 0, .ref l0, .ref la, .ref l1, .ref l2, .ref l3, .ref sk, .ref ab, .ref bu, .ref cu, .ref sd, .ref l4])), (l3, .inr (3, [.int 0, .ref tE, .int 0]))] sz)) 0 0 (va_A [(mm, .inr (17, [.int 0, .int 0, .ref l0, .ref la, .ref l1, .ref l2, .ref l3, .ref sk, .ref ab, .ref bu, .ref cu, .ref sd, .ref l4])), (l3, .inr (3, [.int 0, .ref tE, .int 0]))] sz) := by
  refine og_m (cc := cX13_sole) (maxL := 6) (ret := (some .boolean)) (Qc := Qgi (S := Int32 × Int32) D (fun u => [(mm, .inr (17, [.int (u.1), .int (u.2), .ref l0, .ref la, .ref l1, .ref l2, .ref l3, .ref sk, .ref ab, .ref bu, .ref cu, .ref sd, .ref l4]))]) (fun u => []) (fun _ u => u.1 = 1)) (by decide) rfl (Nat.le_of_ble_eq_true rfl) ?_
  intro p e s m below meth c A hx hb hr hml hts hown hlocks hin hP hD hK hG hA hS ls hl
  have hl : lv_has ls 6 [(0, .ref mm), (1, .int a1), (2, .int a2), (3, .int a3)] := hl
  refine lv_aload_n hx hb dX13_sole_0 rfl (lv_at hl 0 rfl) ?_
  refine lv_iconst (v := 0) hx hb dX13_sole_1 (by decide) ?_
  refine va_put (D := D) (ci := 17) (v := .int 0) (ty := .int) (C := RX13) (T := TX13) (N := 13) hx hb hts (fun w h => List.mem_cons_of_mem _ (List.mem_append_left _ (List.mem_append_left _ (List.mem_append_left _ (List.mem_append_left _ (List.mem_append_right _ h)))))) tyX13 tyX13_ok nmX13 hown hK hP hD hS 0 rfl rfl 0 (by decide) (hts (.fieldLink RX13 48 "LastroomModel" "code" "I") (List.mem_of_getElem? (i := 1) rfl)) (fun _ h9 => h9) rfl (by decide +kernel) rfl rfl (Nat.le_of_ble_eq_true rfl) dX13_sole_2 (fun H locs hP hD hS => ?_)
  have hP : va_P D vwCl [(mm, .inr (17, [.int 0, .int 0, .ref l0, .ref la, .ref l1, .ref l2, .ref l3, .ref sk, .ref ab, .ref bu, .ref cu, .ref sd, .ref l4])), (l3, .inr (3, [.int 0, .ref tE, .int 0]))] H := hP
  have hD : va_D A [(mm, .inr (17, [.int 0, .int 0, .ref l0, .ref la, .ref l1, .ref l2, .ref l3, .ref sk, .ref ab, .ref bu, .ref cu, .ref sd, .ref l4])), (l3, .inr (3, [.int 0, .ref tE, .int 0]))] := hD
  refine lv_aload_n hx hb dX13_sole_5 rfl (lv_at hl 0 rfl) ?_
  refine lv_iload_n hx hb dX13_sole_6 rfl (lv_at hl 1 rfl) ?_
  have hFc := va_free (wc := [(mm, .inr (17, [.int 0, .int 0, .ref l0, .ref la, .ref l1, .ref l2, .ref l3, .ref sk, .ref ab, .ref bu, .ref cu, .ref sd, .ref l4])), (l3, .inr (3, [.int 0, .ref tE, .int 0]))]) hD hS hA [0, 1] rfl
  refine va_calli (va_runV (As := [.int a1]) (rest := []) ⟨hx, hb, hml, hown, hts⟩ (m_isTicket l D tC tE H.size mm l0 l1 l2 l3 l4 la sk ab bu cu sd 0 0 a1) (cwV 1 hts gX13_sole_X13_isTicket rfl rfl rfl (by decide +kernel) ⟨(Nat.le_of_ble_eq_true rfl), (Nat.le_of_ble_eq_true rfl)⟩) ⟨pg_blind, (va_recv hK hP (ci := 17) (q0 := 0) rfl rfl), (pg_pre hP hD hK hG hS hFc [0, 1] rfl (by decide) [] rfl _)⟩ rfl rfl hl.1 rfl (lv_room (Nat.le_of_ble_eq_true rfl)) dX13_sole_7 ⟨(Nat.le_of_ble_eq_true rfl), (Nat.le_of_ble_eq_true rfl)⟩) hS (fun q _ h => hFc q h) hFc (fun r_1 u_2 t H locs ht hvm hw hB hz1 hk1 hS => ?_)
  subst hw
  obtain ⟨hP, hD, hK⟩ := jn (wr := []) (w1 := [(mm, .inr (17, [.int 0, .int 0, .ref l0, .ref la, .ref l1, .ref l2, .ref l3, .ref sk, .ref ab, .ref bu, .ref cu, .ref sd, .ref l4])), (l3, .inr (3, [.int 0, .ref tE, .int 0]))]) (t1 := []) (tr := []) hP hD hK [0, 1] [] rfl rfl (by decide) (by decide) [] rfl hk1 hFc hB rfl rfl ht hvm
  have hP : va_P D vwCl [(mm, .inr (17, [.int 0, .int 0, .ref l0, .ref la, .ref l1, .ref l2, .ref l3, .ref sk, .ref ab, .ref bu, .ref cu, .ref sd, .ref l4])), (l3, .inr (3, [.int 0, .ref tE, .int 0]))] H := hP
  have hD : va_D A [(mm, .inr (17, [.int 0, .int 0, .ref l0, .ref la, .ref l1, .ref l2, .ref l3, .ref sk, .ref ab, .ref bu, .ref cu, .ref sd, .ref l4])), (l3, .inr (3, [.int 0, .ref tE, .int 0]))] := hD
  have hK : va_K D vwCl [] s := hK
  refine W.widen (k := 0) (n := 0) (Nat.le_of_ble_eq_true rfl) (Nat.le_of_ble_eq_true rfl) ?_
  refine lv_if_eq (tgt := 32) hx hb dX13_sole_10 (by decide) (fun c_3 => ?_) (fun c_3 => absurd (show (0 : Int32) = 0 from (by decide)) c_3)
  refine lv_aload_n hx hb dX13_sole_32 rfl (lv_at hl 0 rfl) ?_
  refine lv_iconst (v := 1) hx hb dX13_sole_33 (by decide) ?_
  have hFc := va_free (wc := [(mm, .inr (17, [.int 0, .int 0, .ref l0, .ref la, .ref l1, .ref l2, .ref l3, .ref sk, .ref ab, .ref bu, .ref cu, .ref sd, .ref l4]))]) hD hS hA [0] rfl
  refine va_calli (va_runV (As := [.int 1]) (rest := []) ⟨hx, hb, hml, hown, hts⟩ (m_failsBoolean l D tC tE H.size mm l0 l1 l2 l3 l4 la sk ab bu cu sd 0 0 1) (cwV 1 hts gX13_sole_X13_failsBoolean rfl rfl rfl (by decide +kernel) ⟨(Nat.le_of_ble_eq_true rfl), (Nat.le_of_ble_eq_true rfl)⟩) ⟨pg_blind, (va_recv hK hP (ci := 17) (q0 := 0) rfl rfl), (pg_pre hP hD hK hG hS hFc [0] rfl (by decide) [] rfl _)⟩ rfl rfl hl.1 rfl (lv_room (Nat.le_of_ble_eq_true rfl)) dX13_sole_34 ⟨(Nat.le_of_ble_eq_true rfl), (Nat.le_of_ble_eq_true rfl)⟩) hS (fun q _ h => hFc q h) hFc (fun r_4 u_5 t H locs ht hvm hw hB hz1 hk1 hS => ?_)
  subst hw
  obtain ⟨hP, hD, hK⟩ := jn (wr := [(l3, .inr (3, [.int 0, .ref tE, .int 0]))]) (w1 := [(mm, .inr (17, [.int 1, .int 0, .ref l0, .ref la, .ref l1, .ref l2, .ref l3, .ref sk, .ref ab, .ref bu, .ref cu, .ref sd, .ref l4]))]) (t1 := []) (tr := []) hP hD hK [0] [1] rfl rfl (by decide) (by decide) [] rfl hk1 hFc hB rfl rfl ht hvm
  have hP : va_P D vwCl [(l3, .inr (3, [.int 0, .ref tE, .int 0])), (mm, .inr (17, [.int 1, .int 0, .ref l0, .ref la, .ref l1, .ref l2, .ref l3, .ref sk, .ref ab, .ref bu, .ref cu, .ref sd, .ref l4]))] H := hP
  have hD : va_D A [(l3, .inr (3, [.int 0, .ref tE, .int 0])), (mm, .inr (17, [.int 1, .int 0, .ref l0, .ref la, .ref l1, .ref l2, .ref l3, .ref sk, .ref ab, .ref bu, .ref cu, .ref sd, .ref l4]))] := hD
  have hK : va_K D vwCl [] s := hK
  refine W.widen (k := 0) (n := 0) (Nat.le_of_ble_eq_true rfl) (Nat.le_of_ble_eq_true rfl) ?_
  have hP9 := hP.sub (ws' := [(mm, .inr (17, [.int 1, .int 0, .ref l0, .ref la, .ref l1, .ref l2, .ref l3, .ref sk, .ref ab, .ref bu, .ref cu, .ref sd, .ref l4]))]) [1] rfl
  have hD9 := hD.sub (ws' := [(mm, .inr (17, [.int 1, .int 0, .ref l0, .ref la, .ref l1, .ref l2, .ref l3, .ref sk, .ref ab, .ref bu, .ref cu, .ref sd, .ref l4]))]) [1] (by decide) rfl
  have hK9 := hK.sub (tys' := []) [] rfl
  exact end_z hx hb hr hlocks (by decide) hP9 hD9 hK9 hS (1, 0) rfl rfl rfl (Nat.le_of_ble_eq_true rfl) (Nat.le_of_ble_eq_true rfl) dX13_sole_37
set_option maxHeartbeats 4000000 in
set_option maxRecDepth 100000 in
/-- takeOff of the reference, on a fresh object -/
theorem m_takeOff (l : Launch) (D : va_G) (tC tE sz : Nat) (mm l0 l1 l2 l3 l4 la sk ab bu cu sd : Nat) (a1 : Int32) : Met l yX13_takeOff wsX13_takeOff ({ frames := 2, cells := 0, slots := 0, locals := 43 }) (Pg D tC tE sz [(mm, .inr (17, [.int 0, .int 0, .ref l0, .ref la, .ref l1, .ref l2, .ref l3, .ref sk, .ref ab, .ref bu, .ref cu, .ref sd, .ref l4])), (l3, .inr (3, [.int 0, .ref tE, .int 0]))] [] [.ref mm, .int a1]) (Qgi (S := Int32 × Int32) D (fun u => [(mm, .inr (17, [.int (u.1), .int (u.2), .ref l0, .ref la, .ref l1, .ref l2, .ref l3, .ref sk, .ref ab, .ref bu, .ref cu, .ref sd, .ref l4]))]) (fun u => []) (fun _ u => u.1 = 1) (va_A [(mm, .inr (17, [.int 0, .int 0, .ref l0, .ref la, .ref l1, .ref l2, .ref l3, .ref sk, .ref ab, .ref bu, .ref cu, .ref sd, .ref l4])), (l3, .inr (3, [.int 0, .ref tE, .int 0]))] sz)) 0 0 (va_A [(mm, .inr (17, [.int 0, .int 0, .ref l0, .ref la, .ref l1, .ref l2, .ref l3, .ref sk, .ref ab, .ref bu, .ref cu, .ref sd, .ref l4])), (l3, .inr (3, [.int 0, .ref tE, .int 0]))] sz) := by
  refine og_m (cc := cX13_takeOff) (maxL := 3) (ret := (some .int)) (Qc := Qgi (S := Int32 × Int32) D (fun u => [(mm, .inr (17, [.int (u.1), .int (u.2), .ref l0, .ref la, .ref l1, .ref l2, .ref l3, .ref sk, .ref ab, .ref bu, .ref cu, .ref sd, .ref l4]))]) (fun u => []) (fun _ u => u.1 = 1)) (by decide) rfl (Nat.le_of_ble_eq_true rfl) ?_
  intro p e s m below meth c A hx hb hr hml hts hown hlocks hin hP hD hK hG hA hS ls hl
  have hl : lv_has ls 3 [(0, .ref mm), (1, .int a1)] := hl
  refine lv_aload_n hx hb dX13_takeOff_0 rfl (lv_at hl 0 rfl) ?_
  refine lv_iconst (v := 0) hx hb dX13_takeOff_1 (by decide) ?_
  refine va_put (D := D) (ci := 17) (v := .int 0) (ty := .int) (C := RX13) (T := TX13) (N := 13) hx hb hts (fun w h => List.mem_cons_of_mem _ (List.mem_append_left _ (List.mem_append_left _ (List.mem_append_left _ (List.mem_append_left _ (List.mem_append_left _ (List.mem_append_left _ (List.mem_append_right _ h)))))))) tyX13 tyX13_ok nmX13 hown hK hP hD hS 0 rfl rfl 0 (by decide) (hts (.fieldLink RX13 48 "LastroomModel" "code" "I") (List.mem_of_getElem? (i := 1) rfl)) (fun _ h9 => h9) rfl (by decide +kernel) rfl rfl (Nat.le_of_ble_eq_true rfl) dX13_takeOff_2 (fun H locs hP hD hS => ?_)
  have hP : va_P D vwCl [(mm, .inr (17, [.int 0, .int 0, .ref l0, .ref la, .ref l1, .ref l2, .ref l3, .ref sk, .ref ab, .ref bu, .ref cu, .ref sd, .ref l4])), (l3, .inr (3, [.int 0, .ref tE, .int 0]))] H := hP
  have hD : va_D A [(mm, .inr (17, [.int 0, .int 0, .ref l0, .ref la, .ref l1, .ref l2, .ref l3, .ref sk, .ref ab, .ref bu, .ref cu, .ref sd, .ref l4])), (l3, .inr (3, [.int 0, .ref tE, .int 0]))] := hD
  refine lv_aload_n hx hb dX13_takeOff_5 rfl (lv_at hl 0 rfl) ?_
  refine lv_iload_n hx hb dX13_takeOff_6 rfl (lv_at hl 1 rfl) ?_
  have hFc := va_free (wc := [(mm, .inr (17, [.int 0, .int 0, .ref l0, .ref la, .ref l1, .ref l2, .ref l3, .ref sk, .ref ab, .ref bu, .ref cu, .ref sd, .ref l4])), (l3, .inr (3, [.int 0, .ref tE, .int 0]))]) hD hS hA [0, 1] rfl
  refine va_calli (va_runV (As := [.int a1]) (rest := []) ⟨hx, hb, hml, hown, hts⟩ (m_isTicket l D tC tE H.size mm l0 l1 l2 l3 l4 la sk ab bu cu sd 0 0 a1) (cwV 1 hts gX13_takeOff_X13_isTicket rfl rfl rfl (by decide +kernel) ⟨(Nat.le_of_ble_eq_true rfl), (Nat.le_of_ble_eq_true rfl)⟩) ⟨pg_blind, (va_recv hK hP (ci := 17) (q0 := 0) rfl rfl), (pg_pre hP hD hK hG hS hFc [0, 1] rfl (by decide) [] rfl _)⟩ rfl rfl hl.1 rfl (lv_room (Nat.le_of_ble_eq_true rfl)) dX13_takeOff_7 ⟨(Nat.le_of_ble_eq_true rfl), (Nat.le_of_ble_eq_true rfl)⟩) hS (fun q _ h => hFc q h) hFc (fun r_1 u_2 t H locs ht hvm hw hB hz1 hk1 hS => ?_)
  subst hw
  obtain ⟨hP, hD, hK⟩ := jn (wr := []) (w1 := [(mm, .inr (17, [.int 0, .int 0, .ref l0, .ref la, .ref l1, .ref l2, .ref l3, .ref sk, .ref ab, .ref bu, .ref cu, .ref sd, .ref l4])), (l3, .inr (3, [.int 0, .ref tE, .int 0]))]) (t1 := []) (tr := []) hP hD hK [0, 1] [] rfl rfl (by decide) (by decide) [] rfl hk1 hFc hB rfl rfl ht hvm
  have hP : va_P D vwCl [(mm, .inr (17, [.int 0, .int 0, .ref l0, .ref la, .ref l1, .ref l2, .ref l3, .ref sk, .ref ab, .ref bu, .ref cu, .ref sd, .ref l4])), (l3, .inr (3, [.int 0, .ref tE, .int 0]))] H := hP
  have hD : va_D A [(mm, .inr (17, [.int 0, .int 0, .ref l0, .ref la, .ref l1, .ref l2, .ref l3, .ref sk, .ref ab, .ref bu, .ref cu, .ref sd, .ref l4])), (l3, .inr (3, [.int 0, .ref tE, .int 0]))] := hD
  have hK : va_K D vwCl [] s := hK
  refine W.widen (k := 0) (n := 0) (Nat.le_of_ble_eq_true rfl) (Nat.le_of_ble_eq_true rfl) ?_
  refine lv_if_ne (tgt := 19) hx hb dX13_takeOff_10 (by decide) (fun c_3 => absurd (by decide) c_3) (fun c_3 => ?_)
  refine lv_aload_n hx hb dX13_takeOff_13 rfl (lv_at hl 0 rfl) ?_
  refine lv_iconst (v := 1) hx hb dX13_takeOff_14 (by decide) ?_
  have hFc := va_free (wc := [(mm, .inr (17, [.int 0, .int 0, .ref l0, .ref la, .ref l1, .ref l2, .ref l3, .ref sk, .ref ab, .ref bu, .ref cu, .ref sd, .ref l4]))]) hD hS hA [0] rfl
  refine va_calli (va_runV (As := [.int 1]) (rest := []) ⟨hx, hb, hml, hown, hts⟩ (m_fails l D tC tE H.size mm l0 l1 l2 l3 l4 la sk ab bu cu sd 0 0 1) (cwV 1 hts gX13_takeOff_X13_fails rfl rfl rfl (by decide +kernel) ⟨(Nat.le_of_ble_eq_true rfl), (Nat.le_of_ble_eq_true rfl)⟩) ⟨pg_blind, (va_recv hK hP (ci := 17) (q0 := 0) rfl rfl), (pg_pre hP hD hK hG hS hFc [0] rfl (by decide) [] rfl _)⟩ rfl rfl hl.1 rfl (lv_room (Nat.le_of_ble_eq_true rfl)) dX13_takeOff_15 ⟨(Nat.le_of_ble_eq_true rfl), (Nat.le_of_ble_eq_true rfl)⟩) hS (fun q _ h => hFc q h) hFc (fun r_4 u_5 t H locs ht hvm hw hB hz1 hk1 hS => ?_)
  subst hw
  obtain ⟨hP, hD, hK⟩ := jn (wr := [(l3, .inr (3, [.int 0, .ref tE, .int 0]))]) (w1 := [(mm, .inr (17, [.int 1, .int 0, .ref l0, .ref la, .ref l1, .ref l2, .ref l3, .ref sk, .ref ab, .ref bu, .ref cu, .ref sd, .ref l4]))]) (t1 := []) (tr := []) hP hD hK [0] [1] rfl rfl (by decide) (by decide) [] rfl hk1 hFc hB rfl rfl ht hvm
  have hP : va_P D vwCl [(l3, .inr (3, [.int 0, .ref tE, .int 0])), (mm, .inr (17, [.int 1, .int 0, .ref l0, .ref la, .ref l1, .ref l2, .ref l3, .ref sk, .ref ab, .ref bu, .ref cu, .ref sd, .ref l4]))] H := hP
  have hD : va_D A [(l3, .inr (3, [.int 0, .ref tE, .int 0])), (mm, .inr (17, [.int 1, .int 0, .ref l0, .ref la, .ref l1, .ref l2, .ref l3, .ref sk, .ref ab, .ref bu, .ref cu, .ref sd, .ref l4]))] := hD
  have hK : va_K D vwCl [] s := hK
  refine W.widen (k := 0) (n := 0) (Nat.le_of_ble_eq_true rfl) (Nat.le_of_ble_eq_true rfl) ?_
  have hP9 := hP.sub (ws' := [(mm, .inr (17, [.int 1, .int 0, .ref l0, .ref la, .ref l1, .ref l2, .ref l3, .ref sk, .ref ab, .ref bu, .ref cu, .ref sd, .ref l4]))]) [1] rfl
  have hD9 := hD.sub (ws' := [(mm, .inr (17, [.int 1, .int 0, .ref l0, .ref la, .ref l1, .ref l2, .ref l3, .ref sk, .ref ab, .ref bu, .ref cu, .ref sd, .ref l4]))]) [1] (by decide) rfl
  have hK9 := hK.sub (tys' := []) [] rfl
  exact end_i hx hb hr hlocks hP9 hD9 hK9 hS (1, 0) rfl rfl rfl (Nat.le_of_ble_eq_true rfl) (Nat.le_of_ble_eq_true rfl) dX13_takeOff_18
set_option maxHeartbeats 4000000 in
set_option maxRecDepth 100000 in
/-- pack of the reference, on a fresh object -/
theorem m_pack (l : Launch) (D : va_G) (tC tE sz : Nat) (mm l0 l1 l2 l3 l4 la sk ab bu cu sd : Nat) (a1 a2 a3 : Int32) : Met l yX13_pack wsX13_pack ({ frames := 2, cells := 0, slots := 0, locals := 43 }) (Pg D tC tE sz [(mm, .inr (17, [.int 0, .int 0, .ref l0, .ref la, .ref l1, .ref l2, .ref l3, .ref sk, .ref ab, .ref bu, .ref cu, .ref sd, .ref l4])), (l3, .inr (3, [.int 0, .ref tE, .int 0]))] [] [.ref mm, .int a1, .int a2, .int a3]) (Qgi (S := Int32 × Int32) D (fun u => [(mm, .inr (17, [.int (u.1), .int (u.2), .ref l0, .ref la, .ref l1, .ref l2, .ref l3, .ref sk, .ref ab, .ref bu, .ref cu, .ref sd, .ref l4]))]) (fun u => []) (fun _ u => u.1 = 1) (va_A [(mm, .inr (17, [.int 0, .int 0, .ref l0, .ref la, .ref l1, .ref l2, .ref l3, .ref sk, .ref ab, .ref bu, .ref cu, .ref sd, .ref l4])), (l3, .inr (3, [.int 0, .ref tE, .int 0]))] sz)) 0 0 (va_A [(mm, .inr (17, [.int 0, .int 0, .ref l0, .ref la, .ref l1, .ref l2, .ref l3, .ref sk, .ref ab, .ref bu, .ref cu, .ref sd, .ref l4])), (l3, .inr (3, [.int 0, .ref tE, .int 0]))] sz) := by
  refine og_m (cc := cX13_pack) (maxL := 6) (ret := (some .boolean)) (Qc := Qgi (S := Int32 × Int32) D (fun u => [(mm, .inr (17, [.int (u.1), .int (u.2), .ref l0, .ref la, .ref l1, .ref l2, .ref l3, .ref sk, .ref ab, .ref bu, .ref cu, .ref sd, .ref l4]))]) (fun u => []) (fun _ u => u.1 = 1)) (by decide) rfl (Nat.le_of_ble_eq_true rfl) ?_
  intro p e s m below meth c A hx hb hr hml hts hown hlocks hin hP hD hK hG hA hS ls hl
  have hl : lv_has ls 6 [(0, .ref mm), (1, .int a1), (2, .int a2), (3, .int a3)] := hl
  refine lv_aload_n hx hb dX13_pack_0 rfl (lv_at hl 0 rfl) ?_
  refine lv_aload_n hx hb dX13_pack_1 rfl (lv_at hl 0 rfl) ?_
  refine lv_iload_n hx hb dX13_pack_2 rfl (lv_at hl 1 rfl) ?_
  have hFc := va_free (wc := [(mm, .inr (17, [.int 0, .int 0, .ref l0, .ref la, .ref l1, .ref l2, .ref l3, .ref sk, .ref ab, .ref bu, .ref cu, .ref sd, .ref l4])), (l3, .inr (3, [.int 0, .ref tE, .int 0]))]) hD hS hA [0, 1] rfl
  refine va_calli (va_runV (As := [.int a1]) (rest := [.ref mm]) ⟨hx, hb, hml, hown, hts⟩ (m_isTicket l D tC tE s.heap.size mm l0 l1 l2 l3 l4 la sk ab bu cu sd 0 0 a1) (cwV 1 hts gX13_pack_X13_isTicket rfl rfl rfl (by decide +kernel) ⟨(Nat.le_of_ble_eq_true rfl), (Nat.le_of_ble_eq_true rfl)⟩) ⟨pg_blind, (va_recv hK hP (ci := 17) (q0 := 0) rfl rfl), (pg_pre hP hD hK hG hS hFc [0, 1] rfl (by decide) [] rfl _)⟩ rfl rfl hl.1 rfl (lv_room (Nat.le_of_ble_eq_true rfl)) dX13_pack_3 ⟨(Nat.le_of_ble_eq_true rfl), (Nat.le_of_ble_eq_true rfl)⟩) hS (fun q _ h => hFc q h) hFc (fun r_1 u_2 t H locs ht hvm hw hB hz1 hk1 hS => ?_)
  subst hw
  obtain ⟨hP, hD, hK⟩ := jn (wr := []) (w1 := [(mm, .inr (17, [.int 0, .int 0, .ref l0, .ref la, .ref l1, .ref l2, .ref l3, .ref sk, .ref ab, .ref bu, .ref cu, .ref sd, .ref l4])), (l3, .inr (3, [.int 0, .ref tE, .int 0]))]) (t1 := []) (tr := []) hP hD hK [0, 1] [] rfl rfl (by decide) (by decide) [] rfl hk1 hFc hB rfl rfl ht hvm
  have hP : va_P D vwCl [(mm, .inr (17, [.int 0, .int 0, .ref l0, .ref la, .ref l1, .ref l2, .ref l3, .ref sk, .ref ab, .ref bu, .ref cu, .ref sd, .ref l4])), (l3, .inr (3, [.int 0, .ref tE, .int 0]))] H := hP
  have hD : va_D A [(mm, .inr (17, [.int 0, .int 0, .ref l0, .ref la, .ref l1, .ref l2, .ref l3, .ref sk, .ref ab, .ref bu, .ref cu, .ref sd, .ref l4])), (l3, .inr (3, [.int 0, .ref tE, .int 0]))] := hD
  have hK : va_K D vwCl [] s := hK
  refine W.widen (k := 0) (n := 0) (Nat.le_of_ble_eq_true rfl) (Nat.le_of_ble_eq_true rfl) ?_
  refine lv_if_ne (tgt := 13) hx hb dX13_pack_6 (by decide) (fun c_3 => absurd (by decide) c_3) (fun c_3 => ?_)
  refine lv_iconst (v := 1) hx hb dX13_pack_9 (by decide) ?_
  refine lv_goto (tgt := 63) hx hb dX13_pack_10 (by decide) ?_
  refine va_put (D := D) (ci := 17) (v := .int 1) (ty := .int) (C := RX13) (T := TX13) (N := 13) hx hb hts (fun w h => List.mem_cons_of_mem _ (List.mem_append_left _ (List.mem_append_left _ (List.mem_append_left _ (List.mem_append_left _ (List.mem_append_right _ h)))))) tyX13 tyX13_ok nmX13 hown hK hP hD hS 0 rfl rfl 0 (by decide) (hts (.fieldLink RX13 48 "LastroomModel" "code" "I") (List.mem_of_getElem? (i := 3) rfl)) (fun _ h9 => h9) rfl (by decide +kernel) rfl rfl (Nat.le_of_ble_eq_true rfl) dX13_pack_63 (fun H locs hP hD hS => ?_)
  have hP : va_P D vwCl [(mm, .inr (17, [.int 1, .int 0, .ref l0, .ref la, .ref l1, .ref l2, .ref l3, .ref sk, .ref ab, .ref bu, .ref cu, .ref sd, .ref l4])), (l3, .inr (3, [.int 0, .ref tE, .int 0]))] H := hP
  have hD : va_D A [(mm, .inr (17, [.int 1, .int 0, .ref l0, .ref la, .ref l1, .ref l2, .ref l3, .ref sk, .ref ab, .ref bu, .ref cu, .ref sd, .ref l4])), (l3, .inr (3, [.int 0, .ref tE, .int 0]))] := hD
  refine lv_aload_n hx hb dX13_pack_66 rfl (lv_at hl 0 rfl) ?_
  refine va_get (D := D) (ci := 17) (v := .int 1) (C := RX13) (T := TX13) (N := 13) hx hb hts (fun w h => List.mem_cons_of_mem _ (List.mem_append_left _ (List.mem_append_left _ (List.mem_append_left _ (List.mem_append_left _ (List.mem_append_right _ h)))))) hown hK hP 0 rfl rfl 0 (by decide) (hts (.fieldLink RX13 48 "LastroomModel" "code" "I") (List.mem_of_getElem? (i := 3) rfl)) (fun _ h9 => h9) rfl dX13_pack_67 ?_
  refine lv_if_le (tgt := 75) hx hb dX13_pack_70 (by decide) (fun c_4 => absurd c_4 (show ¬ (1 : Int32) ≤ 0 from (by decide))) (fun c_4 => ?_)
  refine lv_iconst (v := 0) hx hb dX13_pack_73 (by decide) ?_
  have hP9 := hP.sub (ws' := [(mm, .inr (17, [.int 1, .int 0, .ref l0, .ref la, .ref l1, .ref l2, .ref l3, .ref sk, .ref ab, .ref bu, .ref cu, .ref sd, .ref l4]))]) [0] rfl
  have hD9 := hD.sub (ws' := [(mm, .inr (17, [.int 1, .int 0, .ref l0, .ref la, .ref l1, .ref l2, .ref l3, .ref sk, .ref ab, .ref bu, .ref cu, .ref sd, .ref l4]))]) [0] (by decide) rfl
  have hK9 := hK.sub (tys' := []) [] rfl
  exact end_z hx hb hr hlocks (by decide) hP9 hD9 hK9 hS (1, 0) rfl rfl rfl (Nat.le_of_ble_eq_true rfl) (Nat.le_of_ble_eq_true rfl) dX13_pack_74
set_option maxHeartbeats 4000000 in
set_option maxRecDepth 100000 in
/-- test of the reference, on a fresh object -/
theorem m_test (l : Launch) (D : va_G) (tC tE sz : Nat) (mm l0 l1 l2 l3 l4 la sk ab bu cu sd : Nat) (a1 a2 : Int32) : Met l yX13_test wsX13_test ({ frames := 2, cells := 0, slots := 0, locals := 43 }) (Pg D tC tE sz [(mm, .inr (17, [.int 0, .int 0, .ref l0, .ref la, .ref l1, .ref l2, .ref l3, .ref sk, .ref ab, .ref bu, .ref cu, .ref sd, .ref l4])), (l3, .inr (3, [.int 0, .ref tE, .int 0]))] [] [.ref mm, .int a1, .int a2]) (Qgi (S := Int32 × Int32) D (fun u => [(mm, .inr (17, [.int (u.1), .int (u.2), .ref l0, .ref la, .ref l1, .ref l2, .ref l3, .ref sk, .ref ab, .ref bu, .ref cu, .ref sd, .ref l4]))]) (fun u => []) (fun _ u => u.1 = 1) (va_A [(mm, .inr (17, [.int 0, .int 0, .ref l0, .ref la, .ref l1, .ref l2, .ref l3, .ref sk, .ref ab, .ref bu, .ref cu, .ref sd, .ref l4])), (l3, .inr (3, [.int 0, .ref tE, .int 0]))] sz)) 0 0 (va_A [(mm, .inr (17, [.int 0, .int 0, .ref l0, .ref la, .ref l1, .ref l2, .ref l3, .ref sk, .ref ab, .ref bu, .ref cu, .ref sd, .ref l4])), (l3, .inr (3, [.int 0, .ref tE, .int 0]))] sz) := by
  refine og_m (cc := cX13_test) (maxL := 4) (ret := (some .int)) (Qc := Qgi (S := Int32 × Int32) D (fun u => [(mm, .inr (17, [.int (u.1), .int (u.2), .ref l0, .ref la, .ref l1, .ref l2, .ref l3, .ref sk, .ref ab, .ref bu, .ref cu, .ref sd, .ref l4]))]) (fun u => []) (fun _ u => u.1 = 1)) (by decide) rfl (Nat.le_of_ble_eq_true rfl) ?_
  intro p e s m below meth c A hx hb hr hml hts hown hlocks hin hP hD hK hG hA hS ls hl
  have hl : lv_has ls 4 [(0, .ref mm), (1, .int a1), (2, .int a2)] := hl
  refine lv_aload_n hx hb dX13_test_0 rfl (lv_at hl 0 rfl) ?_
  refine lv_iconst (v := 0) hx hb dX13_test_1 (by decide) ?_
  refine va_put (D := D) (ci := 17) (v := .int 0) (ty := .int) (C := RX13) (T := TX13) (N := 13) hx hb hts (fun w h => List.mem_cons_of_mem _ (List.mem_append_left _ (List.mem_append_left _ (List.mem_append_left _ (List.mem_append_left _ (List.mem_append_left _ (List.mem_append_right _ h))))))) tyX13 tyX13_ok nmX13 hown hK hP hD hS 0 rfl rfl 0 (by decide) (hts (.fieldLink RX13 48 "LastroomModel" "code" "I") (List.mem_of_getElem? (i := 1) rfl)) (fun _ h9 => h9) rfl (by decide +kernel) rfl rfl (Nat.le_of_ble_eq_true rfl) dX13_test_2 (fun H locs hP hD hS => ?_)
  have hP : va_P D vwCl [(mm, .inr (17, [.int 0, .int 0, .ref l0, .ref la, .ref l1, .ref l2, .ref l3, .ref sk, .ref ab, .ref bu, .ref cu, .ref sd, .ref l4])), (l3, .inr (3, [.int 0, .ref tE, .int 0]))] H := hP
  have hD : va_D A [(mm, .inr (17, [.int 0, .int 0, .ref l0, .ref la, .ref l1, .ref l2, .ref l3, .ref sk, .ref ab, .ref bu, .ref cu, .ref sd, .ref l4])), (l3, .inr (3, [.int 0, .ref tE, .int 0]))] := hD
  refine lv_aload_n hx hb dX13_test_5 rfl (lv_at hl 0 rfl) ?_
  refine lv_iload_n hx hb dX13_test_6 rfl (lv_at hl 1 rfl) ?_
  have hFc := va_free (wc := [(mm, .inr (17, [.int 0, .int 0, .ref l0, .ref la, .ref l1, .ref l2, .ref l3, .ref sk, .ref ab, .ref bu, .ref cu, .ref sd, .ref l4])), (l3, .inr (3, [.int 0, .ref tE, .int 0]))]) hD hS hA [0, 1] rfl
  refine va_calli (va_runV (As := [.int a1]) (rest := []) ⟨hx, hb, hml, hown, hts⟩ (m_isTicket l D tC tE H.size mm l0 l1 l2 l3 l4 la sk ab bu cu sd 0 0 a1) (cwV 1 hts gX13_test_X13_isTicket rfl rfl rfl (by decide +kernel) ⟨(Nat.le_of_ble_eq_true rfl), (Nat.le_of_ble_eq_true rfl)⟩) ⟨pg_blind, (va_recv hK hP (ci := 17) (q0 := 0) rfl rfl), (pg_pre hP hD hK hG hS hFc [0, 1] rfl (by decide) [] rfl _)⟩ rfl rfl hl.1 rfl (lv_room (Nat.le_of_ble_eq_true rfl)) dX13_test_7 ⟨(Nat.le_of_ble_eq_true rfl), (Nat.le_of_ble_eq_true rfl)⟩) hS (fun q _ h => hFc q h) hFc (fun r_1 u_2 t H locs ht hvm hw hB hz1 hk1 hS => ?_)
  subst hw
  obtain ⟨hP, hD, hK⟩ := jn (wr := []) (w1 := [(mm, .inr (17, [.int 0, .int 0, .ref l0, .ref la, .ref l1, .ref l2, .ref l3, .ref sk, .ref ab, .ref bu, .ref cu, .ref sd, .ref l4])), (l3, .inr (3, [.int 0, .ref tE, .int 0]))]) (t1 := []) (tr := []) hP hD hK [0, 1] [] rfl rfl (by decide) (by decide) [] rfl hk1 hFc hB rfl rfl ht hvm
  have hP : va_P D vwCl [(mm, .inr (17, [.int 0, .int 0, .ref l0, .ref la, .ref l1, .ref l2, .ref l3, .ref sk, .ref ab, .ref bu, .ref cu, .ref sd, .ref l4])), (l3, .inr (3, [.int 0, .ref tE, .int 0]))] H := hP
  have hD : va_D A [(mm, .inr (17, [.int 0, .int 0, .ref l0, .ref la, .ref l1, .ref l2, .ref l3, .ref sk, .ref ab, .ref bu, .ref cu, .ref sd, .ref l4])), (l3, .inr (3, [.int 0, .ref tE, .int 0]))] := hD
  have hK : va_K D vwCl [] s := hK
  refine W.widen (k := 0) (n := 0) (Nat.le_of_ble_eq_true rfl) (Nat.le_of_ble_eq_true rfl) ?_
  refine lv_if_ne (tgt := 19) hx hb dX13_test_10 (by decide) (fun c_3 => absurd (by decide) c_3) (fun c_3 => ?_)
  refine lv_aload_n hx hb dX13_test_13 rfl (lv_at hl 0 rfl) ?_
  refine lv_iconst (v := 1) hx hb dX13_test_14 (by decide) ?_
  have hFc := va_free (wc := [(mm, .inr (17, [.int 0, .int 0, .ref l0, .ref la, .ref l1, .ref l2, .ref l3, .ref sk, .ref ab, .ref bu, .ref cu, .ref sd, .ref l4]))]) hD hS hA [0] rfl
  refine va_calli (va_runV (As := [.int 1]) (rest := []) ⟨hx, hb, hml, hown, hts⟩ (m_fails l D tC tE H.size mm l0 l1 l2 l3 l4 la sk ab bu cu sd 0 0 1) (cwV 1 hts gX13_test_X13_fails rfl rfl rfl (by decide +kernel) ⟨(Nat.le_of_ble_eq_true rfl), (Nat.le_of_ble_eq_true rfl)⟩) ⟨pg_blind, (va_recv hK hP (ci := 17) (q0 := 0) rfl rfl), (pg_pre hP hD hK hG hS hFc [0] rfl (by decide) [] rfl _)⟩ rfl rfl hl.1 rfl (lv_room (Nat.le_of_ble_eq_true rfl)) dX13_test_15 ⟨(Nat.le_of_ble_eq_true rfl), (Nat.le_of_ble_eq_true rfl)⟩) hS (fun q _ h => hFc q h) hFc (fun r_4 u_5 t H locs ht hvm hw hB hz1 hk1 hS => ?_)
  subst hw
  obtain ⟨hP, hD, hK⟩ := jn (wr := [(l3, .inr (3, [.int 0, .ref tE, .int 0]))]) (w1 := [(mm, .inr (17, [.int 1, .int 0, .ref l0, .ref la, .ref l1, .ref l2, .ref l3, .ref sk, .ref ab, .ref bu, .ref cu, .ref sd, .ref l4]))]) (t1 := []) (tr := []) hP hD hK [0] [1] rfl rfl (by decide) (by decide) [] rfl hk1 hFc hB rfl rfl ht hvm
  have hP : va_P D vwCl [(l3, .inr (3, [.int 0, .ref tE, .int 0])), (mm, .inr (17, [.int 1, .int 0, .ref l0, .ref la, .ref l1, .ref l2, .ref l3, .ref sk, .ref ab, .ref bu, .ref cu, .ref sd, .ref l4]))] H := hP
  have hD : va_D A [(l3, .inr (3, [.int 0, .ref tE, .int 0])), (mm, .inr (17, [.int 1, .int 0, .ref l0, .ref la, .ref l1, .ref l2, .ref l3, .ref sk, .ref ab, .ref bu, .ref cu, .ref sd, .ref l4]))] := hD
  have hK : va_K D vwCl [] s := hK
  refine W.widen (k := 0) (n := 0) (Nat.le_of_ble_eq_true rfl) (Nat.le_of_ble_eq_true rfl) ?_
  have hP9 := hP.sub (ws' := [(mm, .inr (17, [.int 1, .int 0, .ref l0, .ref la, .ref l1, .ref l2, .ref l3, .ref sk, .ref ab, .ref bu, .ref cu, .ref sd, .ref l4]))]) [1] rfl
  have hD9 := hD.sub (ws' := [(mm, .inr (17, [.int 1, .int 0, .ref l0, .ref la, .ref l1, .ref l2, .ref l3, .ref sk, .ref ab, .ref bu, .ref cu, .ref sd, .ref l4]))]) [1] (by decide) rfl
  have hK9 := hK.sub (tys' := []) [] rfl
  exact end_i hx hb hr hlocks hP9 hD9 hK9 hS (1, 0) rfl rfl rfl (Nat.le_of_ble_eq_true rfl) (Nat.le_of_ble_eq_true rfl) dX13_test_18
set_option maxHeartbeats 4000000 in
set_option maxRecDepth 100000 in
/-- comeBack of the reference, on a fresh object -/
theorem m_comeBack (l : Launch) (D : va_G) (tC tE sz : Nat) (mm l0 l1 l2 l3 l4 la sk ab bu cu sd : Nat) (a1 : Int32) : Met l yX13_comeBack wsX13_comeBack ({ frames := 2, cells := 0, slots := 0, locals := 43 }) (Pg D tC tE sz [(mm, .inr (17, [.int 0, .int 0, .ref l0, .ref la, .ref l1, .ref l2, .ref l3, .ref sk, .ref ab, .ref bu, .ref cu, .ref sd, .ref l4])), (l3, .inr (3, [.int 0, .ref tE, .int 0]))] [] [.ref mm, .int a1]) (Qgi (S := Int32 × Int32) D (fun u => [(mm, .inr (17, [.int (u.1), .int (u.2), .ref l0, .ref la, .ref l1, .ref l2, .ref l3, .ref sk, .ref ab, .ref bu, .ref cu, .ref sd, .ref l4]))]) (fun u => []) (fun _ u => u.1 = 1) (va_A [(mm, .inr (17, [.int 0, .int 0, .ref l0, .ref la, .ref l1, .ref l2, .ref l3, .ref sk, .ref ab, .ref bu, .ref cu, .ref sd, .ref l4])), (l3, .inr (3, [.int 0, .ref tE, .int 0]))] sz)) 0 0 (va_A [(mm, .inr (17, [.int 0, .int 0, .ref l0, .ref la, .ref l1, .ref l2, .ref l3, .ref sk, .ref ab, .ref bu, .ref cu, .ref sd, .ref l4])), (l3, .inr (3, [.int 0, .ref tE, .int 0]))] sz) := by
  refine og_m (cc := cX13_comeBack) (maxL := 2) (ret := (some .int)) (Qc := Qgi (S := Int32 × Int32) D (fun u => [(mm, .inr (17, [.int (u.1), .int (u.2), .ref l0, .ref la, .ref l1, .ref l2, .ref l3, .ref sk, .ref ab, .ref bu, .ref cu, .ref sd, .ref l4]))]) (fun u => []) (fun _ u => u.1 = 1)) (by decide) rfl (Nat.le_of_ble_eq_true rfl) ?_
  intro p e s m below meth c A hx hb hr hml hts hown hlocks hin hP hD hK hG hA hS ls hl
  have hl : lv_has ls 2 [(0, .ref mm), (1, .int a1)] := hl
  refine lv_aload_n hx hb dX13_comeBack_0 rfl (lv_at hl 0 rfl) ?_
  refine lv_iconst (v := 0) hx hb dX13_comeBack_1 (by decide) ?_
  refine va_put (D := D) (ci := 17) (v := .int 0) (ty := .int) (C := RX13) (T := TX13) (N := 13) hx hb hts (fun w h => List.mem_cons_of_mem _ (List.mem_append_left _ (List.mem_append_left _ (List.mem_append_left _ (List.mem_append_left _ (List.mem_append_right _ h)))))) tyX13 tyX13_ok nmX13 hown hK hP hD hS 0 rfl rfl 0 (by decide) (hts (.fieldLink RX13 48 "LastroomModel" "code" "I") (List.mem_of_getElem? (i := 1) rfl)) (fun _ h9 => h9) rfl (by decide +kernel) rfl rfl (Nat.le_of_ble_eq_true rfl) dX13_comeBack_2 (fun H locs hP hD hS => ?_)
  have hP : va_P D vwCl [(mm, .inr (17, [.int 0, .int 0, .ref l0, .ref la, .ref l1, .ref l2, .ref l3, .ref sk, .ref ab, .ref bu, .ref cu, .ref sd, .ref l4])), (l3, .inr (3, [.int 0, .ref tE, .int 0]))] H := hP
  have hD : va_D A [(mm, .inr (17, [.int 0, .int 0, .ref l0, .ref la, .ref l1, .ref l2, .ref l3, .ref sk, .ref ab, .ref bu, .ref cu, .ref sd, .ref l4])), (l3, .inr (3, [.int 0, .ref tE, .int 0]))] := hD
  refine lv_aload_n hx hb dX13_comeBack_5 rfl (lv_at hl 0 rfl) ?_
  refine lv_iload_n hx hb dX13_comeBack_6 rfl (lv_at hl 1 rfl) ?_
  have hFc := va_free (wc := [(mm, .inr (17, [.int 0, .int 0, .ref l0, .ref la, .ref l1, .ref l2, .ref l3, .ref sk, .ref ab, .ref bu, .ref cu, .ref sd, .ref l4])), (l3, .inr (3, [.int 0, .ref tE, .int 0]))]) hD hS hA [0, 1] rfl
  refine va_calli (va_runV (As := [.int a1]) (rest := []) ⟨hx, hb, hml, hown, hts⟩ (m_isTicket l D tC tE H.size mm l0 l1 l2 l3 l4 la sk ab bu cu sd 0 0 a1) (cwV 1 hts gX13_comeBack_X13_isTicket rfl rfl rfl (by decide +kernel) ⟨(Nat.le_of_ble_eq_true rfl), (Nat.le_of_ble_eq_true rfl)⟩) ⟨pg_blind, (va_recv hK hP (ci := 17) (q0 := 0) rfl rfl), (pg_pre hP hD hK hG hS hFc [0, 1] rfl (by decide) [] rfl _)⟩ rfl rfl hl.1 rfl (lv_room (Nat.le_of_ble_eq_true rfl)) dX13_comeBack_7 ⟨(Nat.le_of_ble_eq_true rfl), (Nat.le_of_ble_eq_true rfl)⟩) hS (fun q _ h => hFc q h) hFc (fun r_1 u_2 t H locs ht hvm hw hB hz1 hk1 hS => ?_)
  subst hw
  obtain ⟨hP, hD, hK⟩ := jn (wr := []) (w1 := [(mm, .inr (17, [.int 0, .int 0, .ref l0, .ref la, .ref l1, .ref l2, .ref l3, .ref sk, .ref ab, .ref bu, .ref cu, .ref sd, .ref l4])), (l3, .inr (3, [.int 0, .ref tE, .int 0]))]) (t1 := []) (tr := []) hP hD hK [0, 1] [] rfl rfl (by decide) (by decide) [] rfl hk1 hFc hB rfl rfl ht hvm
  have hP : va_P D vwCl [(mm, .inr (17, [.int 0, .int 0, .ref l0, .ref la, .ref l1, .ref l2, .ref l3, .ref sk, .ref ab, .ref bu, .ref cu, .ref sd, .ref l4])), (l3, .inr (3, [.int 0, .ref tE, .int 0]))] H := hP
  have hD : va_D A [(mm, .inr (17, [.int 0, .int 0, .ref l0, .ref la, .ref l1, .ref l2, .ref l3, .ref sk, .ref ab, .ref bu, .ref cu, .ref sd, .ref l4])), (l3, .inr (3, [.int 0, .ref tE, .int 0]))] := hD
  have hK : va_K D vwCl [] s := hK
  refine W.widen (k := 0) (n := 0) (Nat.le_of_ble_eq_true rfl) (Nat.le_of_ble_eq_true rfl) ?_
  refine lv_if_ne (tgt := 19) hx hb dX13_comeBack_10 (by decide) (fun c_3 => absurd (by decide) c_3) (fun c_3 => ?_)
  refine lv_aload_n hx hb dX13_comeBack_13 rfl (lv_at hl 0 rfl) ?_
  refine lv_iconst (v := 1) hx hb dX13_comeBack_14 (by decide) ?_
  have hFc := va_free (wc := [(mm, .inr (17, [.int 0, .int 0, .ref l0, .ref la, .ref l1, .ref l2, .ref l3, .ref sk, .ref ab, .ref bu, .ref cu, .ref sd, .ref l4]))]) hD hS hA [0] rfl
  refine va_calli (va_runV (As := [.int 1]) (rest := []) ⟨hx, hb, hml, hown, hts⟩ (m_fails l D tC tE H.size mm l0 l1 l2 l3 l4 la sk ab bu cu sd 0 0 1) (cwV 1 hts gX13_comeBack_X13_fails rfl rfl rfl (by decide +kernel) ⟨(Nat.le_of_ble_eq_true rfl), (Nat.le_of_ble_eq_true rfl)⟩) ⟨pg_blind, (va_recv hK hP (ci := 17) (q0 := 0) rfl rfl), (pg_pre hP hD hK hG hS hFc [0] rfl (by decide) [] rfl _)⟩ rfl rfl hl.1 rfl (lv_room (Nat.le_of_ble_eq_true rfl)) dX13_comeBack_15 ⟨(Nat.le_of_ble_eq_true rfl), (Nat.le_of_ble_eq_true rfl)⟩) hS (fun q _ h => hFc q h) hFc (fun r_4 u_5 t H locs ht hvm hw hB hz1 hk1 hS => ?_)
  subst hw
  obtain ⟨hP, hD, hK⟩ := jn (wr := [(l3, .inr (3, [.int 0, .ref tE, .int 0]))]) (w1 := [(mm, .inr (17, [.int 1, .int 0, .ref l0, .ref la, .ref l1, .ref l2, .ref l3, .ref sk, .ref ab, .ref bu, .ref cu, .ref sd, .ref l4]))]) (t1 := []) (tr := []) hP hD hK [0] [1] rfl rfl (by decide) (by decide) [] rfl hk1 hFc hB rfl rfl ht hvm
  have hP : va_P D vwCl [(l3, .inr (3, [.int 0, .ref tE, .int 0])), (mm, .inr (17, [.int 1, .int 0, .ref l0, .ref la, .ref l1, .ref l2, .ref l3, .ref sk, .ref ab, .ref bu, .ref cu, .ref sd, .ref l4]))] H := hP
  have hD : va_D A [(l3, .inr (3, [.int 0, .ref tE, .int 0])), (mm, .inr (17, [.int 1, .int 0, .ref l0, .ref la, .ref l1, .ref l2, .ref l3, .ref sk, .ref ab, .ref bu, .ref cu, .ref sd, .ref l4]))] := hD
  have hK : va_K D vwCl [] s := hK
  refine W.widen (k := 0) (n := 0) (Nat.le_of_ble_eq_true rfl) (Nat.le_of_ble_eq_true rfl) ?_
  have hP9 := hP.sub (ws' := [(mm, .inr (17, [.int 1, .int 0, .ref l0, .ref la, .ref l1, .ref l2, .ref l3, .ref sk, .ref ab, .ref bu, .ref cu, .ref sd, .ref l4]))]) [1] rfl
  have hD9 := hD.sub (ws' := [(mm, .inr (17, [.int 1, .int 0, .ref l0, .ref la, .ref l1, .ref l2, .ref l3, .ref sk, .ref ab, .ref bu, .ref cu, .ref sd, .ref l4]))]) [1] (by decide) rfl
  have hK9 := hK.sub (tys' := []) [] rfl
  exact end_i hx hb hr hlocks hP9 hD9 hK9 hS (1, 0) rfl rfl rfl (Nat.le_of_ble_eq_true rfl) (Nat.le_of_ble_eq_true rfl) dX13_comeBack_18
set_option maxHeartbeats 4000000 in
set_option maxRecDepth 100000 in
/-- hideOf of the reference, on a fresh object -/
theorem m_hideOf (l : Launch) (D : va_G) (tC tE sz : Nat) (mm l0 l1 l2 l3 l4 la sk ab bu cu sd : Nat) (a1 a2 a3 : Int32) : Met l yX13_hideOf wsX13_hideOf ({ frames := 3, cells := 0, slots := 0, locals := 65 }) (Pg D tC tE sz [(mm, .inr (17, [.int 0, .int 0, .ref l0, .ref la, .ref l1, .ref l2, .ref l3, .ref sk, .ref ab, .ref bu, .ref cu, .ref sd, .ref l4])), (l3, .inr (3, [.int 0, .ref tE, .int 0]))] [] [.ref mm, .int a1, .int a2, .int a3]) (Qgi (S := Int32 × Int32) D (fun u => [(mm, .inr (17, [.int (u.1), .int (u.2), .ref l0, .ref la, .ref l1, .ref l2, .ref l3, .ref sk, .ref ab, .ref bu, .ref cu, .ref sd, .ref l4]))]) (fun u => []) (fun _ u => u.1 = 1) (va_A [(mm, .inr (17, [.int 0, .int 0, .ref l0, .ref la, .ref l1, .ref l2, .ref l3, .ref sk, .ref ab, .ref bu, .ref cu, .ref sd, .ref l4])), (l3, .inr (3, [.int 0, .ref tE, .int 0]))] sz)) 0 0 (va_A [(mm, .inr (17, [.int 0, .int 0, .ref l0, .ref la, .ref l1, .ref l2, .ref l3, .ref sk, .ref ab, .ref bu, .ref cu, .ref sd, .ref l4])), (l3, .inr (3, [.int 0, .ref tE, .int 0]))] sz) := by
  refine og_m (cc := cX13_hideOf) (maxL := 5) (ret := (some .int)) (Qc := Qgi (S := Int32 × Int32) D (fun u => [(mm, .inr (17, [.int (u.1), .int (u.2), .ref l0, .ref la, .ref l1, .ref l2, .ref l3, .ref sk, .ref ab, .ref bu, .ref cu, .ref sd, .ref l4]))]) (fun u => []) (fun _ u => u.1 = 1)) (by decide) rfl (Nat.le_of_ble_eq_true rfl) ?_
  intro p e s m below meth c A hx hb hr hml hts hown hlocks hin hP hD hK hG hA hS ls hl
  have hl : lv_has ls 5 [(0, .ref mm), (1, .int a1), (2, .int a2), (3, .int a3)] := hl
  refine lv_aload_n hx hb dX13_hideOf_0 rfl (lv_at hl 0 rfl) ?_
  refine lv_iconst (v := 0) hx hb dX13_hideOf_1 (by decide) ?_
  refine va_put (D := D) (ci := 17) (v := .int 0) (ty := .int) (C := RX13) (T := TX13) (N := 13) hx hb hts (fun w h => List.mem_cons_of_mem _ (List.mem_append_left _ (List.mem_append_left _ (List.mem_append_left _ (List.mem_append_left _ (List.mem_append_right _ h)))))) tyX13 tyX13_ok nmX13 hown hK hP hD hS 0 rfl rfl 0 (by decide) (hts (.fieldLink RX13 48 "LastroomModel" "code" "I") (List.mem_of_getElem? (i := 1) rfl)) (fun _ h9 => h9) rfl (by decide +kernel) rfl rfl (Nat.le_of_ble_eq_true rfl) dX13_hideOf_2 (fun H locs hP hD hS => ?_)
  have hP : va_P D vwCl [(mm, .inr (17, [.int 0, .int 0, .ref l0, .ref la, .ref l1, .ref l2, .ref l3, .ref sk, .ref ab, .ref bu, .ref cu, .ref sd, .ref l4])), (l3, .inr (3, [.int 0, .ref tE, .int 0]))] H := hP
  have hD : va_D A [(mm, .inr (17, [.int 0, .int 0, .ref l0, .ref la, .ref l1, .ref l2, .ref l3, .ref sk, .ref ab, .ref bu, .ref cu, .ref sd, .ref l4])), (l3, .inr (3, [.int 0, .ref tE, .int 0]))] := hD
  refine lv_aload_n hx hb dX13_hideOf_5 rfl (lv_at hl 0 rfl) ?_
  refine lv_iload_n hx hb dX13_hideOf_6 rfl (lv_at hl 1 rfl) ?_
  refine lv_iload_n hx hb dX13_hideOf_7 rfl (lv_at hl 3 rfl) ?_
  have hFc := va_free (wc := [(mm, .inr (17, [.int 0, .int 0, .ref l0, .ref la, .ref l1, .ref l2, .ref l3, .ref sk, .ref ab, .ref bu, .ref cu, .ref sd, .ref l4])), (l3, .inr (3, [.int 0, .ref tE, .int 0]))]) hD hS hA [0, 1] rfl
  refine va_calli (va_runV (As := [.int a1, .int a3]) (rest := []) ⟨hx, hb, hml, hown, hts⟩ (m_isPiece l D tC tE H.size mm l0 l1 l2 l3 l4 la sk ab bu cu sd 0 0 a1 a3) (cwV 2 hts gX13_hideOf_X13_isPiece rfl rfl rfl (by decide +kernel) ⟨(Nat.le_of_ble_eq_true rfl), (Nat.le_of_ble_eq_true rfl)⟩) ⟨pg_blind, (va_recv hK hP (ci := 17) (q0 := 0) rfl rfl), (pg_pre hP hD hK hG hS hFc [0, 1] rfl (by decide) [] rfl _)⟩ rfl rfl hl.1 rfl (lv_room (Nat.le_of_ble_eq_true rfl)) dX13_hideOf_8 ⟨(Nat.le_of_ble_eq_true rfl), (Nat.le_of_ble_eq_true rfl)⟩) hS (fun q _ h => hFc q h) hFc (fun r_1 u_2 t H locs ht hvm hw hB hz1 hk1 hS => ?_)
  subst hw
  obtain ⟨hP, hD, hK⟩ := jn (wr := []) (w1 := [(mm, .inr (17, [.int 0, .int 0, .ref l0, .ref la, .ref l1, .ref l2, .ref l3, .ref sk, .ref ab, .ref bu, .ref cu, .ref sd, .ref l4])), (l3, .inr (3, [.int 0, .ref tE, .int 0]))]) (t1 := []) (tr := []) hP hD hK [0, 1] [] rfl rfl (by decide) (by decide) [] rfl hk1 hFc hB rfl rfl ht hvm
  have hP : va_P D vwCl [(mm, .inr (17, [.int 0, .int 0, .ref l0, .ref la, .ref l1, .ref l2, .ref l3, .ref sk, .ref ab, .ref bu, .ref cu, .ref sd, .ref l4])), (l3, .inr (3, [.int 0, .ref tE, .int 0]))] H := hP
  have hD : va_D A [(mm, .inr (17, [.int 0, .int 0, .ref l0, .ref la, .ref l1, .ref l2, .ref l3, .ref sk, .ref ab, .ref bu, .ref cu, .ref sd, .ref l4])), (l3, .inr (3, [.int 0, .ref tE, .int 0]))] := hD
  have hK : va_K D vwCl [] s := hK
  refine W.widen (k := 0) (n := 0) (Nat.le_of_ble_eq_true rfl) (Nat.le_of_ble_eq_true rfl) ?_
  refine lv_if_eq (tgt := 23) hx hb dX13_hideOf_11 (by decide) (fun c_3 => ?_) (fun c_3 => absurd (show (0 : Int32) = 0 from (by decide)) c_3)
  refine lv_aload_n hx hb dX13_hideOf_23 rfl (lv_at hl 0 rfl) ?_
  refine lv_iconst (v := 1) hx hb dX13_hideOf_24 (by decide) ?_
  have hFc := va_free (wc := [(mm, .inr (17, [.int 0, .int 0, .ref l0, .ref la, .ref l1, .ref l2, .ref l3, .ref sk, .ref ab, .ref bu, .ref cu, .ref sd, .ref l4]))]) hD hS hA [0] rfl
  refine va_calli (va_runV (As := [.int 1]) (rest := []) ⟨hx, hb, hml, hown, hts⟩ (m_fails l D tC tE H.size mm l0 l1 l2 l3 l4 la sk ab bu cu sd 0 0 1) (cwV 1 hts gX13_hideOf_X13_fails rfl rfl rfl (by decide +kernel) ⟨(Nat.le_of_ble_eq_true rfl), (Nat.le_of_ble_eq_true rfl)⟩) ⟨pg_blind, (va_recv hK hP (ci := 17) (q0 := 0) rfl rfl), (pg_pre hP hD hK hG hS hFc [0] rfl (by decide) [] rfl _)⟩ rfl rfl hl.1 rfl (lv_room (Nat.le_of_ble_eq_true rfl)) dX13_hideOf_25 ⟨(Nat.le_of_ble_eq_true rfl), (Nat.le_of_ble_eq_true rfl)⟩) hS (fun q _ h => hFc q h) hFc (fun r_4 u_5 t H locs ht hvm hw hB hz1 hk1 hS => ?_)
  subst hw
  obtain ⟨hP, hD, hK⟩ := jn (wr := [(l3, .inr (3, [.int 0, .ref tE, .int 0]))]) (w1 := [(mm, .inr (17, [.int 1, .int 0, .ref l0, .ref la, .ref l1, .ref l2, .ref l3, .ref sk, .ref ab, .ref bu, .ref cu, .ref sd, .ref l4]))]) (t1 := []) (tr := []) hP hD hK [0] [1] rfl rfl (by decide) (by decide) [] rfl hk1 hFc hB rfl rfl ht hvm
  have hP : va_P D vwCl [(l3, .inr (3, [.int 0, .ref tE, .int 0])), (mm, .inr (17, [.int 1, .int 0, .ref l0, .ref la, .ref l1, .ref l2, .ref l3, .ref sk, .ref ab, .ref bu, .ref cu, .ref sd, .ref l4]))] H := hP
  have hD : va_D A [(l3, .inr (3, [.int 0, .ref tE, .int 0])), (mm, .inr (17, [.int 1, .int 0, .ref l0, .ref la, .ref l1, .ref l2, .ref l3, .ref sk, .ref ab, .ref bu, .ref cu, .ref sd, .ref l4]))] := hD
  have hK : va_K D vwCl [] s := hK
  refine W.widen (k := 0) (n := 0) (Nat.le_of_ble_eq_true rfl) (Nat.le_of_ble_eq_true rfl) ?_
  have hP9 := hP.sub (ws' := [(mm, .inr (17, [.int 1, .int 0, .ref l0, .ref la, .ref l1, .ref l2, .ref l3, .ref sk, .ref ab, .ref bu, .ref cu, .ref sd, .ref l4]))]) [1] rfl
  have hD9 := hD.sub (ws' := [(mm, .inr (17, [.int 1, .int 0, .ref l0, .ref la, .ref l1, .ref l2, .ref l3, .ref sk, .ref ab, .ref bu, .ref cu, .ref sd, .ref l4]))]) [1] (by decide) rfl
  have hK9 := hK.sub (tys' := []) [] rfl
  exact end_i hx hb hr hlocks hP9 hD9 hK9 hS (1, 0) rfl rfl rfl (Nat.le_of_ble_eq_true rfl) (Nat.le_of_ble_eq_true rfl) dX13_hideOf_28
set_option maxHeartbeats 4000000 in
set_option maxRecDepth 100000 in
/-- sewerOf of the reference, on a fresh object -/
theorem m_sewerOf (l : Launch) (D : va_G) (tC tE sz : Nat) (mm l0 l1 l2 l3 l4 la sk ab bu cu sd : Nat) (a1 a2 a3 : Int32) : Met l yX13_sewerOf wsX13_sewerOf ({ frames := 3, cells := 0, slots := 0, locals := 65 }) (Pg D tC tE sz [(mm, .inr (17, [.int 0, .int 0, .ref l0, .ref la, .ref l1, .ref l2, .ref l3, .ref sk, .ref ab, .ref bu, .ref cu, .ref sd, .ref l4])), (l3, .inr (3, [.int 0, .ref tE, .int 0]))] [] [.ref mm, .int a1, .int a2, .int a3]) (Qgi (S := Int32 × Int32) D (fun u => [(mm, .inr (17, [.int (u.1), .int (u.2), .ref l0, .ref la, .ref l1, .ref l2, .ref l3, .ref sk, .ref ab, .ref bu, .ref cu, .ref sd, .ref l4]))]) (fun u => []) (fun _ u => u.1 = 1) (va_A [(mm, .inr (17, [.int 0, .int 0, .ref l0, .ref la, .ref l1, .ref l2, .ref l3, .ref sk, .ref ab, .ref bu, .ref cu, .ref sd, .ref l4])), (l3, .inr (3, [.int 0, .ref tE, .int 0]))] sz)) 0 0 (va_A [(mm, .inr (17, [.int 0, .int 0, .ref l0, .ref la, .ref l1, .ref l2, .ref l3, .ref sk, .ref ab, .ref bu, .ref cu, .ref sd, .ref l4])), (l3, .inr (3, [.int 0, .ref tE, .int 0]))] sz) := by
  refine og_m (cc := cX13_sewerOf) (maxL := 5) (ret := (some .int)) (Qc := Qgi (S := Int32 × Int32) D (fun u => [(mm, .inr (17, [.int (u.1), .int (u.2), .ref l0, .ref la, .ref l1, .ref l2, .ref l3, .ref sk, .ref ab, .ref bu, .ref cu, .ref sd, .ref l4]))]) (fun u => []) (fun _ u => u.1 = 1)) (by decide) rfl (Nat.le_of_ble_eq_true rfl) ?_
  intro p e s m below meth c A hx hb hr hml hts hown hlocks hin hP hD hK hG hA hS ls hl
  have hl : lv_has ls 5 [(0, .ref mm), (1, .int a1), (2, .int a2), (3, .int a3)] := hl
  refine lv_aload_n hx hb dX13_sewerOf_0 rfl (lv_at hl 0 rfl) ?_
  refine lv_iconst (v := 0) hx hb dX13_sewerOf_1 (by decide) ?_
  refine va_put (D := D) (ci := 17) (v := .int 0) (ty := .int) (C := RX13) (T := TX13) (N := 13) hx hb hts (fun w h => List.mem_cons_of_mem _ (List.mem_append_left _ (List.mem_append_left _ (List.mem_append_left _ (List.mem_append_left _ (List.mem_append_right _ h)))))) tyX13 tyX13_ok nmX13 hown hK hP hD hS 0 rfl rfl 0 (by decide) (hts (.fieldLink RX13 48 "LastroomModel" "code" "I") (List.mem_of_getElem? (i := 1) rfl)) (fun _ h9 => h9) rfl (by decide +kernel) rfl rfl (Nat.le_of_ble_eq_true rfl) dX13_sewerOf_2 (fun H locs hP hD hS => ?_)
  have hP : va_P D vwCl [(mm, .inr (17, [.int 0, .int 0, .ref l0, .ref la, .ref l1, .ref l2, .ref l3, .ref sk, .ref ab, .ref bu, .ref cu, .ref sd, .ref l4])), (l3, .inr (3, [.int 0, .ref tE, .int 0]))] H := hP
  have hD : va_D A [(mm, .inr (17, [.int 0, .int 0, .ref l0, .ref la, .ref l1, .ref l2, .ref l3, .ref sk, .ref ab, .ref bu, .ref cu, .ref sd, .ref l4])), (l3, .inr (3, [.int 0, .ref tE, .int 0]))] := hD
  refine lv_aload_n hx hb dX13_sewerOf_5 rfl (lv_at hl 0 rfl) ?_
  refine lv_iload_n hx hb dX13_sewerOf_6 rfl (lv_at hl 1 rfl) ?_
  refine lv_iload_n hx hb dX13_sewerOf_7 rfl (lv_at hl 3 rfl) ?_
  have hFc := va_free (wc := [(mm, .inr (17, [.int 0, .int 0, .ref l0, .ref la, .ref l1, .ref l2, .ref l3, .ref sk, .ref ab, .ref bu, .ref cu, .ref sd, .ref l4])), (l3, .inr (3, [.int 0, .ref tE, .int 0]))]) hD hS hA [0, 1] rfl
  refine va_calli (va_runV (As := [.int a1, .int a3]) (rest := []) ⟨hx, hb, hml, hown, hts⟩ (m_isSeam l D tC tE H.size mm l0 l1 l2 l3 l4 la sk ab bu cu sd 0 0 a1 a3) (cwV 2 hts gX13_sewerOf_X13_isSeam rfl rfl rfl (by decide +kernel) ⟨(Nat.le_of_ble_eq_true rfl), (Nat.le_of_ble_eq_true rfl)⟩) ⟨pg_blind, (va_recv hK hP (ci := 17) (q0 := 0) rfl rfl), (pg_pre hP hD hK hG hS hFc [0, 1] rfl (by decide) [] rfl _)⟩ rfl rfl hl.1 rfl (lv_room (Nat.le_of_ble_eq_true rfl)) dX13_sewerOf_8 ⟨(Nat.le_of_ble_eq_true rfl), (Nat.le_of_ble_eq_true rfl)⟩) hS (fun q _ h => hFc q h) hFc (fun r_1 u_2 t H locs ht hvm hw hB hz1 hk1 hS => ?_)
  subst hw
  obtain ⟨hP, hD, hK⟩ := jn (wr := []) (w1 := [(mm, .inr (17, [.int 0, .int 0, .ref l0, .ref la, .ref l1, .ref l2, .ref l3, .ref sk, .ref ab, .ref bu, .ref cu, .ref sd, .ref l4])), (l3, .inr (3, [.int 0, .ref tE, .int 0]))]) (t1 := []) (tr := []) hP hD hK [0, 1] [] rfl rfl (by decide) (by decide) [] rfl hk1 hFc hB rfl rfl ht hvm
  have hP : va_P D vwCl [(mm, .inr (17, [.int 0, .int 0, .ref l0, .ref la, .ref l1, .ref l2, .ref l3, .ref sk, .ref ab, .ref bu, .ref cu, .ref sd, .ref l4])), (l3, .inr (3, [.int 0, .ref tE, .int 0]))] H := hP
  have hD : va_D A [(mm, .inr (17, [.int 0, .int 0, .ref l0, .ref la, .ref l1, .ref l2, .ref l3, .ref sk, .ref ab, .ref bu, .ref cu, .ref sd, .ref l4])), (l3, .inr (3, [.int 0, .ref tE, .int 0]))] := hD
  have hK : va_K D vwCl [] s := hK
  refine W.widen (k := 0) (n := 0) (Nat.le_of_ble_eq_true rfl) (Nat.le_of_ble_eq_true rfl) ?_
  refine lv_if_eq (tgt := 23) hx hb dX13_sewerOf_11 (by decide) (fun c_3 => ?_) (fun c_3 => absurd (show (0 : Int32) = 0 from (by decide)) c_3)
  refine lv_aload_n hx hb dX13_sewerOf_23 rfl (lv_at hl 0 rfl) ?_
  refine lv_iconst (v := 1) hx hb dX13_sewerOf_24 (by decide) ?_
  have hFc := va_free (wc := [(mm, .inr (17, [.int 0, .int 0, .ref l0, .ref la, .ref l1, .ref l2, .ref l3, .ref sk, .ref ab, .ref bu, .ref cu, .ref sd, .ref l4]))]) hD hS hA [0] rfl
  refine va_calli (va_runV (As := [.int 1]) (rest := []) ⟨hx, hb, hml, hown, hts⟩ (m_fails l D tC tE H.size mm l0 l1 l2 l3 l4 la sk ab bu cu sd 0 0 1) (cwV 1 hts gX13_sewerOf_X13_fails rfl rfl rfl (by decide +kernel) ⟨(Nat.le_of_ble_eq_true rfl), (Nat.le_of_ble_eq_true rfl)⟩) ⟨pg_blind, (va_recv hK hP (ci := 17) (q0 := 0) rfl rfl), (pg_pre hP hD hK hG hS hFc [0] rfl (by decide) [] rfl _)⟩ rfl rfl hl.1 rfl (lv_room (Nat.le_of_ble_eq_true rfl)) dX13_sewerOf_25 ⟨(Nat.le_of_ble_eq_true rfl), (Nat.le_of_ble_eq_true rfl)⟩) hS (fun q _ h => hFc q h) hFc (fun r_4 u_5 t H locs ht hvm hw hB hz1 hk1 hS => ?_)
  subst hw
  obtain ⟨hP, hD, hK⟩ := jn (wr := [(l3, .inr (3, [.int 0, .ref tE, .int 0]))]) (w1 := [(mm, .inr (17, [.int 1, .int 0, .ref l0, .ref la, .ref l1, .ref l2, .ref l3, .ref sk, .ref ab, .ref bu, .ref cu, .ref sd, .ref l4]))]) (t1 := []) (tr := []) hP hD hK [0] [1] rfl rfl (by decide) (by decide) [] rfl hk1 hFc hB rfl rfl ht hvm
  have hP : va_P D vwCl [(l3, .inr (3, [.int 0, .ref tE, .int 0])), (mm, .inr (17, [.int 1, .int 0, .ref l0, .ref la, .ref l1, .ref l2, .ref l3, .ref sk, .ref ab, .ref bu, .ref cu, .ref sd, .ref l4]))] H := hP
  have hD : va_D A [(l3, .inr (3, [.int 0, .ref tE, .int 0])), (mm, .inr (17, [.int 1, .int 0, .ref l0, .ref la, .ref l1, .ref l2, .ref l3, .ref sk, .ref ab, .ref bu, .ref cu, .ref sd, .ref l4]))] := hD
  have hK : va_K D vwCl [] s := hK
  refine W.widen (k := 0) (n := 0) (Nat.le_of_ble_eq_true rfl) (Nat.le_of_ble_eq_true rfl) ?_
  have hP9 := hP.sub (ws' := [(mm, .inr (17, [.int 1, .int 0, .ref l0, .ref la, .ref l1, .ref l2, .ref l3, .ref sk, .ref ab, .ref bu, .ref cu, .ref sd, .ref l4]))]) [1] rfl
  have hD9 := hD.sub (ws' := [(mm, .inr (17, [.int 1, .int 0, .ref l0, .ref la, .ref l1, .ref l2, .ref l3, .ref sk, .ref ab, .ref bu, .ref cu, .ref sd, .ref l4]))]) [1] (by decide) rfl
  have hK9 := hK.sub (tys' := []) [] rfl
  exact end_i hx hb hr hlocks hP9 hD9 hK9 hS (1, 0) rfl rfl rfl (Nat.le_of_ble_eq_true rfl) (Nat.le_of_ble_eq_true rfl) dX13_sewerOf_28
set_option maxHeartbeats 4000000 in
set_option maxRecDepth 100000 in
/-- cause of the reference, on a fresh object -/
theorem m_cause (l : Launch) (D : va_G) (tC tE sz : Nat) (mm l0 l1 l2 l3 l4 la sk ab bu cu sd : Nat) : Met l yX13_cause wsX13_cause ({ frames := 5, cells := 1, slots := 4, locals := 105 }) (Pg D tC tE sz [(mm, .inr (17, [.int 0, .int 0, .ref l0, .ref la, .ref l1, .ref l2, .ref l3, .ref sk, .ref ab, .ref bu, .ref cu, .ref sd, .ref l4])), (l3, .inr (3, [.int 0, .ref tE, .int 0]))] [] [.ref mm]) (Qgi (S := Int32 × Int32) D (fun u => [(mm, .inr (17, [.int (u.1), .int (u.2), .ref l0, .ref la, .ref l1, .ref l2, .ref l3, .ref sk, .ref ab, .ref bu, .ref cu, .ref sd, .ref l4]))]) (fun u => []) (fun _ u => u.1 = 1) (va_A [(mm, .inr (17, [.int 0, .int 0, .ref l0, .ref la, .ref l1, .ref l2, .ref l3, .ref sk, .ref ab, .ref bu, .ref cu, .ref sd, .ref l4])), (l3, .inr (3, [.int 0, .ref tE, .int 0]))] sz)) 1 4 (va_A [(mm, .inr (17, [.int 0, .int 0, .ref l0, .ref la, .ref l1, .ref l2, .ref l3, .ref sk, .ref ab, .ref bu, .ref cu, .ref sd, .ref l4])), (l3, .inr (3, [.int 0, .ref tE, .int 0]))] sz) := by
  refine og_m (cc := cX13_cause) (maxL := 2) (ret := (some .char)) (Qc := Qgi (S := Int32 × Int32) D (fun u => [(mm, .inr (17, [.int (u.1), .int (u.2), .ref l0, .ref la, .ref l1, .ref l2, .ref l3, .ref sk, .ref ab, .ref bu, .ref cu, .ref sd, .ref l4]))]) (fun u => []) (fun _ u => u.1 = 1)) (by decide) rfl (Nat.le_of_ble_eq_true rfl) ?_
  intro p e s m below meth c A hx hb hr hml hts hown hlocks hin hP hD hK hG hA hS ls hl
  have hl : lv_has ls 2 [(0, .ref mm)] := hl
  refine lv_aload_n hx hb dX13_cause_0 rfl (lv_at hl 0 rfl) ?_
  have hFc := va_free (wc := [(mm, .inr (17, [.int 0, .int 0, .ref l0, .ref la, .ref l1, .ref l2, .ref l3, .ref sk, .ref ab, .ref bu, .ref cu, .ref sd, .ref l4])), (l3, .inr (3, [.int 0, .ref tE, .int 0]))]) hD hS hA [0, 1] rfl
  refine va_calli (va_runV (As := []) (rest := []) ⟨hx, hb, hml, hown, hts⟩ (m_why l D tC tE s.heap.size mm l0 l1 l2 l3 l4 la sk ab bu cu sd 0 0) (cwV 0 hts gX13_cause_X13_why rfl rfl rfl (by decide +kernel) ⟨(Nat.le_of_ble_eq_true rfl), (Nat.le_of_ble_eq_true rfl)⟩) ⟨pg_blind, (va_recv hK hP (ci := 17) (q0 := 0) rfl rfl), (pg_pre hP hD hK hG hS hFc [0, 1] rfl (by decide) [] rfl _)⟩ rfl rfl hl.1 rfl (lv_room (Nat.le_of_ble_eq_true rfl)) dX13_cause_1 ⟨(Nat.le_of_ble_eq_true rfl), (Nat.le_of_ble_eq_true rfl)⟩) hS (fun q _ h => hFc q h) hFc (fun r_1 u_2 t H locs ht hvm hw hB hz1 hk1 hS => ?_)
  subst hw
  obtain ⟨hP, hD, hK⟩ := jn (wr := []) (w1 := [(mm, .inr (17, [.int 0, .int 0, .ref l0, .ref la, .ref l1, .ref l2, .ref l3, .ref sk, .ref ab, .ref bu, .ref cu, .ref sd, .ref l4])), (l3, .inr (3, [.int 0, .ref tE, .int 0]))]) (t1 := []) (tr := []) hP hD hK [0, 1] [] rfl rfl (by decide) (by decide) [] rfl hk1 hFc hB rfl rfl ht hvm
  have hP : va_P D vwCl [(mm, .inr (17, [.int 0, .int 0, .ref l0, .ref la, .ref l1, .ref l2, .ref l3, .ref sk, .ref ab, .ref bu, .ref cu, .ref sd, .ref l4])), (l3, .inr (3, [.int 0, .ref tE, .int 0]))] H := hP
  have hD : va_D A [(mm, .inr (17, [.int 0, .int 0, .ref l0, .ref la, .ref l1, .ref l2, .ref l3, .ref sk, .ref ab, .ref bu, .ref cu, .ref sd, .ref l4])), (l3, .inr (3, [.int 0, .ref tE, .int 0]))] := hD
  have hK : va_K D vwCl [] s := hK
  refine W.widen (k := 1) (n := 4) (Nat.le_of_ble_eq_true rfl) (Nat.le_of_ble_eq_true rfl) ?_
  refine lv_istore_n (lv' := [(1, .int (-1)), (0, .ref mm)]) hx hb dX13_cause_4 rfl hl (by decide) rfl (fun ls hl => ?_)
  refine lv_aload_n hx hb dX13_cause_5 rfl (lv_at hl 1 rfl) ?_
  refine lv_iload_n hx hb dX13_cause_6 rfl (lv_at hl 0 rfl) ?_
  refine lv_iconst (v := (-1)) hx hb dX13_cause_7 (by decide) ?_
  refine lv_icmp_ne (tgt := 15) hx hb dX13_cause_8 (by decide) (fun c_3 => absurd (by decide) c_3) (fun c_3 => ?_)
  refine lv_iconst (v := 1) hx hb dX13_cause_11 (by decide) ?_
  refine lv_goto (tgt := 16) hx hb dX13_cause_12 (by decide) ?_
  refine va_put (D := D) (ci := 17) (v := .int 1) (ty := .int) (C := RX13) (T := TX13) (N := 13) hx hb hts (fun w h => List.mem_cons_of_mem _ (List.mem_append_left _ (List.mem_append_left _ (List.mem_append_left _ (List.mem_append_left _ (List.mem_append_left _ (List.mem_append_right _ h))))))) tyX13 tyX13_ok nmX13 hown hK hP hD hS 0 rfl rfl 0 (by decide) (hts (.fieldLink RX13 48 "LastroomModel" "code" "I") (List.mem_of_getElem? (i := 1) rfl)) (fun _ h9 => h9) rfl (by decide +kernel) rfl rfl (Nat.le_of_ble_eq_true rfl) dX13_cause_16 (fun H locs hP hD hS => ?_)
  have hP : va_P D vwCl [(mm, .inr (17, [.int 1, .int 0, .ref l0, .ref la, .ref l1, .ref l2, .ref l3, .ref sk, .ref ab, .ref bu, .ref cu, .ref sd, .ref l4])), (l3, .inr (3, [.int 0, .ref tE, .int 0]))] H := hP
  have hD : va_D A [(mm, .inr (17, [.int 1, .int 0, .ref l0, .ref la, .ref l1, .ref l2, .ref l3, .ref sk, .ref ab, .ref bu, .ref cu, .ref sd, .ref l4])), (l3, .inr (3, [.int 0, .ref tE, .int 0]))] := hD
  refine lv_aload_n hx hb dX13_cause_19 rfl (lv_at hl 1 rfl) ?_
  refine va_get (D := D) (ci := 17) (v := .int 1) (C := RX13) (T := TX13) (N := 13) hx hb hts (fun w h => List.mem_cons_of_mem _ (List.mem_append_left _ (List.mem_append_left _ (List.mem_append_left _ (List.mem_append_left _ (List.mem_append_left _ (List.mem_append_right _ h))))))) hown hK hP 0 rfl rfl 0 (by decide) (hts (.fieldLink RX13 48 "LastroomModel" "code" "I") (List.mem_of_getElem? (i := 1) rfl)) (fun _ h9 => h9) rfl dX13_cause_20 ?_
  refine lv_if_le (tgt := 30) hx hb dX13_cause_23 (by decide) (fun c_4 => absurd c_4 (show ¬ (1 : Int32) ≤ 0 from (by decide))) (fun c_4 => ?_)
  refine lv_iconst (v := 0) hx hb dX13_cause_26 (by decide) ?_
  refine lv_goto (tgt := 40) hx hb dX13_cause_27 (by decide) ?_
  have hP9 := hP.sub (ws' := [(mm, .inr (17, [.int 1, .int 0, .ref l0, .ref la, .ref l1, .ref l2, .ref l3, .ref sk, .ref ab, .ref bu, .ref cu, .ref sd, .ref l4]))]) [0] rfl
  have hD9 := hD.sub (ws' := [(mm, .inr (17, [.int 1, .int 0, .ref l0, .ref la, .ref l1, .ref l2, .ref l3, .ref sk, .ref ab, .ref bu, .ref cu, .ref sd, .ref l4]))]) [0] (by decide) rfl
  have hK9 := hK.sub (tys' := []) [] rfl
  exact end_z hx hb hr hlocks (by decide) hP9 hD9 hK9 hS (1, 0) rfl rfl rfl (Nat.le_of_ble_eq_true rfl) (Nat.le_of_ble_eq_true rfl) dX13_cause_40
set_option maxHeartbeats 4000000 in
set_option maxRecDepth 100000 in
/-- causeOf of the reference, on a fresh object -/
theorem m_causeOf (l : Launch) (D : va_G) (tC tE sz : Nat) (mm l0 l1 l2 l3 l4 la sk ab bu cu sd : Nat) : Met l yX13_causeOf wsX13_causeOf ({ frames := 5, cells := 1, slots := 4, locals := 105 }) (Pg D tC tE sz [(mm, .inr (17, [.int 0, .int 0, .ref l0, .ref la, .ref l1, .ref l2, .ref l3, .ref sk, .ref ab, .ref bu, .ref cu, .ref sd, .ref l4])), (l3, .inr (3, [.int 0, .ref tE, .int 0]))] [] [.ref mm]) (Qgi (S := Int32 × Int32) D (fun u => [(mm, .inr (17, [.int (u.1), .int (u.2), .ref l0, .ref la, .ref l1, .ref l2, .ref l3, .ref sk, .ref ab, .ref bu, .ref cu, .ref sd, .ref l4]))]) (fun u => []) (fun _ u => u.1 = 1) (va_A [(mm, .inr (17, [.int 0, .int 0, .ref l0, .ref la, .ref l1, .ref l2, .ref l3, .ref sk, .ref ab, .ref bu, .ref cu, .ref sd, .ref l4])), (l3, .inr (3, [.int 0, .ref tE, .int 0]))] sz)) 1 4 (va_A [(mm, .inr (17, [.int 0, .int 0, .ref l0, .ref la, .ref l1, .ref l2, .ref l3, .ref sk, .ref ab, .ref bu, .ref cu, .ref sd, .ref l4])), (l3, .inr (3, [.int 0, .ref tE, .int 0]))] sz) := by
  refine og_m (cc := cX13_causeOf) (maxL := 2) (ret := (some .int)) (Qc := Qgi (S := Int32 × Int32) D (fun u => [(mm, .inr (17, [.int (u.1), .int (u.2), .ref l0, .ref la, .ref l1, .ref l2, .ref l3, .ref sk, .ref ab, .ref bu, .ref cu, .ref sd, .ref l4]))]) (fun u => []) (fun _ u => u.1 = 1)) (by decide) rfl (Nat.le_of_ble_eq_true rfl) ?_
  intro p e s m below meth c A hx hb hr hml hts hown hlocks hin hP hD hK hG hA hS ls hl
  have hl : lv_has ls 2 [(0, .ref mm)] := hl
  refine lv_aload_n hx hb dX13_causeOf_0 rfl (lv_at hl 0 rfl) ?_
  have hFc := va_free (wc := [(mm, .inr (17, [.int 0, .int 0, .ref l0, .ref la, .ref l1, .ref l2, .ref l3, .ref sk, .ref ab, .ref bu, .ref cu, .ref sd, .ref l4])), (l3, .inr (3, [.int 0, .ref tE, .int 0]))]) hD hS hA [0, 1] rfl
  refine va_calli (va_runV (As := []) (rest := []) ⟨hx, hb, hml, hown, hts⟩ (m_why l D tC tE s.heap.size mm l0 l1 l2 l3 l4 la sk ab bu cu sd 0 0) (cwV 0 hts gX13_causeOf_X13_why rfl rfl rfl (by decide +kernel) ⟨(Nat.le_of_ble_eq_true rfl), (Nat.le_of_ble_eq_true rfl)⟩) ⟨pg_blind, (va_recv hK hP (ci := 17) (q0 := 0) rfl rfl), (pg_pre hP hD hK hG hS hFc [0, 1] rfl (by decide) [] rfl _)⟩ rfl rfl hl.1 rfl (lv_room (Nat.le_of_ble_eq_true rfl)) dX13_causeOf_1 ⟨(Nat.le_of_ble_eq_true rfl), (Nat.le_of_ble_eq_true rfl)⟩) hS (fun q _ h => hFc q h) hFc (fun r_1 u_2 t H locs ht hvm hw hB hz1 hk1 hS => ?_)
  subst hw
  obtain ⟨hP, hD, hK⟩ := jn (wr := []) (w1 := [(mm, .inr (17, [.int 0, .int 0, .ref l0, .ref la, .ref l1, .ref l2, .ref l3, .ref sk, .ref ab, .ref bu, .ref cu, .ref sd, .ref l4])), (l3, .inr (3, [.int 0, .ref tE, .int 0]))]) (t1 := []) (tr := []) hP hD hK [0, 1] [] rfl rfl (by decide) (by decide) [] rfl hk1 hFc hB rfl rfl ht hvm
  have hP : va_P D vwCl [(mm, .inr (17, [.int 0, .int 0, .ref l0, .ref la, .ref l1, .ref l2, .ref l3, .ref sk, .ref ab, .ref bu, .ref cu, .ref sd, .ref l4])), (l3, .inr (3, [.int 0, .ref tE, .int 0]))] H := hP
  have hD : va_D A [(mm, .inr (17, [.int 0, .int 0, .ref l0, .ref la, .ref l1, .ref l2, .ref l3, .ref sk, .ref ab, .ref bu, .ref cu, .ref sd, .ref l4])), (l3, .inr (3, [.int 0, .ref tE, .int 0]))] := hD
  have hK : va_K D vwCl [] s := hK
  refine W.widen (k := 1) (n := 4) (Nat.le_of_ble_eq_true rfl) (Nat.le_of_ble_eq_true rfl) ?_
  refine lv_istore_n (lv' := [(1, .int (-1)), (0, .ref mm)]) hx hb dX13_causeOf_4 rfl hl (by decide) rfl (fun ls hl => ?_)
  refine lv_aload_n hx hb dX13_causeOf_5 rfl (lv_at hl 1 rfl) ?_
  refine lv_iload_n hx hb dX13_causeOf_6 rfl (lv_at hl 0 rfl) ?_
  refine lv_iconst (v := (-1)) hx hb dX13_causeOf_7 (by decide) ?_
  refine lv_icmp_ne (tgt := 15) hx hb dX13_causeOf_8 (by decide) (fun c_3 => absurd (by decide) c_3) (fun c_3 => ?_)
  refine lv_iconst (v := 1) hx hb dX13_causeOf_11 (by decide) ?_
  refine lv_goto (tgt := 16) hx hb dX13_causeOf_12 (by decide) ?_
  refine va_put (D := D) (ci := 17) (v := .int 1) (ty := .int) (C := RX13) (T := TX13) (N := 13) hx hb hts (fun w h => List.mem_cons_of_mem _ (List.mem_append_left _ (List.mem_append_left _ (List.mem_append_left _ (List.mem_append_left _ (List.mem_append_right _ h)))))) tyX13 tyX13_ok nmX13 hown hK hP hD hS 0 rfl rfl 0 (by decide) (hts (.fieldLink RX13 48 "LastroomModel" "code" "I") (List.mem_of_getElem? (i := 1) rfl)) (fun _ h9 => h9) rfl (by decide +kernel) rfl rfl (Nat.le_of_ble_eq_true rfl) dX13_causeOf_16 (fun H locs hP hD hS => ?_)
  have hP : va_P D vwCl [(mm, .inr (17, [.int 1, .int 0, .ref l0, .ref la, .ref l1, .ref l2, .ref l3, .ref sk, .ref ab, .ref bu, .ref cu, .ref sd, .ref l4])), (l3, .inr (3, [.int 0, .ref tE, .int 0]))] H := hP
  have hD : va_D A [(mm, .inr (17, [.int 1, .int 0, .ref l0, .ref la, .ref l1, .ref l2, .ref l3, .ref sk, .ref ab, .ref bu, .ref cu, .ref sd, .ref l4])), (l3, .inr (3, [.int 0, .ref tE, .int 0]))] := hD
  refine lv_aload_n hx hb dX13_causeOf_19 rfl (lv_at hl 1 rfl) ?_
  refine va_get (D := D) (ci := 17) (v := .int 1) (C := RX13) (T := TX13) (N := 13) hx hb hts (fun w h => List.mem_cons_of_mem _ (List.mem_append_left _ (List.mem_append_left _ (List.mem_append_left _ (List.mem_append_left _ (List.mem_append_right _ h)))))) hown hK hP 0 rfl rfl 0 (by decide) (hts (.fieldLink RX13 48 "LastroomModel" "code" "I") (List.mem_of_getElem? (i := 1) rfl)) (fun _ h9 => h9) rfl dX13_causeOf_20 ?_
  refine lv_if_le (tgt := 30) hx hb dX13_causeOf_23 (by decide) (fun c_4 => absurd c_4 (show ¬ (1 : Int32) ≤ 0 from (by decide))) (fun c_4 => ?_)
  refine lv_iconst (v := 0) hx hb dX13_causeOf_26 (by decide) ?_
  refine lv_goto (tgt := 34) hx hb dX13_causeOf_27 (by decide) ?_
  have hP9 := hP.sub (ws' := [(mm, .inr (17, [.int 1, .int 0, .ref l0, .ref la, .ref l1, .ref l2, .ref l3, .ref sk, .ref ab, .ref bu, .ref cu, .ref sd, .ref l4]))]) [0] rfl
  have hD9 := hD.sub (ws' := [(mm, .inr (17, [.int 1, .int 0, .ref l0, .ref la, .ref l1, .ref l2, .ref l3, .ref sk, .ref ab, .ref bu, .ref cu, .ref sd, .ref l4]))]) [0] (by decide) rfl
  have hK9 := hK.sub (tys' := []) [] rfl
  exact end_i hx hb hr hlocks hP9 hD9 hK9 hS (1, 0) rfl rfl rfl (Nat.le_of_ble_eq_true rfl) (Nat.le_of_ble_eq_true rfl) dX13_causeOf_34
set_option maxHeartbeats 4000000 in
set_option maxRecDepth 100000 in
/-- length of the reference, on a fresh object -/
theorem m_length (l : Launch) (D : va_G) (tC tE sz : Nat) (mm l0 l1 l2 l3 l4 la sk ab bu cu sd : Nat) (a1 a2 : Int32) : Met l yX13_length wsX13_length ({ frames := 2, cells := 0, slots := 0, locals := 43 }) (Pg D tC tE sz [(mm, .inr (17, [.int 0, .int 0, .ref l0, .ref la, .ref l1, .ref l2, .ref l3, .ref sk, .ref ab, .ref bu, .ref cu, .ref sd, .ref l4]))] [] [.ref mm, .int a1, .int a2]) (Qgi (S := Int32 × Int32) D (fun u => [(mm, .inr (17, [.int (u.1), .int (u.2), .ref l0, .ref la, .ref l1, .ref l2, .ref l3, .ref sk, .ref ab, .ref bu, .ref cu, .ref sd, .ref l4]))]) (fun u => []) (fun r u => (szB a1 a2 = true ∧ u.1 = 0 ∧ r = lenS a1 a2) ∨ (szB a1 a2 = false ∧ u.1 = 1)) (va_A [(mm, .inr (17, [.int 0, .int 0, .ref l0, .ref la, .ref l1, .ref l2, .ref l3, .ref sk, .ref ab, .ref bu, .ref cu, .ref sd, .ref l4]))] sz)) 0 0 (va_A [(mm, .inr (17, [.int 0, .int 0, .ref l0, .ref la, .ref l1, .ref l2, .ref l3, .ref sk, .ref ab, .ref bu, .ref cu, .ref sd, .ref l4]))] sz) := by
  refine og_m (cc := cX13_length) (maxL := 3) (ret := (some .int)) (Qc := Qgi (S := Int32 × Int32) D (fun u => [(mm, .inr (17, [.int (u.1), .int (u.2), .ref l0, .ref la, .ref l1, .ref l2, .ref l3, .ref sk, .ref ab, .ref bu, .ref cu, .ref sd, .ref l4]))]) (fun u => []) (fun r u => (szB a1 a2 = true ∧ u.1 = 0 ∧ r = lenS a1 a2) ∨ (szB a1 a2 = false ∧ u.1 = 1))) (by decide) rfl (Nat.le_of_ble_eq_true rfl) ?_
  intro p e s m below meth c A hx hb hr hml hts hown hlocks hin hP hD hK hG hA hS ls hl
  have hl : lv_has ls 3 [(0, .ref mm), (1, .int a1), (2, .int a2)] := hl
  refine lv_aload_n hx hb dX13_length_0 rfl (lv_at hl 0 rfl) ?_
  refine lv_iconst (v := 0) hx hb dX13_length_1 (by decide) ?_
  refine va_put (D := D) (ci := 17) (v := .int 0) (ty := .int) (C := RX13) (T := TX13) (N := 13) hx hb hts (fun w h => List.mem_cons_of_mem _ (List.mem_append_right _ h)) tyX13 tyX13_ok nmX13 hown hK hP hD hS 0 rfl rfl 0 (by decide) (hts (.fieldLink RX13 48 "LastroomModel" "code" "I") (List.mem_of_getElem? (i := 1) rfl)) (fun _ h9 => h9) rfl (by decide +kernel) rfl rfl (Nat.le_of_ble_eq_true rfl) dX13_length_2 (fun H locs hP hD hS => ?_)
  have hP : va_P D vwCl [(mm, .inr (17, [.int 0, .int 0, .ref l0, .ref la, .ref l1, .ref l2, .ref l3, .ref sk, .ref ab, .ref bu, .ref cu, .ref sd, .ref l4]))] H := hP
  have hD : va_D A [(mm, .inr (17, [.int 0, .int 0, .ref l0, .ref la, .ref l1, .ref l2, .ref l3, .ref sk, .ref ab, .ref bu, .ref cu, .ref sd, .ref l4]))] := hD
  refine lv_iload_n hx hb dX13_length_5 rfl (lv_at hl 1 rfl) ?_
  refine lv_iload_n hx hb dX13_length_6 rfl (lv_at hl 2 rfl) ?_
  have hFc := va_free (wc := []) hD hS hA [] rfl
  refine va_calli (va_runS (As := [.int a1, .int a2]) (rest := []) ⟨hx, hb, hml, hown, hts⟩ (m_isSize l D tC tE H.size a1 a2) (va_cwS 2 hts gX13_length_X13_isSize rfl rfl rfl (by decide +kernel) ⟨(Nat.le_of_ble_eq_true rfl), (Nat.le_of_ble_eq_true rfl)⟩) ⟨pg_blind, (pg_pre hP hD hK hG hS hFc [] rfl (by decide) [] rfl _)⟩ rfl rfl hl.1 rfl (lv_room (Nat.le_of_ble_eq_true rfl)) dX13_length_7 ⟨(Nat.le_of_ble_eq_true rfl), (Nat.le_of_ble_eq_true rfl)⟩) hS (fun q _ h => hFc q h) hFc (fun r_1 u_2 t H locs ht hvm hw hB hz1 hk1 hS => ?_)
  obtain ⟨hP, hD, hK⟩ := jn (wr := [(mm, .inr (17, [.int 0, .int 0, .ref l0, .ref la, .ref l1, .ref l2, .ref l3, .ref sk, .ref ab, .ref bu, .ref cu, .ref sd, .ref l4]))]) (w1 := []) (t1 := []) (tr := []) hP hD hK [] [0] rfl rfl (by decide) (by decide) [] rfl hk1 hFc hB rfl rfl ht hvm
  have hP : va_P D vwCl [(mm, .inr (17, [.int 0, .int 0, .ref l0, .ref la, .ref l1, .ref l2, .ref l3, .ref sk, .ref ab, .ref bu, .ref cu, .ref sd, .ref l4]))] H := hP
  have hD : va_D A [(mm, .inr (17, [.int 0, .int 0, .ref l0, .ref la, .ref l1, .ref l2, .ref l3, .ref sk, .ref ab, .ref bu, .ref cu, .ref sd, .ref l4]))] := hD
  have hK : va_K D vwCl [] s := hK
  refine W.widen (k := 0) (n := 0) (Nat.le_of_ble_eq_true rfl) (Nat.le_of_ble_eq_true rfl) ?_
  rcases hw with ⟨q_4, h_3⟩ | ⟨q_4, h_3⟩
  · subst q_4
    refine lv_if_eq (tgt := 21) hx hb dX13_length_10 (by decide) (fun c_5 => absurd c_5 (show ¬ (1 : Int32) = 0 from (by decide))) (fun c_5 => ?_)
    refine lv_iload_n hx hb dX13_length_13 rfl (lv_at hl 1 rfl) ?_
    refine lv_iload_n hx hb dX13_length_14 rfl (lv_at hl 2 rfl) ?_
    have hFc := va_free (wc := []) hD hS hA [] rfl
    refine va_calli (va_runS (As := [.int a1, .int a2]) (rest := []) ⟨hx, hb, hml, hown, hts⟩ (m_long3 l D tC tE H.size a1 a2) (va_cwS 2 hts gX13_length_X13_long3 rfl rfl rfl (by decide +kernel) ⟨(Nat.le_of_ble_eq_true rfl), (Nat.le_of_ble_eq_true rfl)⟩) ⟨pg_blind, (pg_pre hP hD hK hG hS hFc [] rfl (by decide) [] rfl _)⟩ rfl rfl hl.1 rfl (lv_room (Nat.le_of_ble_eq_true rfl)) dX13_length_15 ⟨(Nat.le_of_ble_eq_true rfl), (Nat.le_of_ble_eq_true rfl)⟩) hS (fun q _ h => hFc q h) hFc (fun r_6 u_7 t H locs ht hvm hw hB hz1 hk1 hS => ?_)
    subst hw
    obtain ⟨hP, hD, hK⟩ := jn (wr := [(mm, .inr (17, [.int 0, .int 0, .ref l0, .ref la, .ref l1, .ref l2, .ref l3, .ref sk, .ref ab, .ref bu, .ref cu, .ref sd, .ref l4]))]) (w1 := []) (t1 := []) (tr := []) hP hD hK [] [0] rfl rfl (by decide) (by decide) [] rfl hk1 hFc hB rfl rfl ht hvm
    have hP : va_P D vwCl [(mm, .inr (17, [.int 0, .int 0, .ref l0, .ref la, .ref l1, .ref l2, .ref l3, .ref sk, .ref ab, .ref bu, .ref cu, .ref sd, .ref l4]))] H := hP
    have hD : va_D A [(mm, .inr (17, [.int 0, .int 0, .ref l0, .ref la, .ref l1, .ref l2, .ref l3, .ref sk, .ref ab, .ref bu, .ref cu, .ref sd, .ref l4]))] := hD
    have hK : va_K D vwCl [] s := hK
    refine W.widen (k := 0) (n := 0) (Nat.le_of_ble_eq_true rfl) (Nat.le_of_ble_eq_true rfl) ?_
    refine lv_goto (tgt := 26) hx hb dX13_length_18 (by decide) ?_
    have hP9 := hP.sub (ws' := [(mm, .inr (17, [.int 0, .int 0, .ref l0, .ref la, .ref l1, .ref l2, .ref l3, .ref sk, .ref ab, .ref bu, .ref cu, .ref sd, .ref l4]))]) [0] rfl
    have hD9 := hD.sub (ws' := [(mm, .inr (17, [.int 0, .int 0, .ref l0, .ref la, .ref l1, .ref l2, .ref l3, .ref sk, .ref ab, .ref bu, .ref cu, .ref sd, .ref l4]))]) [0] (by decide) rfl
    have hK9 := hK.sub (tys' := []) [] rfl
    exact end_i hx hb hr hlocks hP9 hD9 hK9 hS (0, 0) rfl rfl (Or.inl ⟨by simp [h_3], rfl, rfl⟩) (Nat.le_of_ble_eq_true rfl) (Nat.le_of_ble_eq_true rfl) dX13_length_26
  · subst q_4
    refine lv_if_eq (tgt := 21) hx hb dX13_length_10 (by decide) (fun c_8 => ?_) (fun c_8 => absurd (show (0 : Int32) = 0 from (by decide)) c_8)
    refine lv_aload_n hx hb dX13_length_21 rfl (lv_at hl 0 rfl) ?_
    refine lv_iconst (v := 1) hx hb dX13_length_22 (by decide) ?_
    have hFc := va_free (wc := [(mm, .inr (17, [.int 0, .int 0, .ref l0, .ref la, .ref l1, .ref l2, .ref l3, .ref sk, .ref ab, .ref bu, .ref cu, .ref sd, .ref l4]))]) hD hS hA [0] rfl
    refine va_calli (va_runV (As := [.int 1]) (rest := []) ⟨hx, hb, hml, hown, hts⟩ (m_fails l D tC tE H.size mm l0 l1 l2 l3 l4 la sk ab bu cu sd 0 0 1) (cwV 1 hts gX13_length_X13_fails rfl rfl rfl (by decide +kernel) ⟨(Nat.le_of_ble_eq_true rfl), (Nat.le_of_ble_eq_true rfl)⟩) ⟨pg_blind, (va_recv hK hP (ci := 17) (q0 := 0) rfl rfl), (pg_pre hP hD hK hG hS hFc [0] rfl (by decide) [] rfl _)⟩ rfl rfl hl.1 rfl (lv_room (Nat.le_of_ble_eq_true rfl)) dX13_length_23 ⟨(Nat.le_of_ble_eq_true rfl), (Nat.le_of_ble_eq_true rfl)⟩) hS (fun q _ h => hFc q h) hFc (fun r_9 u_10 t H locs ht hvm hw hB hz1 hk1 hS => ?_)
    subst hw
    obtain ⟨hP, hD, hK⟩ := jn (wr := []) (w1 := [(mm, .inr (17, [.int 1, .int 0, .ref l0, .ref la, .ref l1, .ref l2, .ref l3, .ref sk, .ref ab, .ref bu, .ref cu, .ref sd, .ref l4]))]) (t1 := []) (tr := []) hP hD hK [0] [] rfl rfl (by decide) (by decide) [] rfl hk1 hFc hB rfl rfl ht hvm
    have hP : va_P D vwCl [(mm, .inr (17, [.int 1, .int 0, .ref l0, .ref la, .ref l1, .ref l2, .ref l3, .ref sk, .ref ab, .ref bu, .ref cu, .ref sd, .ref l4]))] H := hP
    have hD : va_D A [(mm, .inr (17, [.int 1, .int 0, .ref l0, .ref la, .ref l1, .ref l2, .ref l3, .ref sk, .ref ab, .ref bu, .ref cu, .ref sd, .ref l4]))] := hD
    have hK : va_K D vwCl [] s := hK
    refine W.widen (k := 0) (n := 0) (Nat.le_of_ble_eq_true rfl) (Nat.le_of_ble_eq_true rfl) ?_
    have hP9 := hP.sub (ws' := [(mm, .inr (17, [.int 1, .int 0, .ref l0, .ref la, .ref l1, .ref l2, .ref l3, .ref sk, .ref ab, .ref bu, .ref cu, .ref sd, .ref l4]))]) [0] rfl
    have hD9 := hD.sub (ws' := [(mm, .inr (17, [.int 1, .int 0, .ref l0, .ref la, .ref l1, .ref l2, .ref l3, .ref sk, .ref ab, .ref bu, .ref cu, .ref sd, .ref l4]))]) [0] (by decide) rfl
    have hK9 := hK.sub (tys' := []) [] rfl
    exact end_i hx hb hr hlocks hP9 hD9 hK9 hS (1, 0) rfl rfl (Or.inr ⟨by simp [h_3], rfl⟩) (Nat.le_of_ble_eq_true rfl) (Nat.le_of_ble_eq_true rfl) dX13_length_26
set_option maxHeartbeats 4000000 in
set_option maxRecDepth 100000 in
/-- pass of the reference, on a fresh object -/
theorem m_pass (l : Launch) (D : va_G) (tC tE sz : Nat) (mm l0 l1 l2 l3 l4 la sk ab bu cu sd : Nat) (a1 : Int32) : Met l yX13_pass wsX13_pass ({ frames := 1, cells := 0, slots := 0, locals := 22 }) (Pg D tC tE sz [(mm, .inr (17, [.int 0, .int 0, .ref l0, .ref la, .ref l1, .ref l2, .ref l3, .ref sk, .ref ab, .ref bu, .ref cu, .ref sd, .ref l4]))] [] [.ref mm, .int a1]) (Qgi (S := Int32 × Int32) D (fun u => [(mm, .inr (17, [.int (u.1), .int (u.2), .ref l0, .ref la, .ref l1, .ref l2, .ref l3, .ref sk, .ref ab, .ref bu, .ref cu, .ref sd, .ref l4]))]) (fun u => []) (fun r u => (rg a1 1 240 = true ∧ u.1 = 0 ∧ r = a1) ∨ (rg a1 1 240 = false ∧ u.1 = 1)) (va_A [(mm, .inr (17, [.int 0, .int 0, .ref l0, .ref la, .ref l1, .ref l2, .ref l3, .ref sk, .ref ab, .ref bu, .ref cu, .ref sd, .ref l4]))] sz)) 0 0 (va_A [(mm, .inr (17, [.int 0, .int 0, .ref l0, .ref la, .ref l1, .ref l2, .ref l3, .ref sk, .ref ab, .ref bu, .ref cu, .ref sd, .ref l4]))] sz) := by
  refine og_m (cc := cX13_pass) (maxL := 2) (ret := (some .int)) (Qc := Qgi (S := Int32 × Int32) D (fun u => [(mm, .inr (17, [.int (u.1), .int (u.2), .ref l0, .ref la, .ref l1, .ref l2, .ref l3, .ref sk, .ref ab, .ref bu, .ref cu, .ref sd, .ref l4]))]) (fun u => []) (fun r u => (rg a1 1 240 = true ∧ u.1 = 0 ∧ r = a1) ∨ (rg a1 1 240 = false ∧ u.1 = 1))) (by decide) rfl (Nat.le_of_ble_eq_true rfl) ?_
  intro p e s m below meth c A hx hb hr hml hts hown hlocks hin hP hD hK hG hA hS ls hl
  have hl : lv_has ls 2 [(0, .ref mm), (1, .int a1)] := hl
  refine lv_aload_n hx hb dX13_pass_0 rfl (lv_at hl 0 rfl) ?_
  refine lv_iconst (v := 0) hx hb dX13_pass_1 (by decide) ?_
  refine va_put (D := D) (ci := 17) (v := .int 0) (ty := .int) (C := RX13) (T := TX13) (N := 13) hx hb hts (fun w h => List.mem_cons_of_mem _ (List.mem_append_right _ h)) tyX13 tyX13_ok nmX13 hown hK hP hD hS 0 rfl rfl 0 (by decide) (hts (.fieldLink RX13 48 "LastroomModel" "code" "I") (List.mem_of_getElem? (i := 1) rfl)) (fun _ h9 => h9) rfl (by decide +kernel) rfl rfl (Nat.le_of_ble_eq_true rfl) dX13_pass_2 (fun H locs hP hD hS => ?_)
  have hP : va_P D vwCl [(mm, .inr (17, [.int 0, .int 0, .ref l0, .ref la, .ref l1, .ref l2, .ref l3, .ref sk, .ref ab, .ref bu, .ref cu, .ref sd, .ref l4]))] H := hP
  have hD : va_D A [(mm, .inr (17, [.int 0, .int 0, .ref l0, .ref la, .ref l1, .ref l2, .ref l3, .ref sk, .ref ab, .ref bu, .ref cu, .ref sd, .ref l4]))] := hD
  refine lv_iload_n hx hb dX13_pass_5 rfl (lv_at hl 1 rfl) ?_
  refine lv_iconst (v := 1) hx hb dX13_pass_6 (by decide) ?_
  refine lv_sipush (v := 240) hx hb dX13_pass_7 (by decide) ?_
  have hFc := va_free (wc := []) hD hS hA [] rfl
  refine va_calli (va_runS (As := [.int a1, .int 1, .int 240]) (rest := []) ⟨hx, hb, hml, hown, hts⟩ (m_in l D tC tE H.size a1 1 240) (va_cwS 3 hts gX13_pass_X13_in rfl rfl rfl (by decide +kernel) ⟨(Nat.le_of_ble_eq_true rfl), (Nat.le_of_ble_eq_true rfl)⟩) ⟨pg_blind, (pg_pre hP hD hK hG hS hFc [] rfl (by decide) [] rfl _)⟩ rfl rfl hl.1 rfl (lv_room (Nat.le_of_ble_eq_true rfl)) dX13_pass_10 ⟨(Nat.le_of_ble_eq_true rfl), (Nat.le_of_ble_eq_true rfl)⟩) hS (fun q _ h => hFc q h) hFc (fun r_1 u_2 t H locs ht hvm hw hB hz1 hk1 hS => ?_)
  obtain ⟨hP, hD, hK⟩ := jn (wr := [(mm, .inr (17, [.int 0, .int 0, .ref l0, .ref la, .ref l1, .ref l2, .ref l3, .ref sk, .ref ab, .ref bu, .ref cu, .ref sd, .ref l4]))]) (w1 := []) (t1 := []) (tr := []) hP hD hK [] [0] rfl rfl (by decide) (by decide) [] rfl hk1 hFc hB rfl rfl ht hvm
  have hP : va_P D vwCl [(mm, .inr (17, [.int 0, .int 0, .ref l0, .ref la, .ref l1, .ref l2, .ref l3, .ref sk, .ref ab, .ref bu, .ref cu, .ref sd, .ref l4]))] H := hP
  have hD : va_D A [(mm, .inr (17, [.int 0, .int 0, .ref l0, .ref la, .ref l1, .ref l2, .ref l3, .ref sk, .ref ab, .ref bu, .ref cu, .ref sd, .ref l4]))] := hD
  have hK : va_K D vwCl [] s := hK
  refine W.widen (k := 0) (n := 0) (Nat.le_of_ble_eq_true rfl) (Nat.le_of_ble_eq_true rfl) ?_
  rcases hw with ⟨q_4, h_3⟩ | ⟨q_4, h_3⟩
  · subst q_4
    refine lv_if_ne (tgt := 22) hx hb dX13_pass_13 (by decide) (fun c_5 => ?_) (fun c_5 => absurd c_5 (by decide))
    refine lv_aload_n hx hb dX13_pass_22 rfl (lv_at hl 0 rfl) ?_
    refine lv_dup hx hb dX13_pass_23 rfl ?_
    refine va_get (D := D) (ci := 17) (v := .int 0) (C := RX13) (T := TX13) (N := 13) hx hb hts (fun w h => List.mem_cons_of_mem _ (List.mem_append_right _ h)) hown hK hP 0 rfl rfl 1 (by decide) (hts (.fieldLink RX13 138 "LastroomModel" "now" "I") (List.mem_of_getElem? (i := 2) rfl)) (fun _ h9 => h9) rfl dX13_pass_24 ?_
    refine lv_iload_n hx hb dX13_pass_27 rfl (lv_at hl 1 rfl) ?_
    refine lv_iadd hx hb dX13_pass_28 ?_
    refine va_put (D := D) (ci := 17) (v := .int ((0 : Int32) + a1)) (ty := .int) (C := RX13) (T := TX13) (N := 13) hx hb hts (fun w h => List.mem_cons_of_mem _ (List.mem_append_right _ h)) tyX13 tyX13_ok nmX13 hown hK hP hD hS 0 rfl rfl 1 (by decide) (hts (.fieldLink RX13 138 "LastroomModel" "now" "I") (List.mem_of_getElem? (i := 2) rfl)) (fun _ h9 => h9) rfl (by decide +kernel) rfl rfl (Nat.le_of_ble_eq_true rfl) dX13_pass_29 (fun H locs hP hD hS => ?_)
    have hP : va_P D vwCl [(mm, .inr (17, [.int 0, .int ((0 : Int32) + a1), .ref l0, .ref la, .ref l1, .ref l2, .ref l3, .ref sk, .ref ab, .ref bu, .ref cu, .ref sd, .ref l4]))] H := hP
    have hD : va_D A [(mm, .inr (17, [.int 0, .int ((0 : Int32) + a1), .ref l0, .ref la, .ref l1, .ref l2, .ref l3, .ref sk, .ref ab, .ref bu, .ref cu, .ref sd, .ref l4]))] := hD
    refine lv_aload_n hx hb dX13_pass_32 rfl (lv_at hl 0 rfl) ?_
    refine va_get (D := D) (ci := 17) (v := .int ((0 : Int32) + a1)) (C := RX13) (T := TX13) (N := 13) hx hb hts (fun w h => List.mem_cons_of_mem _ (List.mem_append_right _ h)) hown hK hP 0 rfl rfl 1 (by decide) (hts (.fieldLink RX13 138 "LastroomModel" "now" "I") (List.mem_of_getElem? (i := 2) rfl)) (fun _ h9 => h9) rfl dX13_pass_33 ?_
    have hP9 := hP.sub (ws' := [(mm, .inr (17, [.int 0, .int ((0 : Int32) + a1), .ref l0, .ref la, .ref l1, .ref l2, .ref l3, .ref sk, .ref ab, .ref bu, .ref cu, .ref sd, .ref l4]))]) [0] rfl
    have hD9 := hD.sub (ws' := [(mm, .inr (17, [.int 0, .int ((0 : Int32) + a1), .ref l0, .ref la, .ref l1, .ref l2, .ref l3, .ref sk, .ref ab, .ref bu, .ref cu, .ref sd, .ref l4]))]) [0] (by decide) rfl
    have hK9 := hK.sub (tys' := []) [] rfl
    exact end_i hx hb hr hlocks hP9 hD9 hK9 hS (0, ((0 : Int32) + a1)) rfl rfl (Or.inl ⟨by simp [h_3], rfl, by simp⟩) (Nat.le_of_ble_eq_true rfl) (Nat.le_of_ble_eq_true rfl) dX13_pass_36
  · subst q_4
    refine lv_if_ne (tgt := 22) hx hb dX13_pass_13 (by decide) (fun c_6 => absurd (by decide) c_6) (fun c_6 => ?_)
    refine lv_aload_n hx hb dX13_pass_16 rfl (lv_at hl 0 rfl) ?_
    refine lv_iconst (v := 1) hx hb dX13_pass_17 (by decide) ?_
    have hFc := va_free (wc := [(mm, .inr (17, [.int 0, .int 0, .ref l0, .ref la, .ref l1, .ref l2, .ref l3, .ref sk, .ref ab, .ref bu, .ref cu, .ref sd, .ref l4]))]) hD hS hA [0] rfl
    refine va_calli (va_runV (As := [.int 1]) (rest := []) ⟨hx, hb, hml, hown, hts⟩ (m_fails l D tC tE H.size mm l0 l1 l2 l3 l4 la sk ab bu cu sd 0 0 1) (cwV 1 hts gX13_pass_X13_fails rfl rfl rfl (by decide +kernel) ⟨(Nat.le_of_ble_eq_true rfl), (Nat.le_of_ble_eq_true rfl)⟩) ⟨pg_blind, (va_recv hK hP (ci := 17) (q0 := 0) rfl rfl), (pg_pre hP hD hK hG hS hFc [0] rfl (by decide) [] rfl _)⟩ rfl rfl hl.1 rfl (lv_room (Nat.le_of_ble_eq_true rfl)) dX13_pass_18 ⟨(Nat.le_of_ble_eq_true rfl), (Nat.le_of_ble_eq_true rfl)⟩) hS (fun q _ h => hFc q h) hFc (fun r_7 u_8 t H locs ht hvm hw hB hz1 hk1 hS => ?_)
    subst hw
    obtain ⟨hP, hD, hK⟩ := jn (wr := []) (w1 := [(mm, .inr (17, [.int 1, .int 0, .ref l0, .ref la, .ref l1, .ref l2, .ref l3, .ref sk, .ref ab, .ref bu, .ref cu, .ref sd, .ref l4]))]) (t1 := []) (tr := []) hP hD hK [0] [] rfl rfl (by decide) (by decide) [] rfl hk1 hFc hB rfl rfl ht hvm
    have hP : va_P D vwCl [(mm, .inr (17, [.int 1, .int 0, .ref l0, .ref la, .ref l1, .ref l2, .ref l3, .ref sk, .ref ab, .ref bu, .ref cu, .ref sd, .ref l4]))] H := hP
    have hD : va_D A [(mm, .inr (17, [.int 1, .int 0, .ref l0, .ref la, .ref l1, .ref l2, .ref l3, .ref sk, .ref ab, .ref bu, .ref cu, .ref sd, .ref l4]))] := hD
    have hK : va_K D vwCl [] s := hK
    refine W.widen (k := 0) (n := 0) (Nat.le_of_ble_eq_true rfl) (Nat.le_of_ble_eq_true rfl) ?_
    have hP9 := hP.sub (ws' := [(mm, .inr (17, [.int 1, .int 0, .ref l0, .ref la, .ref l1, .ref l2, .ref l3, .ref sk, .ref ab, .ref bu, .ref cu, .ref sd, .ref l4]))]) [0] rfl
    have hD9 := hD.sub (ws' := [(mm, .inr (17, [.int 1, .int 0, .ref l0, .ref la, .ref l1, .ref l2, .ref l3, .ref sk, .ref ab, .ref bu, .ref cu, .ref sd, .ref l4]))]) [0] (by decide) rfl
    have hK9 := hK.sub (tys' := []) [] rfl
    exact end_i hx hb hr hlocks hP9 hD9 hK9 hS (1, 0) rfl rfl (Or.inr ⟨by simp [h_3], rfl⟩) (Nat.le_of_ble_eq_true rfl) (Nat.le_of_ble_eq_true rfl) dX13_pass_21
set_option maxHeartbeats 4000000 in
set_option maxRecDepth 100000 in
/-- misfit of the reference, on a fresh object -/
theorem m_misfit (l : Launch) (D : va_G) (tC tE sz : Nat) (mm l0 l1 l2 l3 l4 la sk ab bu cu sd : Nat) (a1 a2 a3 a4 : Int32) : Met l yX13_misfit wsX13_misfit ({ frames := 2, cells := 0, slots := 0, locals := 43 }) (Pg D tC tE sz [(mm, .inr (17, [.int 0, .int 0, .ref l0, .ref la, .ref l1, .ref l2, .ref l3, .ref sk, .ref ab, .ref bu, .ref cu, .ref sd, .ref l4])), (l0, .inr (3, [.int 0, .ref tE, .int 0]))] [] [.ref mm, .int a1, .int a2, .int a3, .int a4]) (Qgi (S := Int32 × Int32) D (fun u => [(mm, .inr (17, [.int (u.1), .int (u.2), .ref l0, .ref la, .ref l1, .ref l2, .ref l3, .ref sk, .ref ab, .ref bu, .ref cu, .ref sd, .ref l4]))]) (fun u => []) (fun _ u => (misB a1 a2 a4 = false ∧ u.1 = 1) ∨ (misB a1 a2 a4 = true ∧ u.1 = 2)) (va_A [(mm, .inr (17, [.int 0, .int 0, .ref l0, .ref la, .ref l1, .ref l2, .ref l3, .ref sk, .ref ab, .ref bu, .ref cu, .ref sd, .ref l4])), (l0, .inr (3, [.int 0, .ref tE, .int 0]))] sz)) 0 0 (va_A [(mm, .inr (17, [.int 0, .int 0, .ref l0, .ref la, .ref l1, .ref l2, .ref l3, .ref sk, .ref ab, .ref bu, .ref cu, .ref sd, .ref l4])), (l0, .inr (3, [.int 0, .ref tE, .int 0]))] sz) := by
  refine og_m (cc := cX13_misfit) (maxL := 5) (ret := (some .int)) (Qc := Qgi (S := Int32 × Int32) D (fun u => [(mm, .inr (17, [.int (u.1), .int (u.2), .ref l0, .ref la, .ref l1, .ref l2, .ref l3, .ref sk, .ref ab, .ref bu, .ref cu, .ref sd, .ref l4]))]) (fun u => []) (fun _ u => (misB a1 a2 a4 = false ∧ u.1 = 1) ∨ (misB a1 a2 a4 = true ∧ u.1 = 2))) (by decide) rfl (Nat.le_of_ble_eq_true rfl) ?_
  intro p e s m below meth c A hx hb hr hml hts hown hlocks hin hP hD hK hG hA hS ls hl
  have hl : lv_has ls 5 [(0, .ref mm), (1, .int a1), (2, .int a2), (3, .int a3), (4, .int a4)] := hl
  refine lv_aload_n hx hb dX13_misfit_0 rfl (lv_at hl 0 rfl) ?_
  refine lv_iload_n hx hb dX13_misfit_1 rfl (lv_at hl 1 rfl) ?_
  refine lv_iload_n hx hb dX13_misfit_2 rfl (lv_at hl 2 rfl) ?_
  have hFc := va_free (wc := []) hD hS hA [] rfl
  refine va_calli (va_runS (As := [.int a1, .int a2]) (rest := [.ref mm]) ⟨hx, hb, hml, hown, hts⟩ (m_isFoot l D tC tE s.heap.size a1 a2) (va_cwS 2 hts gX13_misfit_X13_isFoot rfl rfl rfl (by decide +kernel) ⟨(Nat.le_of_ble_eq_true rfl), (Nat.le_of_ble_eq_true rfl)⟩) ⟨pg_blind, (pg_pre hP hD hK hG hS hFc [] rfl (by decide) [] rfl _)⟩ rfl rfl hl.1 rfl (lv_room (Nat.le_of_ble_eq_true rfl)) dX13_misfit_3 ⟨(Nat.le_of_ble_eq_true rfl), (Nat.le_of_ble_eq_true rfl)⟩) hS (fun q _ h => hFc q h) hFc (fun r_1 u_2 t H locs ht hvm hw hB hz1 hk1 hS => ?_)
  obtain ⟨hP, hD, hK⟩ := jn (wr := [(mm, .inr (17, [.int 0, .int 0, .ref l0, .ref la, .ref l1, .ref l2, .ref l3, .ref sk, .ref ab, .ref bu, .ref cu, .ref sd, .ref l4])), (l0, .inr (3, [.int 0, .ref tE, .int 0]))]) (w1 := []) (t1 := []) (tr := []) hP hD hK [] [0, 1] rfl rfl (by decide) (by decide) [] rfl hk1 hFc hB rfl rfl ht hvm
  have hP : va_P D vwCl [(mm, .inr (17, [.int 0, .int 0, .ref l0, .ref la, .ref l1, .ref l2, .ref l3, .ref sk, .ref ab, .ref bu, .ref cu, .ref sd, .ref l4])), (l0, .inr (3, [.int 0, .ref tE, .int 0]))] H := hP
  have hD : va_D A [(mm, .inr (17, [.int 0, .int 0, .ref l0, .ref la, .ref l1, .ref l2, .ref l3, .ref sk, .ref ab, .ref bu, .ref cu, .ref sd, .ref l4])), (l0, .inr (3, [.int 0, .ref tE, .int 0]))] := hD
  have hK : va_K D vwCl [] s := hK
  refine W.widen (k := 0) (n := 0) (Nat.le_of_ble_eq_true rfl) (Nat.le_of_ble_eq_true rfl) ?_
  rcases hw with ⟨q_4, h_3⟩ | ⟨q_4, h_3⟩
  · subst q_4
    refine lv_if_eq (tgt := 21) hx hb dX13_misfit_6 (by decide) (fun c_5 => absurd c_5 (show ¬ (1 : Int32) = 0 from (by decide))) (fun c_5 => ?_)
    refine lv_iload hx hb dX13_misfit_9 (lv_at hl 4 rfl) ?_
    refine lv_bipush (v := 15) hx hb dX13_misfit_11 (by decide) ?_
    refine lv_bipush (v := 50) hx hb dX13_misfit_13 (by decide) ?_
    have hFc := va_free (wc := []) hD hS hA [] rfl
    refine va_calli (va_runS (As := [.int a4, .int 15, .int 50]) (rest := [.ref mm]) ⟨hx, hb, hml, hown, hts⟩ (m_in l D tC tE H.size a4 15 50) (va_cwS 3 hts gX13_misfit_X13_in rfl rfl rfl (by decide +kernel) ⟨(Nat.le_of_ble_eq_true rfl), (Nat.le_of_ble_eq_true rfl)⟩) ⟨pg_blind, (pg_pre hP hD hK hG hS hFc [] rfl (by decide) [] rfl _)⟩ rfl rfl hl.1 rfl (lv_room (Nat.le_of_ble_eq_true rfl)) dX13_misfit_15 ⟨(Nat.le_of_ble_eq_true rfl), (Nat.le_of_ble_eq_true rfl)⟩) hS (fun q _ h => hFc q h) hFc (fun r_6 u_7 t H locs ht hvm hw hB hz1 hk1 hS => ?_)
    obtain ⟨hP, hD, hK⟩ := jn (wr := [(mm, .inr (17, [.int 0, .int 0, .ref l0, .ref la, .ref l1, .ref l2, .ref l3, .ref sk, .ref ab, .ref bu, .ref cu, .ref sd, .ref l4])), (l0, .inr (3, [.int 0, .ref tE, .int 0]))]) (w1 := []) (t1 := []) (tr := []) hP hD hK [] [0, 1] rfl rfl (by decide) (by decide) [] rfl hk1 hFc hB rfl rfl ht hvm
    have hP : va_P D vwCl [(mm, .inr (17, [.int 0, .int 0, .ref l0, .ref la, .ref l1, .ref l2, .ref l3, .ref sk, .ref ab, .ref bu, .ref cu, .ref sd, .ref l4])), (l0, .inr (3, [.int 0, .ref tE, .int 0]))] H := hP
    have hD : va_D A [(mm, .inr (17, [.int 0, .int 0, .ref l0, .ref la, .ref l1, .ref l2, .ref l3, .ref sk, .ref ab, .ref bu, .ref cu, .ref sd, .ref l4])), (l0, .inr (3, [.int 0, .ref tE, .int 0]))] := hD
    have hK : va_K D vwCl [] s := hK
    refine W.widen (k := 0) (n := 0) (Nat.le_of_ble_eq_true rfl) (Nat.le_of_ble_eq_true rfl) ?_
    rcases hw with ⟨q_9, h_8⟩ | ⟨q_9, h_8⟩
    · subst q_9
      refine lv_if_ne (tgt := 25) hx hb dX13_misfit_18 (by decide) (fun c_10 => ?_) (fun c_10 => absurd c_10 (by decide))
      refine lv_aload_n hx hb dX13_misfit_25 rfl (lv_at hl 0 rfl) ?_
      refine lv_iload_n hx hb dX13_misfit_26 rfl (lv_at hl 3 rfl) ?_
      have hFc := va_free (wc := [(mm, .inr (17, [.int 0, .int 0, .ref l0, .ref la, .ref l1, .ref l2, .ref l3, .ref sk, .ref ab, .ref bu, .ref cu, .ref sd, .ref l4])), (l0, .inr (3, [.int 0, .ref tE, .int 0]))]) hD hS hA [0, 1] rfl
      refine va_calli (va_runV (As := [.int a3]) (rest := [.ref mm]) ⟨hx, hb, hml, hown, hts⟩ (m_isModel l D tC tE H.size mm l0 l1 l2 l3 l4 la sk ab bu cu sd 0 0 a3) (cwV 1 hts gX13_misfit_X13_isModel rfl rfl rfl (by decide +kernel) ⟨(Nat.le_of_ble_eq_true rfl), (Nat.le_of_ble_eq_true rfl)⟩) ⟨pg_blind, (va_recv hK hP (ci := 17) (q0 := 0) rfl rfl), (pg_pre hP hD hK hG hS hFc [0, 1] rfl (by decide) [] rfl _)⟩ rfl rfl hl.1 rfl (lv_room (Nat.le_of_ble_eq_true rfl)) dX13_misfit_27 ⟨(Nat.le_of_ble_eq_true rfl), (Nat.le_of_ble_eq_true rfl)⟩) hS (fun q _ h => hFc q h) hFc (fun r_11 u_12 t H locs ht hvm hw hB hz1 hk1 hS => ?_)
      subst hw
      obtain ⟨hP, hD, hK⟩ := jn (wr := []) (w1 := [(mm, .inr (17, [.int 0, .int 0, .ref l0, .ref la, .ref l1, .ref l2, .ref l3, .ref sk, .ref ab, .ref bu, .ref cu, .ref sd, .ref l4])), (l0, .inr (3, [.int 0, .ref tE, .int 0]))]) (t1 := []) (tr := []) hP hD hK [0, 1] [] rfl rfl (by decide) (by decide) [] rfl hk1 hFc hB rfl rfl ht hvm
      have hP : va_P D vwCl [(mm, .inr (17, [.int 0, .int 0, .ref l0, .ref la, .ref l1, .ref l2, .ref l3, .ref sk, .ref ab, .ref bu, .ref cu, .ref sd, .ref l4])), (l0, .inr (3, [.int 0, .ref tE, .int 0]))] H := hP
      have hD : va_D A [(mm, .inr (17, [.int 0, .int 0, .ref l0, .ref la, .ref l1, .ref l2, .ref l3, .ref sk, .ref ab, .ref bu, .ref cu, .ref sd, .ref l4])), (l0, .inr (3, [.int 0, .ref tE, .int 0]))] := hD
      have hK : va_K D vwCl [] s := hK
      refine W.widen (k := 0) (n := 0) (Nat.le_of_ble_eq_true rfl) (Nat.le_of_ble_eq_true rfl) ?_
      refine lv_if_ne (tgt := 37) hx hb dX13_misfit_30 (by decide) (fun c_13 => absurd (by decide) c_13) (fun c_13 => ?_)
      refine lv_iconst (v := 2) hx hb dX13_misfit_33 (by decide) ?_
      refine lv_goto (tgt := 38) hx hb dX13_misfit_34 (by decide) ?_
      refine va_put (D := D) (ci := 17) (v := .int 2) (ty := .int) (C := RX13) (T := TX13) (N := 13) hx hb hts (fun w h => List.mem_cons_of_mem _ (List.mem_append_left _ (List.mem_append_left _ (List.mem_append_right _ h)))) tyX13 tyX13_ok nmX13 hown hK hP hD hS 0 rfl rfl 0 (by decide) (hts (.fieldLink RX13 48 "LastroomModel" "code" "I") (List.mem_of_getElem? (i := 1) rfl)) (fun _ h9 => h9) rfl (by decide +kernel) rfl rfl (Nat.le_of_ble_eq_true rfl) dX13_misfit_38 (fun H locs hP hD hS => ?_)
      have hP : va_P D vwCl [(mm, .inr (17, [.int 2, .int 0, .ref l0, .ref la, .ref l1, .ref l2, .ref l3, .ref sk, .ref ab, .ref bu, .ref cu, .ref sd, .ref l4])), (l0, .inr (3, [.int 0, .ref tE, .int 0]))] H := hP
      have hD : va_D A [(mm, .inr (17, [.int 2, .int 0, .ref l0, .ref la, .ref l1, .ref l2, .ref l3, .ref sk, .ref ab, .ref bu, .ref cu, .ref sd, .ref l4])), (l0, .inr (3, [.int 0, .ref tE, .int 0]))] := hD
      refine lv_aload_n hx hb dX13_misfit_41 rfl (lv_at hl 0 rfl) ?_
      refine va_get (D := D) (ci := 17) (v := .int 2) (C := RX13) (T := TX13) (N := 13) hx hb hts (fun w h => List.mem_cons_of_mem _ (List.mem_append_left _ (List.mem_append_left _ (List.mem_append_right _ h)))) hown hK hP 0 rfl rfl 0 (by decide) (hts (.fieldLink RX13 48 "LastroomModel" "code" "I") (List.mem_of_getElem? (i := 1) rfl)) (fun _ h9 => h9) rfl dX13_misfit_42 ?_
      refine lv_if_ne (tgt := 60) hx hb dX13_misfit_45 (by decide) (fun c_14 => ?_) (fun c_14 => absurd c_14 (by decide))
      refine lv_iconst (v := 0) hx hb dX13_misfit_60 (by decide) ?_
      have hP9 := hP.sub (ws' := [(mm, .inr (17, [.int 2, .int 0, .ref l0, .ref la, .ref l1, .ref l2, .ref l3, .ref sk, .ref ab, .ref bu, .ref cu, .ref sd, .ref l4]))]) [0] rfl
      have hD9 := hD.sub (ws' := [(mm, .inr (17, [.int 2, .int 0, .ref l0, .ref la, .ref l1, .ref l2, .ref l3, .ref sk, .ref ab, .ref bu, .ref cu, .ref sd, .ref l4]))]) [0] (by decide) rfl
      have hK9 := hK.sub (tys' := []) [] rfl
      exact end_i hx hb hr hlocks hP9 hD9 hK9 hS (2, 0) rfl rfl (Or.inr ⟨by simp [misB, h_3, h_8], rfl⟩) (Nat.le_of_ble_eq_true rfl) (Nat.le_of_ble_eq_true rfl) dX13_misfit_61
    · subst q_9
      refine lv_if_ne (tgt := 25) hx hb dX13_misfit_18 (by decide) (fun c_15 => absurd (by decide) c_15) (fun c_15 => ?_)
      refine lv_iconst (v := 1) hx hb dX13_misfit_21 (by decide) ?_
      refine lv_goto (tgt := 38) hx hb dX13_misfit_22 (by decide) ?_
      refine va_put (D := D) (ci := 17) (v := .int 1) (ty := .int) (C := RX13) (T := TX13) (N := 13) hx hb hts (fun w h => List.mem_cons_of_mem _ (List.mem_append_left _ (List.mem_append_left _ (List.mem_append_right _ h)))) tyX13 tyX13_ok nmX13 hown hK hP hD hS 0 rfl rfl 0 (by decide) (hts (.fieldLink RX13 48 "LastroomModel" "code" "I") (List.mem_of_getElem? (i := 1) rfl)) (fun _ h9 => h9) rfl (by decide +kernel) rfl rfl (Nat.le_of_ble_eq_true rfl) dX13_misfit_38 (fun H locs hP hD hS => ?_)
      have hP : va_P D vwCl [(mm, .inr (17, [.int 1, .int 0, .ref l0, .ref la, .ref l1, .ref l2, .ref l3, .ref sk, .ref ab, .ref bu, .ref cu, .ref sd, .ref l4])), (l0, .inr (3, [.int 0, .ref tE, .int 0]))] H := hP
      have hD : va_D A [(mm, .inr (17, [.int 1, .int 0, .ref l0, .ref la, .ref l1, .ref l2, .ref l3, .ref sk, .ref ab, .ref bu, .ref cu, .ref sd, .ref l4])), (l0, .inr (3, [.int 0, .ref tE, .int 0]))] := hD
      refine lv_aload_n hx hb dX13_misfit_41 rfl (lv_at hl 0 rfl) ?_
      refine va_get (D := D) (ci := 17) (v := .int 1) (C := RX13) (T := TX13) (N := 13) hx hb hts (fun w h => List.mem_cons_of_mem _ (List.mem_append_left _ (List.mem_append_left _ (List.mem_append_right _ h)))) hown hK hP 0 rfl rfl 0 (by decide) (hts (.fieldLink RX13 48 "LastroomModel" "code" "I") (List.mem_of_getElem? (i := 1) rfl)) (fun _ h9 => h9) rfl dX13_misfit_42 ?_
      refine lv_if_ne (tgt := 60) hx hb dX13_misfit_45 (by decide) (fun c_16 => ?_) (fun c_16 => absurd c_16 (by decide))
      refine lv_iconst (v := 0) hx hb dX13_misfit_60 (by decide) ?_
      have hP9 := hP.sub (ws' := [(mm, .inr (17, [.int 1, .int 0, .ref l0, .ref la, .ref l1, .ref l2, .ref l3, .ref sk, .ref ab, .ref bu, .ref cu, .ref sd, .ref l4]))]) [0] rfl
      have hD9 := hD.sub (ws' := [(mm, .inr (17, [.int 1, .int 0, .ref l0, .ref la, .ref l1, .ref l2, .ref l3, .ref sk, .ref ab, .ref bu, .ref cu, .ref sd, .ref l4]))]) [0] (by decide) rfl
      have hK9 := hK.sub (tys' := []) [] rfl
      exact end_i hx hb hr hlocks hP9 hD9 hK9 hS (1, 0) rfl rfl (Or.inl ⟨by simp [misB, h_3, h_8], rfl⟩) (Nat.le_of_ble_eq_true rfl) (Nat.le_of_ble_eq_true rfl) dX13_misfit_61
  · subst q_4
    refine lv_if_eq (tgt := 21) hx hb dX13_misfit_6 (by decide) (fun c_17 => ?_) (fun c_17 => absurd (show (0 : Int32) = 0 from (by decide)) c_17)
    refine lv_iconst (v := 1) hx hb dX13_misfit_21 (by decide) ?_
    refine lv_goto (tgt := 38) hx hb dX13_misfit_22 (by decide) ?_
    refine va_put (D := D) (ci := 17) (v := .int 1) (ty := .int) (C := RX13) (T := TX13) (N := 13) hx hb hts (fun w h => List.mem_cons_of_mem _ (List.mem_append_left _ (List.mem_append_left _ (List.mem_append_right _ h)))) tyX13 tyX13_ok nmX13 hown hK hP hD hS 0 rfl rfl 0 (by decide) (hts (.fieldLink RX13 48 "LastroomModel" "code" "I") (List.mem_of_getElem? (i := 1) rfl)) (fun _ h9 => h9) rfl (by decide +kernel) rfl rfl (Nat.le_of_ble_eq_true rfl) dX13_misfit_38 (fun H locs hP hD hS => ?_)
    have hP : va_P D vwCl [(mm, .inr (17, [.int 1, .int 0, .ref l0, .ref la, .ref l1, .ref l2, .ref l3, .ref sk, .ref ab, .ref bu, .ref cu, .ref sd, .ref l4])), (l0, .inr (3, [.int 0, .ref tE, .int 0]))] H := hP
    have hD : va_D A [(mm, .inr (17, [.int 1, .int 0, .ref l0, .ref la, .ref l1, .ref l2, .ref l3, .ref sk, .ref ab, .ref bu, .ref cu, .ref sd, .ref l4])), (l0, .inr (3, [.int 0, .ref tE, .int 0]))] := hD
    refine lv_aload_n hx hb dX13_misfit_41 rfl (lv_at hl 0 rfl) ?_
    refine va_get (D := D) (ci := 17) (v := .int 1) (C := RX13) (T := TX13) (N := 13) hx hb hts (fun w h => List.mem_cons_of_mem _ (List.mem_append_left _ (List.mem_append_left _ (List.mem_append_right _ h)))) hown hK hP 0 rfl rfl 0 (by decide) (hts (.fieldLink RX13 48 "LastroomModel" "code" "I") (List.mem_of_getElem? (i := 1) rfl)) (fun _ h9 => h9) rfl dX13_misfit_42 ?_
    refine lv_if_ne (tgt := 60) hx hb dX13_misfit_45 (by decide) (fun c_18 => ?_) (fun c_18 => absurd c_18 (by decide))
    refine lv_iconst (v := 0) hx hb dX13_misfit_60 (by decide) ?_
    have hP9 := hP.sub (ws' := [(mm, .inr (17, [.int 1, .int 0, .ref l0, .ref la, .ref l1, .ref l2, .ref l3, .ref sk, .ref ab, .ref bu, .ref cu, .ref sd, .ref l4]))]) [0] rfl
    have hD9 := hD.sub (ws' := [(mm, .inr (17, [.int 1, .int 0, .ref l0, .ref la, .ref l1, .ref l2, .ref l3, .ref sk, .ref ab, .ref bu, .ref cu, .ref sd, .ref l4]))]) [0] (by decide) rfl
    have hK9 := hK.sub (tys' := []) [] rfl
    exact end_i hx hb hr hlocks hP9 hD9 hK9 hS (1, 0) rfl rfl (Or.inl ⟨by simp [misB, h_3], rfl⟩) (Nat.le_of_ble_eq_true rfl) (Nat.le_of_ble_eq_true rfl) dX13_misfit_61
set_option maxHeartbeats 4000000 in
set_option maxRecDepth 100000 in
/-- bestModel of the reference, on a fresh object -/
theorem m_bestModel (l : Launch) (D : va_G) (tC tE sz : Nat) (mm l0 l1 l2 l3 l4 la sk ab bu cu sd : Nat) (a1 a2 : Int32) : Met l yX13_bestModel wsX13_bestModel ({ frames := 2, cells := 0, slots := 0, locals := 43 }) (Pg D tC tE sz [(mm, .inr (17, [.int 0, .int 0, .ref l0, .ref la, .ref l1, .ref l2, .ref l3, .ref sk, .ref ab, .ref bu, .ref cu, .ref sd, .ref l4])), (l0, .inr (3, [.int 0, .ref tE, .int 0]))] [] [.ref mm, .int a1, .int a2]) (Qgi (S := Int32 × Int32) D (fun u => [(mm, .inr (17, [.int (u.1), .int (u.2), .ref l0, .ref la, .ref l1, .ref l2, .ref l3, .ref sk, .ref ab, .ref bu, .ref cu, .ref sd, .ref l4]))]) (fun u => []) (fun _ u => (footB a1 a2 = false ∧ u.1 = 1) ∨ (footB a1 a2 = true ∧ u.1 = 2)) (va_A [(mm, .inr (17, [.int 0, .int 0, .ref l0, .ref la, .ref l1, .ref l2, .ref l3, .ref sk, .ref ab, .ref bu, .ref cu, .ref sd, .ref l4])), (l0, .inr (3, [.int 0, .ref tE, .int 0]))] sz)) 0 0 (va_A [(mm, .inr (17, [.int 0, .int 0, .ref l0, .ref la, .ref l1, .ref l2, .ref l3, .ref sk, .ref ab, .ref bu, .ref cu, .ref sd, .ref l4])), (l0, .inr (3, [.int 0, .ref tE, .int 0]))] sz) := by
  refine og_m (cc := cX13_bestModel) (maxL := 3) (ret := (some .int)) (Qc := Qgi (S := Int32 × Int32) D (fun u => [(mm, .inr (17, [.int (u.1), .int (u.2), .ref l0, .ref la, .ref l1, .ref l2, .ref l3, .ref sk, .ref ab, .ref bu, .ref cu, .ref sd, .ref l4]))]) (fun u => []) (fun _ u => (footB a1 a2 = false ∧ u.1 = 1) ∨ (footB a1 a2 = true ∧ u.1 = 2))) (by decide) rfl (Nat.le_of_ble_eq_true rfl) ?_
  intro p e s m below meth c A hx hb hr hml hts hown hlocks hin hP hD hK hG hA hS ls hl
  have hl : lv_has ls 3 [(0, .ref mm), (1, .int a1), (2, .int a2)] := hl
  refine lv_aload_n hx hb dX13_bestModel_0 rfl (lv_at hl 0 rfl) ?_
  refine lv_iload_n hx hb dX13_bestModel_1 rfl (lv_at hl 1 rfl) ?_
  refine lv_iload_n hx hb dX13_bestModel_2 rfl (lv_at hl 2 rfl) ?_
  have hFc := va_free (wc := []) hD hS hA [] rfl
  refine va_calli (va_runS (As := [.int a1, .int a2]) (rest := [.ref mm]) ⟨hx, hb, hml, hown, hts⟩ (m_isFoot l D tC tE s.heap.size a1 a2) (va_cwS 2 hts gX13_bestModel_X13_isFoot rfl rfl rfl (by decide +kernel) ⟨(Nat.le_of_ble_eq_true rfl), (Nat.le_of_ble_eq_true rfl)⟩) ⟨pg_blind, (pg_pre hP hD hK hG hS hFc [] rfl (by decide) [] rfl _)⟩ rfl rfl hl.1 rfl (lv_room (Nat.le_of_ble_eq_true rfl)) dX13_bestModel_3 ⟨(Nat.le_of_ble_eq_true rfl), (Nat.le_of_ble_eq_true rfl)⟩) hS (fun q _ h => hFc q h) hFc (fun r_1 u_2 t H locs ht hvm hw hB hz1 hk1 hS => ?_)
  obtain ⟨hP, hD, hK⟩ := jn (wr := [(mm, .inr (17, [.int 0, .int 0, .ref l0, .ref la, .ref l1, .ref l2, .ref l3, .ref sk, .ref ab, .ref bu, .ref cu, .ref sd, .ref l4])), (l0, .inr (3, [.int 0, .ref tE, .int 0]))]) (w1 := []) (t1 := []) (tr := []) hP hD hK [] [0, 1] rfl rfl (by decide) (by decide) [] rfl hk1 hFc hB rfl rfl ht hvm
  have hP : va_P D vwCl [(mm, .inr (17, [.int 0, .int 0, .ref l0, .ref la, .ref l1, .ref l2, .ref l3, .ref sk, .ref ab, .ref bu, .ref cu, .ref sd, .ref l4])), (l0, .inr (3, [.int 0, .ref tE, .int 0]))] H := hP
  have hD : va_D A [(mm, .inr (17, [.int 0, .int 0, .ref l0, .ref la, .ref l1, .ref l2, .ref l3, .ref sk, .ref ab, .ref bu, .ref cu, .ref sd, .ref l4])), (l0, .inr (3, [.int 0, .ref tE, .int 0]))] := hD
  have hK : va_K D vwCl [] s := hK
  refine W.widen (k := 0) (n := 0) (Nat.le_of_ble_eq_true rfl) (Nat.le_of_ble_eq_true rfl) ?_
  rcases hw with ⟨q_4, h_3⟩ | ⟨q_4, h_3⟩
  · subst q_4
    refine lv_if_ne (tgt := 13) hx hb dX13_bestModel_6 (by decide) (fun c_5 => ?_) (fun c_5 => absurd c_5 (by decide))
    refine lv_aload_n hx hb dX13_bestModel_13 rfl (lv_at hl 0 rfl) ?_
    refine va_get (D := D) (ci := 17) (v := .ref l0) (C := RX13) (T := TX13) (N := 13) hx hb hts (fun w h => List.mem_cons_of_mem _ (List.mem_append_left _ (List.mem_append_left _ (List.mem_append_right _ h)))) hown hK hP 0 rfl rfl 2 (by decide) (hts (.fieldLink RX13 10 "LastroomModel" "models" "Ljava/util/List;") (List.mem_of_getElem? (i := 1) rfl)) (fun _ h9 => h9) rfl dX13_bestModel_14 ?_
    have hFc := va_free (wc := [(l0, .inr (3, [.int 0, .ref tE, .int 0]))]) hD hS hA [1] rfl
    refine va_callFi (va_runF (As := []) (rest := [.ref mm]) (hK.1 3 _ rfl).2 ⟨hx, hb, hml, hown, hts⟩ (c_isEmpty l D tC tE H.size l0) (va_cwF 0 hts gX13_bestModel_Jx4a65c_isEmpty_aae02_f171Jx4a65c rfl rfl rfl (hG.2.2.2.2.2.2.2.2.1 _ (List.mem_of_getElem? (i := 4) rfl)) (by decide +kernel) ⟨(Nat.le_of_ble_eq_true rfl), (Nat.le_of_ble_eq_true rfl)⟩) ⟨pg_blind, (va_recv hK hP (ci := 3) (q0 := 1) rfl rfl), (pg_pre hP hD hK hG hS hFc [1] rfl (by decide) [] rfl _)⟩ rfl rfl hl.1 rfl (lv_room (Nat.le_of_ble_eq_true rfl)) dX13_bestModel_17 ⟨(Nat.le_of_ble_eq_true rfl), (Nat.le_of_ble_eq_true rfl)⟩) hS (fun q _ h => hFc q h) hFc (fun r_6 u_7 t H locs ht hvm hw hB hz1 hk1 hS => ?_)
    subst hw
    obtain ⟨hP, hD, hK⟩ := jn (wr := [(mm, .inr (17, [.int 0, .int 0, .ref l0, .ref la, .ref l1, .ref l2, .ref l3, .ref sk, .ref ab, .ref bu, .ref cu, .ref sd, .ref l4]))]) (w1 := [(l0, .inr (3, [.int 0, .ref tE, .int 0]))]) (t1 := []) (tr := []) hP hD hK [1] [0] rfl rfl (by decide) (by decide) [] rfl hk1 hFc hB rfl rfl ht hvm
    have hP : va_P D vwCl [(mm, .inr (17, [.int 0, .int 0, .ref l0, .ref la, .ref l1, .ref l2, .ref l3, .ref sk, .ref ab, .ref bu, .ref cu, .ref sd, .ref l4])), (l0, .inr (3, [.int 0, .ref tE, .int 0]))] H := hP
    have hD : va_D A [(mm, .inr (17, [.int 0, .int 0, .ref l0, .ref la, .ref l1, .ref l2, .ref l3, .ref sk, .ref ab, .ref bu, .ref cu, .ref sd, .ref l4])), (l0, .inr (3, [.int 0, .ref tE, .int 0]))] := hD
    have hK : va_K D vwCl [] s := hK
    refine W.widen (k := 0) (n := 0) (Nat.le_of_ble_eq_true rfl) (Nat.le_of_ble_eq_true rfl) ?_
    refine lv_if_eq (tgt := 29) hx hb dX13_bestModel_22 (by decide) (fun c_8 => absurd c_8 (show ¬ (1 : Int32) = 0 from (by decide))) (fun c_8 => ?_)
    refine lv_iconst (v := 2) hx hb dX13_bestModel_25 (by decide) ?_
    refine lv_goto (tgt := 30) hx hb dX13_bestModel_26 (by decide) ?_
    refine va_put (D := D) (ci := 17) (v := .int 2) (ty := .int) (C := RX13) (T := TX13) (N := 13) hx hb hts (fun w h => List.mem_cons_of_mem _ (List.mem_append_left _ (List.mem_append_left _ (List.mem_append_right _ h)))) tyX13 tyX13_ok nmX13 hown hK hP hD hS 0 rfl rfl 0 (by decide) (hts (.fieldLink RX13 48 "LastroomModel" "code" "I") (List.mem_of_getElem? (i := 2) rfl)) (fun _ h9 => h9) rfl (by decide +kernel) rfl rfl (Nat.le_of_ble_eq_true rfl) dX13_bestModel_30 (fun H locs hP hD hS => ?_)
    have hP : va_P D vwCl [(mm, .inr (17, [.int 2, .int 0, .ref l0, .ref la, .ref l1, .ref l2, .ref l3, .ref sk, .ref ab, .ref bu, .ref cu, .ref sd, .ref l4])), (l0, .inr (3, [.int 0, .ref tE, .int 0]))] H := hP
    have hD : va_D A [(mm, .inr (17, [.int 2, .int 0, .ref l0, .ref la, .ref l1, .ref l2, .ref l3, .ref sk, .ref ab, .ref bu, .ref cu, .ref sd, .ref l4])), (l0, .inr (3, [.int 0, .ref tE, .int 0]))] := hD
    refine lv_aload_n hx hb dX13_bestModel_33 rfl (lv_at hl 0 rfl) ?_
    refine va_get (D := D) (ci := 17) (v := .int 2) (C := RX13) (T := TX13) (N := 13) hx hb hts (fun w h => List.mem_cons_of_mem _ (List.mem_append_left _ (List.mem_append_left _ (List.mem_append_right _ h)))) hown hK hP 0 rfl rfl 0 (by decide) (hts (.fieldLink RX13 48 "LastroomModel" "code" "I") (List.mem_of_getElem? (i := 2) rfl)) (fun _ h9 => h9) rfl dX13_bestModel_34 ?_
    refine lv_if_ne (tgt := 64) hx hb dX13_bestModel_37 (by decide) (fun c_9 => ?_) (fun c_9 => absurd c_9 (by decide))
    refine lv_iconst (v := 0) hx hb dX13_bestModel_64 (by decide) ?_
    have hP9 := hP.sub (ws' := [(mm, .inr (17, [.int 2, .int 0, .ref l0, .ref la, .ref l1, .ref l2, .ref l3, .ref sk, .ref ab, .ref bu, .ref cu, .ref sd, .ref l4]))]) [0] rfl
    have hD9 := hD.sub (ws' := [(mm, .inr (17, [.int 2, .int 0, .ref l0, .ref la, .ref l1, .ref l2, .ref l3, .ref sk, .ref ab, .ref bu, .ref cu, .ref sd, .ref l4]))]) [0] (by decide) rfl
    have hK9 := hK.sub (tys' := []) [] rfl
    exact end_i hx hb hr hlocks hP9 hD9 hK9 hS (2, 0) rfl rfl (Or.inr ⟨by simp [h_3], rfl⟩) (Nat.le_of_ble_eq_true rfl) (Nat.le_of_ble_eq_true rfl) dX13_bestModel_65
  · subst q_4
    refine lv_if_ne (tgt := 13) hx hb dX13_bestModel_6 (by decide) (fun c_10 => absurd (by decide) c_10) (fun c_10 => ?_)
    refine lv_iconst (v := 1) hx hb dX13_bestModel_9 (by decide) ?_
    refine lv_goto (tgt := 30) hx hb dX13_bestModel_10 (by decide) ?_
    refine va_put (D := D) (ci := 17) (v := .int 1) (ty := .int) (C := RX13) (T := TX13) (N := 13) hx hb hts (fun w h => List.mem_cons_of_mem _ (List.mem_append_left _ (List.mem_append_left _ (List.mem_append_right _ h)))) tyX13 tyX13_ok nmX13 hown hK hP hD hS 0 rfl rfl 0 (by decide) (hts (.fieldLink RX13 48 "LastroomModel" "code" "I") (List.mem_of_getElem? (i := 2) rfl)) (fun _ h9 => h9) rfl (by decide +kernel) rfl rfl (Nat.le_of_ble_eq_true rfl) dX13_bestModel_30 (fun H locs hP hD hS => ?_)
    have hP : va_P D vwCl [(mm, .inr (17, [.int 1, .int 0, .ref l0, .ref la, .ref l1, .ref l2, .ref l3, .ref sk, .ref ab, .ref bu, .ref cu, .ref sd, .ref l4])), (l0, .inr (3, [.int 0, .ref tE, .int 0]))] H := hP
    have hD : va_D A [(mm, .inr (17, [.int 1, .int 0, .ref l0, .ref la, .ref l1, .ref l2, .ref l3, .ref sk, .ref ab, .ref bu, .ref cu, .ref sd, .ref l4])), (l0, .inr (3, [.int 0, .ref tE, .int 0]))] := hD
    refine lv_aload_n hx hb dX13_bestModel_33 rfl (lv_at hl 0 rfl) ?_
    refine va_get (D := D) (ci := 17) (v := .int 1) (C := RX13) (T := TX13) (N := 13) hx hb hts (fun w h => List.mem_cons_of_mem _ (List.mem_append_left _ (List.mem_append_left _ (List.mem_append_right _ h)))) hown hK hP 0 rfl rfl 0 (by decide) (hts (.fieldLink RX13 48 "LastroomModel" "code" "I") (List.mem_of_getElem? (i := 2) rfl)) (fun _ h9 => h9) rfl dX13_bestModel_34 ?_
    refine lv_if_ne (tgt := 64) hx hb dX13_bestModel_37 (by decide) (fun c_11 => ?_) (fun c_11 => absurd c_11 (by decide))
    refine lv_iconst (v := 0) hx hb dX13_bestModel_64 (by decide) ?_
    have hP9 := hP.sub (ws' := [(mm, .inr (17, [.int 1, .int 0, .ref l0, .ref la, .ref l1, .ref l2, .ref l3, .ref sk, .ref ab, .ref bu, .ref cu, .ref sd, .ref l4]))]) [0] rfl
    have hD9 := hD.sub (ws' := [(mm, .inr (17, [.int 1, .int 0, .ref l0, .ref la, .ref l1, .ref l2, .ref l3, .ref sk, .ref ab, .ref bu, .ref cu, .ref sd, .ref l4]))]) [0] (by decide) rfl
    have hK9 := hK.sub (tys' := []) [] rfl
    exact end_i hx hb hr hlocks hP9 hD9 hK9 hS (1, 0) rfl rfl (Or.inl ⟨by simp [h_3], rfl⟩) (Nat.le_of_ble_eq_true rfl) (Nat.le_of_ble_eq_true rfl) dX13_bestModel_65
set_option maxHeartbeats 4000000 in
set_option maxRecDepth 100000 in
/-- bestSize of the reference, on a fresh object -/
theorem m_bestSize (l : Launch) (D : va_G) (tC tE sz : Nat) (mm l0 l1 l2 l3 l4 la sk ab bu cu sd : Nat) (a1 a2 a3 : Int32) : Met l yX13_bestSize wsX13_bestSize ({ frames := 2, cells := 0, slots := 0, locals := 43 }) (Pg D tC tE sz [(mm, .inr (17, [.int 0, .int 0, .ref l0, .ref la, .ref l1, .ref l2, .ref l3, .ref sk, .ref ab, .ref bu, .ref cu, .ref sd, .ref l4])), (l0, .inr (3, [.int 0, .ref tE, .int 0]))] [] [.ref mm, .int a1, .int a2, .int a3]) (Qgi (S := Int32 × Int32) D (fun u => [(mm, .inr (17, [.int (u.1), .int (u.2), .ref l0, .ref la, .ref l1, .ref l2, .ref l3, .ref sk, .ref ab, .ref bu, .ref cu, .ref sd, .ref l4]))]) (fun u => []) (fun _ u => (footB a1 a2 = false ∧ u.1 = 1) ∨ (footB a1 a2 = true ∧ u.1 = 2)) (va_A [(mm, .inr (17, [.int 0, .int 0, .ref l0, .ref la, .ref l1, .ref l2, .ref l3, .ref sk, .ref ab, .ref bu, .ref cu, .ref sd, .ref l4])), (l0, .inr (3, [.int 0, .ref tE, .int 0]))] sz)) 0 0 (va_A [(mm, .inr (17, [.int 0, .int 0, .ref l0, .ref la, .ref l1, .ref l2, .ref l3, .ref sk, .ref ab, .ref bu, .ref cu, .ref sd, .ref l4])), (l0, .inr (3, [.int 0, .ref tE, .int 0]))] sz) := by
  refine og_m (cc := cX13_bestSize) (maxL := 4) (ret := (some .int)) (Qc := Qgi (S := Int32 × Int32) D (fun u => [(mm, .inr (17, [.int (u.1), .int (u.2), .ref l0, .ref la, .ref l1, .ref l2, .ref l3, .ref sk, .ref ab, .ref bu, .ref cu, .ref sd, .ref l4]))]) (fun u => []) (fun _ u => (footB a1 a2 = false ∧ u.1 = 1) ∨ (footB a1 a2 = true ∧ u.1 = 2))) (by decide) rfl (Nat.le_of_ble_eq_true rfl) ?_
  intro p e s m below meth c A hx hb hr hml hts hown hlocks hin hP hD hK hG hA hS ls hl
  have hl : lv_has ls 4 [(0, .ref mm), (1, .int a1), (2, .int a2), (3, .int a3)] := hl
  refine lv_aload_n hx hb dX13_bestSize_0 rfl (lv_at hl 0 rfl) ?_
  refine lv_iload_n hx hb dX13_bestSize_1 rfl (lv_at hl 1 rfl) ?_
  refine lv_iload_n hx hb dX13_bestSize_2 rfl (lv_at hl 2 rfl) ?_
  have hFc := va_free (wc := []) hD hS hA [] rfl
  refine va_calli (va_runS (As := [.int a1, .int a2]) (rest := [.ref mm]) ⟨hx, hb, hml, hown, hts⟩ (m_isFoot l D tC tE s.heap.size a1 a2) (va_cwS 2 hts gX13_bestSize_X13_isFoot rfl rfl rfl (by decide +kernel) ⟨(Nat.le_of_ble_eq_true rfl), (Nat.le_of_ble_eq_true rfl)⟩) ⟨pg_blind, (pg_pre hP hD hK hG hS hFc [] rfl (by decide) [] rfl _)⟩ rfl rfl hl.1 rfl (lv_room (Nat.le_of_ble_eq_true rfl)) dX13_bestSize_3 ⟨(Nat.le_of_ble_eq_true rfl), (Nat.le_of_ble_eq_true rfl)⟩) hS (fun q _ h => hFc q h) hFc (fun r_1 u_2 t H locs ht hvm hw hB hz1 hk1 hS => ?_)
  obtain ⟨hP, hD, hK⟩ := jn (wr := [(mm, .inr (17, [.int 0, .int 0, .ref l0, .ref la, .ref l1, .ref l2, .ref l3, .ref sk, .ref ab, .ref bu, .ref cu, .ref sd, .ref l4])), (l0, .inr (3, [.int 0, .ref tE, .int 0]))]) (w1 := []) (t1 := []) (tr := []) hP hD hK [] [0, 1] rfl rfl (by decide) (by decide) [] rfl hk1 hFc hB rfl rfl ht hvm
  have hP : va_P D vwCl [(mm, .inr (17, [.int 0, .int 0, .ref l0, .ref la, .ref l1, .ref l2, .ref l3, .ref sk, .ref ab, .ref bu, .ref cu, .ref sd, .ref l4])), (l0, .inr (3, [.int 0, .ref tE, .int 0]))] H := hP
  have hD : va_D A [(mm, .inr (17, [.int 0, .int 0, .ref l0, .ref la, .ref l1, .ref l2, .ref l3, .ref sk, .ref ab, .ref bu, .ref cu, .ref sd, .ref l4])), (l0, .inr (3, [.int 0, .ref tE, .int 0]))] := hD
  have hK : va_K D vwCl [] s := hK
  refine W.widen (k := 0) (n := 0) (Nat.le_of_ble_eq_true rfl) (Nat.le_of_ble_eq_true rfl) ?_
  rcases hw with ⟨q_4, h_3⟩ | ⟨q_4, h_3⟩
  · subst q_4
    refine lv_if_ne (tgt := 13) hx hb dX13_bestSize_6 (by decide) (fun c_5 => ?_) (fun c_5 => absurd c_5 (by decide))
    refine lv_aload_n hx hb dX13_bestSize_13 rfl (lv_at hl 0 rfl) ?_
    refine lv_iload_n hx hb dX13_bestSize_14 rfl (lv_at hl 3 rfl) ?_
    have hFc := va_free (wc := [(mm, .inr (17, [.int 0, .int 0, .ref l0, .ref la, .ref l1, .ref l2, .ref l3, .ref sk, .ref ab, .ref bu, .ref cu, .ref sd, .ref l4])), (l0, .inr (3, [.int 0, .ref tE, .int 0]))]) hD hS hA [0, 1] rfl
    refine va_calli (va_runV (As := [.int a3]) (rest := [.ref mm]) ⟨hx, hb, hml, hown, hts⟩ (m_isModel l D tC tE H.size mm l0 l1 l2 l3 l4 la sk ab bu cu sd 0 0 a3) (cwV 1 hts gX13_bestSize_X13_isModel rfl rfl rfl (by decide +kernel) ⟨(Nat.le_of_ble_eq_true rfl), (Nat.le_of_ble_eq_true rfl)⟩) ⟨pg_blind, (va_recv hK hP (ci := 17) (q0 := 0) rfl rfl), (pg_pre hP hD hK hG hS hFc [0, 1] rfl (by decide) [] rfl _)⟩ rfl rfl hl.1 rfl (lv_room (Nat.le_of_ble_eq_true rfl)) dX13_bestSize_15 ⟨(Nat.le_of_ble_eq_true rfl), (Nat.le_of_ble_eq_true rfl)⟩) hS (fun q _ h => hFc q h) hFc (fun r_6 u_7 t H locs ht hvm hw hB hz1 hk1 hS => ?_)
    subst hw
    obtain ⟨hP, hD, hK⟩ := jn (wr := []) (w1 := [(mm, .inr (17, [.int 0, .int 0, .ref l0, .ref la, .ref l1, .ref l2, .ref l3, .ref sk, .ref ab, .ref bu, .ref cu, .ref sd, .ref l4])), (l0, .inr (3, [.int 0, .ref tE, .int 0]))]) (t1 := []) (tr := []) hP hD hK [0, 1] [] rfl rfl (by decide) (by decide) [] rfl hk1 hFc hB rfl rfl ht hvm
    have hP : va_P D vwCl [(mm, .inr (17, [.int 0, .int 0, .ref l0, .ref la, .ref l1, .ref l2, .ref l3, .ref sk, .ref ab, .ref bu, .ref cu, .ref sd, .ref l4])), (l0, .inr (3, [.int 0, .ref tE, .int 0]))] H := hP
    have hD : va_D A [(mm, .inr (17, [.int 0, .int 0, .ref l0, .ref la, .ref l1, .ref l2, .ref l3, .ref sk, .ref ab, .ref bu, .ref cu, .ref sd, .ref l4])), (l0, .inr (3, [.int 0, .ref tE, .int 0]))] := hD
    have hK : va_K D vwCl [] s := hK
    refine W.widen (k := 0) (n := 0) (Nat.le_of_ble_eq_true rfl) (Nat.le_of_ble_eq_true rfl) ?_
    refine lv_if_ne (tgt := 25) hx hb dX13_bestSize_18 (by decide) (fun c_8 => absurd (by decide) c_8) (fun c_8 => ?_)
    refine lv_iconst (v := 2) hx hb dX13_bestSize_21 (by decide) ?_
    refine lv_goto (tgt := 26) hx hb dX13_bestSize_22 (by decide) ?_
    refine va_put (D := D) (ci := 17) (v := .int 2) (ty := .int) (C := RX13) (T := TX13) (N := 13) hx hb hts (fun w h => List.mem_cons_of_mem _ (List.mem_append_left _ (List.mem_append_left _ (List.mem_append_right _ h)))) tyX13 tyX13_ok nmX13 hown hK hP hD hS 0 rfl rfl 0 (by decide) (hts (.fieldLink RX13 48 "LastroomModel" "code" "I") (List.mem_of_getElem? (i := 1) rfl)) (fun _ h9 => h9) rfl (by decide +kernel) rfl rfl (Nat.le_of_ble_eq_true rfl) dX13_bestSize_26 (fun H locs hP hD hS => ?_)
    have hP : va_P D vwCl [(mm, .inr (17, [.int 2, .int 0, .ref l0, .ref la, .ref l1, .ref l2, .ref l3, .ref sk, .ref ab, .ref bu, .ref cu, .ref sd, .ref l4])), (l0, .inr (3, [.int 0, .ref tE, .int 0]))] H := hP
    have hD : va_D A [(mm, .inr (17, [.int 2, .int 0, .ref l0, .ref la, .ref l1, .ref l2, .ref l3, .ref sk, .ref ab, .ref bu, .ref cu, .ref sd, .ref l4])), (l0, .inr (3, [.int 0, .ref tE, .int 0]))] := hD
    refine lv_aload_n hx hb dX13_bestSize_29 rfl (lv_at hl 0 rfl) ?_
    refine va_get (D := D) (ci := 17) (v := .int 2) (C := RX13) (T := TX13) (N := 13) hx hb hts (fun w h => List.mem_cons_of_mem _ (List.mem_append_left _ (List.mem_append_left _ (List.mem_append_right _ h)))) hown hK hP 0 rfl rfl 0 (by decide) (hts (.fieldLink RX13 48 "LastroomModel" "code" "I") (List.mem_of_getElem? (i := 1) rfl)) (fun _ h9 => h9) rfl dX13_bestSize_30 ?_
    refine lv_if_ne (tgt := 50) hx hb dX13_bestSize_33 (by decide) (fun c_9 => ?_) (fun c_9 => absurd c_9 (by decide))
    refine lv_iconst (v := 0) hx hb dX13_bestSize_50 (by decide) ?_
    have hP9 := hP.sub (ws' := [(mm, .inr (17, [.int 2, .int 0, .ref l0, .ref la, .ref l1, .ref l2, .ref l3, .ref sk, .ref ab, .ref bu, .ref cu, .ref sd, .ref l4]))]) [0] rfl
    have hD9 := hD.sub (ws' := [(mm, .inr (17, [.int 2, .int 0, .ref l0, .ref la, .ref l1, .ref l2, .ref l3, .ref sk, .ref ab, .ref bu, .ref cu, .ref sd, .ref l4]))]) [0] (by decide) rfl
    have hK9 := hK.sub (tys' := []) [] rfl
    exact end_i hx hb hr hlocks hP9 hD9 hK9 hS (2, 0) rfl rfl (Or.inr ⟨by simp [h_3], rfl⟩) (Nat.le_of_ble_eq_true rfl) (Nat.le_of_ble_eq_true rfl) dX13_bestSize_51
  · subst q_4
    refine lv_if_ne (tgt := 13) hx hb dX13_bestSize_6 (by decide) (fun c_10 => absurd (by decide) c_10) (fun c_10 => ?_)
    refine lv_iconst (v := 1) hx hb dX13_bestSize_9 (by decide) ?_
    refine lv_goto (tgt := 26) hx hb dX13_bestSize_10 (by decide) ?_
    refine va_put (D := D) (ci := 17) (v := .int 1) (ty := .int) (C := RX13) (T := TX13) (N := 13) hx hb hts (fun w h => List.mem_cons_of_mem _ (List.mem_append_left _ (List.mem_append_left _ (List.mem_append_right _ h)))) tyX13 tyX13_ok nmX13 hown hK hP hD hS 0 rfl rfl 0 (by decide) (hts (.fieldLink RX13 48 "LastroomModel" "code" "I") (List.mem_of_getElem? (i := 1) rfl)) (fun _ h9 => h9) rfl (by decide +kernel) rfl rfl (Nat.le_of_ble_eq_true rfl) dX13_bestSize_26 (fun H locs hP hD hS => ?_)
    have hP : va_P D vwCl [(mm, .inr (17, [.int 1, .int 0, .ref l0, .ref la, .ref l1, .ref l2, .ref l3, .ref sk, .ref ab, .ref bu, .ref cu, .ref sd, .ref l4])), (l0, .inr (3, [.int 0, .ref tE, .int 0]))] H := hP
    have hD : va_D A [(mm, .inr (17, [.int 1, .int 0, .ref l0, .ref la, .ref l1, .ref l2, .ref l3, .ref sk, .ref ab, .ref bu, .ref cu, .ref sd, .ref l4])), (l0, .inr (3, [.int 0, .ref tE, .int 0]))] := hD
    refine lv_aload_n hx hb dX13_bestSize_29 rfl (lv_at hl 0 rfl) ?_
    refine va_get (D := D) (ci := 17) (v := .int 1) (C := RX13) (T := TX13) (N := 13) hx hb hts (fun w h => List.mem_cons_of_mem _ (List.mem_append_left _ (List.mem_append_left _ (List.mem_append_right _ h)))) hown hK hP 0 rfl rfl 0 (by decide) (hts (.fieldLink RX13 48 "LastroomModel" "code" "I") (List.mem_of_getElem? (i := 1) rfl)) (fun _ h9 => h9) rfl dX13_bestSize_30 ?_
    refine lv_if_ne (tgt := 50) hx hb dX13_bestSize_33 (by decide) (fun c_11 => ?_) (fun c_11 => absurd c_11 (by decide))
    refine lv_iconst (v := 0) hx hb dX13_bestSize_50 (by decide) ?_
    have hP9 := hP.sub (ws' := [(mm, .inr (17, [.int 1, .int 0, .ref l0, .ref la, .ref l1, .ref l2, .ref l3, .ref sk, .ref ab, .ref bu, .ref cu, .ref sd, .ref l4]))]) [0] rfl
    have hD9 := hD.sub (ws' := [(mm, .inr (17, [.int 1, .int 0, .ref l0, .ref la, .ref l1, .ref l2, .ref l3, .ref sk, .ref ab, .ref bu, .ref cu, .ref sd, .ref l4]))]) [0] (by decide) rfl
    have hK9 := hK.sub (tys' := []) [] rfl
    exact end_i hx hb hr hlocks hP9 hD9 hK9 hS (1, 0) rfl rfl (Or.inl ⟨by simp [h_3], rfl⟩) (Nat.le_of_ble_eq_true rfl) (Nat.le_of_ble_eq_true rfl) dX13_bestSize_51
set_option maxHeartbeats 4000000 in
set_option maxRecDepth 100000 in
/-- cutBy of the reference, on a fresh object -/
theorem m_cutBy (l : Launch) (D : va_G) (tC tE sz : Nat) (mm l0 l1 l2 l3 l4 la sk ab bu cu sd : Nat) (kc : ClassId) (a1 : Int32) : Met l yX13_cutBy wsX13_cutBy ({ frames := 1, cells := 0, slots := 0, locals := 22 }) (Pg D tC tE sz [(mm, .inr (17, [.int 0, .int 0, .ref l0, .ref la, .ref l1, .ref l2, .ref l3, .ref sk, .ref ab, .ref bu, .ref cu, .ref sd, .ref l4])), (cu, .inl (kc, 8, .inl (fun _ => 0)))] [(kc, .int)] [.ref mm, .int a1]) (Qgi (S := Int32 × Int32) D (fun u => [(mm, .inr (17, [.int (u.1), .int (u.2), .ref l0, .ref la, .ref l1, .ref l2, .ref l3, .ref sk, .ref ab, .ref bu, .ref cu, .ref sd, .ref l4]))]) (fun u => []) (fun r u => (rg a1 0 7 = true ∧ u.1 = 0 ∧ r = 0) ∨ (rg a1 0 7 = false ∧ u.1 = 1)) (va_A [(mm, .inr (17, [.int 0, .int 0, .ref l0, .ref la, .ref l1, .ref l2, .ref l3, .ref sk, .ref ab, .ref bu, .ref cu, .ref sd, .ref l4])), (cu, .inl (kc, 8, .inl (fun _ => 0)))] sz)) 0 0 (va_A [(mm, .inr (17, [.int 0, .int 0, .ref l0, .ref la, .ref l1, .ref l2, .ref l3, .ref sk, .ref ab, .ref bu, .ref cu, .ref sd, .ref l4])), (cu, .inl (kc, 8, .inl (fun _ => 0)))] sz) := by
  refine og_m (cc := cX13_cutBy) (maxL := 2) (ret := (some .int)) (Qc := Qgi (S := Int32 × Int32) D (fun u => [(mm, .inr (17, [.int (u.1), .int (u.2), .ref l0, .ref la, .ref l1, .ref l2, .ref l3, .ref sk, .ref ab, .ref bu, .ref cu, .ref sd, .ref l4]))]) (fun u => []) (fun r u => (rg a1 0 7 = true ∧ u.1 = 0 ∧ r = 0) ∨ (rg a1 0 7 = false ∧ u.1 = 1))) (by decide) rfl (Nat.le_of_ble_eq_true rfl) ?_
  intro p e s m below meth c A hx hb hr hml hts hown hlocks hin hP hD hK hG hA hS ls hl
  have hl : lv_has ls 2 [(0, .ref mm), (1, .int a1)] := hl
  refine lv_aload_n hx hb dX13_cutBy_0 rfl (lv_at hl 0 rfl) ?_
  refine lv_iconst (v := 0) hx hb dX13_cutBy_1 (by decide) ?_
  refine va_put (D := D) (ci := 17) (v := .int 0) (ty := .int) (C := RX13) (T := TX13) (N := 13) hx hb hts (fun w h => List.mem_cons_of_mem _ (List.mem_append_left _ (List.mem_append_right _ h))) tyX13 tyX13_ok nmX13 hown hK hP hD hS 0 rfl rfl 0 (by decide) (hts (.fieldLink RX13 48 "LastroomModel" "code" "I") (List.mem_of_getElem? (i := 1) rfl)) (fun _ h9 => h9) rfl (by decide +kernel) rfl rfl (Nat.le_of_ble_eq_true rfl) dX13_cutBy_2 (fun H locs hP hD hS => ?_)
  have hP : va_P D vwCl [(mm, .inr (17, [.int 0, .int 0, .ref l0, .ref la, .ref l1, .ref l2, .ref l3, .ref sk, .ref ab, .ref bu, .ref cu, .ref sd, .ref l4])), (cu, .inl (kc, 8, .inl (fun _ => 0)))] H := hP
  have hD : va_D A [(mm, .inr (17, [.int 0, .int 0, .ref l0, .ref la, .ref l1, .ref l2, .ref l3, .ref sk, .ref ab, .ref bu, .ref cu, .ref sd, .ref l4])), (cu, .inl (kc, 8, .inl (fun _ => 0)))] := hD
  refine lv_iload_n hx hb dX13_cutBy_5 rfl (lv_at hl 1 rfl) ?_
  refine lv_iconst (v := 0) hx hb dX13_cutBy_6 (by decide) ?_
  refine lv_bipush (v := 7) hx hb dX13_cutBy_7 (by decide) ?_
  have hFc := va_free (wc := []) hD hS hA [] rfl
  refine va_calli (va_runS (As := [.int a1, .int 0, .int 7]) (rest := []) ⟨hx, hb, hml, hown, hts⟩ (m_in l D tC tE H.size a1 0 7) (va_cwS 3 hts gX13_cutBy_X13_in rfl rfl rfl (by decide +kernel) ⟨(Nat.le_of_ble_eq_true rfl), (Nat.le_of_ble_eq_true rfl)⟩) ⟨pg_blind, (pg_pre hP hD hK hG hS hFc [] rfl (by decide) [] rfl _)⟩ rfl rfl hl.1 rfl (lv_room (Nat.le_of_ble_eq_true rfl)) dX13_cutBy_9 ⟨(Nat.le_of_ble_eq_true rfl), (Nat.le_of_ble_eq_true rfl)⟩) hS (fun q _ h => hFc q h) hFc (fun r_1 u_2 t H locs ht hvm hw hB hz1 hk1 hS => ?_)
  obtain ⟨hP, hD, hK⟩ := jn (wr := [(mm, .inr (17, [.int 0, .int 0, .ref l0, .ref la, .ref l1, .ref l2, .ref l3, .ref sk, .ref ab, .ref bu, .ref cu, .ref sd, .ref l4])), (cu, .inl (kc, 8, .inl (fun _ => 0)))]) (w1 := []) (t1 := []) (tr := [(kc, .int)]) hP hD hK [] [0, 1] rfl rfl (by decide) (by decide) [0] rfl hk1 hFc hB rfl rfl ht hvm
  have hP : va_P D vwCl [(mm, .inr (17, [.int 0, .int 0, .ref l0, .ref la, .ref l1, .ref l2, .ref l3, .ref sk, .ref ab, .ref bu, .ref cu, .ref sd, .ref l4])), (cu, .inl (kc, 8, .inl (fun _ => 0)))] H := hP
  have hD : va_D A [(mm, .inr (17, [.int 0, .int 0, .ref l0, .ref la, .ref l1, .ref l2, .ref l3, .ref sk, .ref ab, .ref bu, .ref cu, .ref sd, .ref l4])), (cu, .inl (kc, 8, .inl (fun _ => 0)))] := hD
  have hK : va_K D vwCl [(kc, .int)] s := hK
  refine W.widen (k := 0) (n := 0) (Nat.le_of_ble_eq_true rfl) (Nat.le_of_ble_eq_true rfl) ?_
  rcases hw with ⟨q_4, h_3⟩ | ⟨q_4, h_3⟩
  · subst q_4
    refine lv_if_eq (tgt := 24) hx hb dX13_cutBy_12 (by decide) (fun c_5 => absurd c_5 (show ¬ (1 : Int32) = 0 from (by decide))) (fun c_5 => ?_)
    refine lv_aload_n hx hb dX13_cutBy_15 rfl (lv_at hl 0 rfl) ?_
    refine va_get (D := D) (ci := 17) (v := .ref cu) (C := RX13) (T := TX13) (N := 13) hx hb hts (fun w h => List.mem_cons_of_mem _ (List.mem_append_left _ (List.mem_append_right _ h))) hown hK hP 0 rfl rfl 10 (by decide) (hts (.fieldLink RX13 39 "LastroomModel" "cuts" "[I") (List.mem_of_getElem? (i := 2) rfl)) (fun _ h9 => h9) rfl dX13_cutBy_16 ?_
    refine lv_iload_n hx hb dX13_cutBy_19 rfl (lv_at hl 1 rfl) ?_
    have p_6 : vp_in a1 8 := in_rg h_3 (by decide)
    refine va_iald hx hb hK hP 1 0 rfl rfl p_6 dX13_cutBy_20 ?_
    refine lv_goto (tgt := 29) hx hb dX13_cutBy_21 (by decide) ?_
    have hP9 := hP.sub (ws' := [(mm, .inr (17, [.int 0, .int 0, .ref l0, .ref la, .ref l1, .ref l2, .ref l3, .ref sk, .ref ab, .ref bu, .ref cu, .ref sd, .ref l4]))]) [0] rfl
    have hD9 := hD.sub (ws' := [(mm, .inr (17, [.int 0, .int 0, .ref l0, .ref la, .ref l1, .ref l2, .ref l3, .ref sk, .ref ab, .ref bu, .ref cu, .ref sd, .ref l4]))]) [0] (by decide) rfl
    have hK9 := hK.sub (tys' := []) [] rfl
    exact end_i hx hb hr hlocks hP9 hD9 hK9 hS (0, 0) rfl rfl (Or.inl ⟨by simp [h_3], rfl, rfl⟩) (Nat.le_of_ble_eq_true rfl) (Nat.le_of_ble_eq_true rfl) dX13_cutBy_29
  · subst q_4
    refine lv_if_eq (tgt := 24) hx hb dX13_cutBy_12 (by decide) (fun c_7 => ?_) (fun c_7 => absurd (show (0 : Int32) = 0 from (by decide)) c_7)
    refine lv_aload_n hx hb dX13_cutBy_24 rfl (lv_at hl 0 rfl) ?_
    refine lv_iconst (v := 1) hx hb dX13_cutBy_25 (by decide) ?_
    have hFc := va_free (wc := [(mm, .inr (17, [.int 0, .int 0, .ref l0, .ref la, .ref l1, .ref l2, .ref l3, .ref sk, .ref ab, .ref bu, .ref cu, .ref sd, .ref l4]))]) hD hS hA [0] rfl
    refine va_calli (va_runV (As := [.int 1]) (rest := []) ⟨hx, hb, hml, hown, hts⟩ (m_fails l D tC tE H.size mm l0 l1 l2 l3 l4 la sk ab bu cu sd 0 0 1) (cwV 1 hts gX13_cutBy_X13_fails rfl rfl rfl (by decide +kernel) ⟨(Nat.le_of_ble_eq_true rfl), (Nat.le_of_ble_eq_true rfl)⟩) ⟨pg_blind, (va_recv hK hP (ci := 17) (q0 := 0) rfl rfl), (pg_pre hP hD hK hG hS hFc [0] rfl (by decide) [] rfl _)⟩ rfl rfl hl.1 rfl (lv_room (Nat.le_of_ble_eq_true rfl)) dX13_cutBy_26 ⟨(Nat.le_of_ble_eq_true rfl), (Nat.le_of_ble_eq_true rfl)⟩) hS (fun q _ h => hFc q h) hFc (fun r_8 u_9 t H locs ht hvm hw hB hz1 hk1 hS => ?_)
    subst hw
    obtain ⟨hP, hD, hK⟩ := jn (wr := [(cu, .inl (kc, 8, .inl (fun _ => 0)))]) (w1 := [(mm, .inr (17, [.int 1, .int 0, .ref l0, .ref la, .ref l1, .ref l2, .ref l3, .ref sk, .ref ab, .ref bu, .ref cu, .ref sd, .ref l4]))]) (t1 := []) (tr := [(kc, .int)]) hP hD hK [0] [1] rfl rfl (by decide) (by decide) [0] rfl hk1 hFc hB rfl rfl ht hvm
    have hP : va_P D vwCl [(cu, .inl (kc, 8, .inl (fun _ => 0))), (mm, .inr (17, [.int 1, .int 0, .ref l0, .ref la, .ref l1, .ref l2, .ref l3, .ref sk, .ref ab, .ref bu, .ref cu, .ref sd, .ref l4]))] H := hP
    have hD : va_D A [(cu, .inl (kc, 8, .inl (fun _ => 0))), (mm, .inr (17, [.int 1, .int 0, .ref l0, .ref la, .ref l1, .ref l2, .ref l3, .ref sk, .ref ab, .ref bu, .ref cu, .ref sd, .ref l4]))] := hD
    have hK : va_K D vwCl [(kc, .int)] s := hK
    refine W.widen (k := 0) (n := 0) (Nat.le_of_ble_eq_true rfl) (Nat.le_of_ble_eq_true rfl) ?_
    have hP9 := hP.sub (ws' := [(mm, .inr (17, [.int 1, .int 0, .ref l0, .ref la, .ref l1, .ref l2, .ref l3, .ref sk, .ref ab, .ref bu, .ref cu, .ref sd, .ref l4]))]) [1] rfl
    have hD9 := hD.sub (ws' := [(mm, .inr (17, [.int 1, .int 0, .ref l0, .ref la, .ref l1, .ref l2, .ref l3, .ref sk, .ref ab, .ref bu, .ref cu, .ref sd, .ref l4]))]) [1] (by decide) rfl
    have hK9 := hK.sub (tys' := []) [] rfl
    exact end_i hx hb hr hlocks hP9 hD9 hK9 hS (1, 0) rfl rfl (Or.inr ⟨by simp [h_3], rfl⟩) (Nat.le_of_ble_eq_true rfl) (Nat.le_of_ble_eq_true rfl) dX13_cutBy_29
set_option maxHeartbeats 4000000 in
set_option maxRecDepth 100000 in
/-- setAbsent of the reference, on a fresh object -/
theorem m_setAbsent (l : Launch) (D : va_G) (tC tE sz : Nat) (mm l0 l1 l2 l3 l4 la sk ab bu cu sd : Nat) (kb : ClassId) (a1 a2 : Int32) : Met l yX13_setAbsent wsX13_setAbsent ({ frames := 1, cells := 0, slots := 0, locals := 22 }) (Pg D tC tE sz [(mm, .inr (17, [.int 0, .int 0, .ref l0, .ref la, .ref l1, .ref l2, .ref l3, .ref sk, .ref ab, .ref bu, .ref cu, .ref sd, .ref l4])), (ab, .inl (kb, 8, .inl (fun _ => 0)))] [(kb, .boolean)] [.ref mm, .int a1, .int a2]) (Qgi (S := Int32 × Int32) D (fun u => [(mm, .inr (17, [.int (u.1), .int (u.2), .ref l0, .ref la, .ref l1, .ref l2, .ref l3, .ref sk, .ref ab, .ref bu, .ref cu, .ref sd, .ref l4]))]) (fun u => []) (fun r u => (rg a1 0 7 = true ∧ u.1 = 0 ∧ r = 0) ∨ (rg a1 0 7 = false ∧ u.1 = 1)) (va_A [(mm, .inr (17, [.int 0, .int 0, .ref l0, .ref la, .ref l1, .ref l2, .ref l3, .ref sk, .ref ab, .ref bu, .ref cu, .ref sd, .ref l4])), (ab, .inl (kb, 8, .inl (fun _ => 0)))] sz)) 0 0 (va_A [(mm, .inr (17, [.int 0, .int 0, .ref l0, .ref la, .ref l1, .ref l2, .ref l3, .ref sk, .ref ab, .ref bu, .ref cu, .ref sd, .ref l4])), (ab, .inl (kb, 8, .inl (fun _ => 0)))] sz) := by
  refine og_m (cc := cX13_setAbsent) (maxL := 4) (ret := (some .boolean)) (Qc := Qgi (S := Int32 × Int32) D (fun u => [(mm, .inr (17, [.int (u.1), .int (u.2), .ref l0, .ref la, .ref l1, .ref l2, .ref l3, .ref sk, .ref ab, .ref bu, .ref cu, .ref sd, .ref l4]))]) (fun u => []) (fun r u => (rg a1 0 7 = true ∧ u.1 = 0 ∧ r = 0) ∨ (rg a1 0 7 = false ∧ u.1 = 1))) (by decide) rfl (Nat.le_of_ble_eq_true rfl) ?_
  intro p e s m below meth c A hx hb hr hml hts hown hlocks hin hP hD hK hG hA hS ls hl
  have hl : lv_has ls 4 [(0, .ref mm), (1, .int a1), (2, .int a2)] := hl
  refine lv_iload_n hx hb dX13_setAbsent_0 rfl (lv_at hl 1 rfl) ?_
  refine lv_iconst (v := 0) hx hb dX13_setAbsent_1 (by decide) ?_
  refine lv_bipush (v := 7) hx hb dX13_setAbsent_2 (by decide) ?_
  have hFc := va_free (wc := []) hD hS hA [] rfl
  refine va_calli (va_runS (As := [.int a1, .int 0, .int 7]) (rest := []) ⟨hx, hb, hml, hown, hts⟩ (m_in l D tC tE s.heap.size a1 0 7) (va_cwS 3 hts gX13_setAbsent_X13_in rfl rfl rfl (by decide +kernel) ⟨(Nat.le_of_ble_eq_true rfl), (Nat.le_of_ble_eq_true rfl)⟩) ⟨pg_blind, (pg_pre hP hD hK hG hS hFc [] rfl (by decide) [] rfl _)⟩ rfl rfl hl.1 rfl (lv_room (Nat.le_of_ble_eq_true rfl)) dX13_setAbsent_4 ⟨(Nat.le_of_ble_eq_true rfl), (Nat.le_of_ble_eq_true rfl)⟩) hS (fun q _ h => hFc q h) hFc (fun r_1 u_2 t H locs ht hvm hw hB hz1 hk1 hS => ?_)
  obtain ⟨hP, hD, hK⟩ := jn (wr := [(mm, .inr (17, [.int 0, .int 0, .ref l0, .ref la, .ref l1, .ref l2, .ref l3, .ref sk, .ref ab, .ref bu, .ref cu, .ref sd, .ref l4])), (ab, .inl (kb, 8, .inl (fun _ => 0)))]) (w1 := []) (t1 := []) (tr := [(kb, .boolean)]) hP hD hK [] [0, 1] rfl rfl (by decide) (by decide) [0] rfl hk1 hFc hB rfl rfl ht hvm
  have hP : va_P D vwCl [(mm, .inr (17, [.int 0, .int 0, .ref l0, .ref la, .ref l1, .ref l2, .ref l3, .ref sk, .ref ab, .ref bu, .ref cu, .ref sd, .ref l4])), (ab, .inl (kb, 8, .inl (fun _ => 0)))] H := hP
  have hD : va_D A [(mm, .inr (17, [.int 0, .int 0, .ref l0, .ref la, .ref l1, .ref l2, .ref l3, .ref sk, .ref ab, .ref bu, .ref cu, .ref sd, .ref l4])), (ab, .inl (kb, 8, .inl (fun _ => 0)))] := hD
  have hK : va_K D vwCl [(kb, .boolean)] s := hK
  refine W.widen (k := 0) (n := 0) (Nat.le_of_ble_eq_true rfl) (Nat.le_of_ble_eq_true rfl) ?_
  rcases hw with ⟨q_4, h_3⟩ | ⟨q_4, h_3⟩
  · subst q_4
    refine lv_if_ne (tgt := 16) hx hb dX13_setAbsent_7 (by decide) (fun c_5 => ?_) (fun c_5 => absurd c_5 (by decide))
    refine lv_aload_n hx hb dX13_setAbsent_16 rfl (lv_at hl 0 rfl) ?_
    refine lv_iconst (v := 0) hx hb dX13_setAbsent_17 (by decide) ?_
    refine va_put (D := D) (ci := 17) (v := .int 0) (ty := .int) (C := RX13) (T := TX13) (N := 13) hx hb hts (fun w h => List.mem_cons_of_mem _ (List.mem_append_left _ (List.mem_append_right _ h))) tyX13 tyX13_ok nmX13 hown hK hP hD hS 0 rfl rfl 0 (by decide) (hts (.fieldLink RX13 48 "LastroomModel" "code" "I") (List.mem_of_getElem? (i := 1) rfl)) (fun _ h9 => h9) rfl (by decide +kernel) rfl rfl (Nat.le_of_ble_eq_true rfl) dX13_setAbsent_18 (fun H locs hP hD hS => ?_)
    have hP : va_P D vwCl [(mm, .inr (17, [.int 0, .int 0, .ref l0, .ref la, .ref l1, .ref l2, .ref l3, .ref sk, .ref ab, .ref bu, .ref cu, .ref sd, .ref l4])), (ab, .inl (kb, 8, .inl (fun _ => 0)))] H := hP
    have hD : va_D A [(mm, .inr (17, [.int 0, .int 0, .ref l0, .ref la, .ref l1, .ref l2, .ref l3, .ref sk, .ref ab, .ref bu, .ref cu, .ref sd, .ref l4])), (ab, .inl (kb, 8, .inl (fun _ => 0)))] := hD
    refine lv_aload_n hx hb dX13_setAbsent_21 rfl (lv_at hl 0 rfl) ?_
    refine va_get (D := D) (ci := 17) (v := .ref ab) (C := RX13) (T := TX13) (N := 13) hx hb hts (fun w h => List.mem_cons_of_mem _ (List.mem_append_left _ (List.mem_append_right _ h))) hown hK hP 0 rfl rfl 8 (by decide) (hts (.fieldLink RX13 33 "LastroomModel" "absent" "[Z") (List.mem_of_getElem? (i := 2) rfl)) (fun _ h9 => h9) rfl dX13_setAbsent_22 ?_
    refine lv_iload_n hx hb dX13_setAbsent_25 rfl (lv_at hl 1 rfl) ?_
    have p_6 : vp_in a1 8 := in_rg h_3 (by decide)
    refine va_zald hx hb hK hP 1 0 rfl rfl p_6 dX13_setAbsent_26 ?_
    refine lv_istore_n (lv' := [(3, .int 0), (0, .ref mm), (1, .int a1), (2, .int a2)]) hx hb dX13_setAbsent_27 rfl hl (by decide) rfl (fun ls hl => ?_)
    refine lv_aload_n hx hb dX13_setAbsent_28 rfl (lv_at hl 1 rfl) ?_
    refine va_get (D := D) (ci := 17) (v := .ref ab) (C := RX13) (T := TX13) (N := 13) hx hb hts (fun w h => List.mem_cons_of_mem _ (List.mem_append_left _ (List.mem_append_right _ h))) hown hK hP 0 rfl rfl 8 (by decide) (hts (.fieldLink RX13 33 "LastroomModel" "absent" "[Z") (List.mem_of_getElem? (i := 2) rfl)) (fun _ h9 => h9) rfl dX13_setAbsent_29 ?_
    refine lv_iload_n hx hb dX13_setAbsent_32 rfl (lv_at hl 2 rfl) ?_
    refine lv_iload_n hx hb dX13_setAbsent_33 rfl (lv_at hl 3 rfl) ?_
    refine va_zast hx hb hK hP hD hS 1 0 rfl rfl p_6 dX13_setAbsent_34 (fun H locs hP hD hS => ?_)
    have hP : va_P D vwCl [(mm, .inr (17, [.int 0, .int 0, .ref l0, .ref la, .ref l1, .ref l2, .ref l3, .ref sk, .ref ab, .ref bu, .ref cu, .ref sd, .ref l4])), (ab, .inl (kb, 8, .inl (upd (fun _ => 0) a1.toNatClampNeg (vp_nar .boolean a2))))] H := hP
    have hD : va_D A [(mm, .inr (17, [.int 0, .int 0, .ref l0, .ref la, .ref l1, .ref l2, .ref l3, .ref sk, .ref ab, .ref bu, .ref cu, .ref sd, .ref l4])), (ab, .inl (kb, 8, .inl (upd (fun _ => 0) a1.toNatClampNeg (vp_nar .boolean a2))))] := hD
    refine lv_iload_n hx hb dX13_setAbsent_35 rfl (lv_at hl 0 rfl) ?_
    have hP9 := hP.sub (ws' := [(mm, .inr (17, [.int 0, .int 0, .ref l0, .ref la, .ref l1, .ref l2, .ref l3, .ref sk, .ref ab, .ref bu, .ref cu, .ref sd, .ref l4]))]) [0] rfl
    have hD9 := hD.sub (ws' := [(mm, .inr (17, [.int 0, .int 0, .ref l0, .ref la, .ref l1, .ref l2, .ref l3, .ref sk, .ref ab, .ref bu, .ref cu, .ref sd, .ref l4]))]) [0] (by decide) rfl
    have hK9 := hK.sub (tys' := []) [] rfl
    exact end_z hx hb hr hlocks (by decide) hP9 hD9 hK9 hS (0, 0) rfl rfl (Or.inl ⟨by simp [h_3], rfl, rfl⟩) (Nat.le_of_ble_eq_true rfl) (Nat.le_of_ble_eq_true rfl) dX13_setAbsent_36
  · subst q_4
    refine lv_if_ne (tgt := 16) hx hb dX13_setAbsent_7 (by decide) (fun c_7 => absurd (by decide) c_7) (fun c_7 => ?_)
    refine lv_aload_n hx hb dX13_setAbsent_10 rfl (lv_at hl 0 rfl) ?_
    refine lv_iconst (v := 1) hx hb dX13_setAbsent_11 (by decide) ?_
    have hFc := va_free (wc := [(mm, .inr (17, [.int 0, .int 0, .ref l0, .ref la, .ref l1, .ref l2, .ref l3, .ref sk, .ref ab, .ref bu, .ref cu, .ref sd, .ref l4]))]) hD hS hA [0] rfl
    refine va_calli (va_runV (As := [.int 1]) (rest := []) ⟨hx, hb, hml, hown, hts⟩ (m_failsBoolean l D tC tE H.size mm l0 l1 l2 l3 l4 la sk ab bu cu sd 0 0 1) (cwV 1 hts gX13_setAbsent_X13_failsBoolean rfl rfl rfl (by decide +kernel) ⟨(Nat.le_of_ble_eq_true rfl), (Nat.le_of_ble_eq_true rfl)⟩) ⟨pg_blind, (va_recv hK hP (ci := 17) (q0 := 0) rfl rfl), (pg_pre hP hD hK hG hS hFc [0] rfl (by decide) [] rfl _)⟩ rfl rfl hl.1 rfl (lv_room (Nat.le_of_ble_eq_true rfl)) dX13_setAbsent_12 ⟨(Nat.le_of_ble_eq_true rfl), (Nat.le_of_ble_eq_true rfl)⟩) hS (fun q _ h => hFc q h) hFc (fun r_8 u_9 t H locs ht hvm hw hB hz1 hk1 hS => ?_)
    subst hw
    obtain ⟨hP, hD, hK⟩ := jn (wr := [(ab, .inl (kb, 8, .inl (fun _ => 0)))]) (w1 := [(mm, .inr (17, [.int 1, .int 0, .ref l0, .ref la, .ref l1, .ref l2, .ref l3, .ref sk, .ref ab, .ref bu, .ref cu, .ref sd, .ref l4]))]) (t1 := []) (tr := [(kb, .boolean)]) hP hD hK [0] [1] rfl rfl (by decide) (by decide) [0] rfl hk1 hFc hB rfl rfl ht hvm
    have hP : va_P D vwCl [(ab, .inl (kb, 8, .inl (fun _ => 0))), (mm, .inr (17, [.int 1, .int 0, .ref l0, .ref la, .ref l1, .ref l2, .ref l3, .ref sk, .ref ab, .ref bu, .ref cu, .ref sd, .ref l4]))] H := hP
    have hD : va_D A [(ab, .inl (kb, 8, .inl (fun _ => 0))), (mm, .inr (17, [.int 1, .int 0, .ref l0, .ref la, .ref l1, .ref l2, .ref l3, .ref sk, .ref ab, .ref bu, .ref cu, .ref sd, .ref l4]))] := hD
    have hK : va_K D vwCl [(kb, .boolean)] s := hK
    refine W.widen (k := 0) (n := 0) (Nat.le_of_ble_eq_true rfl) (Nat.le_of_ble_eq_true rfl) ?_
    have hP9 := hP.sub (ws' := [(mm, .inr (17, [.int 1, .int 0, .ref l0, .ref la, .ref l1, .ref l2, .ref l3, .ref sk, .ref ab, .ref bu, .ref cu, .ref sd, .ref l4]))]) [1] rfl
    have hD9 := hD.sub (ws' := [(mm, .inr (17, [.int 1, .int 0, .ref l0, .ref la, .ref l1, .ref l2, .ref l3, .ref sk, .ref ab, .ref bu, .ref cu, .ref sd, .ref l4]))]) [1] (by decide) rfl
    have hK9 := hK.sub (tys' := []) [] rfl
    exact end_z hx hb hr hlocks (by decide) hP9 hD9 hK9 hS (1, 0) rfl rfl (Or.inr ⟨by simp [h_3], rfl⟩) (Nat.le_of_ble_eq_true rfl) (Nat.le_of_ble_eq_true rfl) dX13_setAbsent_15
set_option maxHeartbeats 4000000 in
set_option maxRecDepth 100000 in
/-- setSkill of the reference, on a fresh object -/
theorem m_setSkill (l : Launch) (D : va_G) (tC tE sz : Nat) (mm l0 l1 l2 l3 l4 la sk ab bu cu sd : Nat) (kq : ClassId) (a1 a2 a3 : Int32) : Met l yX13_setSkill wsX13_setSkill ({ frames := 1, cells := 0, slots := 0, locals := 22 }) (Pg D tC tE sz [(mm, .inr (17, [.int 0, .int 0, .ref l0, .ref la, .ref l1, .ref l2, .ref l3, .ref sk, .ref ab, .ref bu, .ref cu, .ref sd, .ref l4])), (sk, .inl (kq, 32, .inl (fun _ => 0)))] [(kq, .boolean)] [.ref mm, .int a1, .int a2, .int a3]) (Qgi (S := Int32 × Int32) D (fun u => [(mm, .inr (17, [.int (u.1), .int (u.2), .ref l0, .ref la, .ref l1, .ref l2, .ref l3, .ref sk, .ref ab, .ref bu, .ref cu, .ref sd, .ref l4]))]) (fun u => []) (fun r u => (rg a1 0 7 = false ∧ u.1 = 1) ∨ (rg a1 0 7 = true ∧ rg a2 0 3 = false ∧ u.1 = 2) ∨ (rg a1 0 7 = true ∧ rg a2 0 3 = true ∧ u.1 = 0 ∧ r = 0)) (va_A [(mm, .inr (17, [.int 0, .int 0, .ref l0, .ref la, .ref l1, .ref l2, .ref l3, .ref sk, .ref ab, .ref bu, .ref cu, .ref sd, .ref l4])), (sk, .inl (kq, 32, .inl (fun _ => 0)))] sz)) 0 0 (va_A [(mm, .inr (17, [.int 0, .int 0, .ref l0, .ref la, .ref l1, .ref l2, .ref l3, .ref sk, .ref ab, .ref bu, .ref cu, .ref sd, .ref l4])), (sk, .inl (kq, 32, .inl (fun _ => 0)))] sz) := by
  refine og_m (cc := cX13_setSkill) (maxL := 5) (ret := (some .boolean)) (Qc := Qgi (S := Int32 × Int32) D (fun u => [(mm, .inr (17, [.int (u.1), .int (u.2), .ref l0, .ref la, .ref l1, .ref l2, .ref l3, .ref sk, .ref ab, .ref bu, .ref cu, .ref sd, .ref l4]))]) (fun u => []) (fun r u => (rg a1 0 7 = false ∧ u.1 = 1) ∨ (rg a1 0 7 = true ∧ rg a2 0 3 = false ∧ u.1 = 2) ∨ (rg a1 0 7 = true ∧ rg a2 0 3 = true ∧ u.1 = 0 ∧ r = 0))) (by decide) rfl (Nat.le_of_ble_eq_true rfl) ?_
  intro p e s m below meth c A hx hb hr hml hts hown hlocks hin hP hD hK hG hA hS ls hl
  have hl : lv_has ls 5 [(0, .ref mm), (1, .int a1), (2, .int a2), (3, .int a3)] := hl
  refine lv_aload_n hx hb dX13_setSkill_0 rfl (lv_at hl 0 rfl) ?_
  refine lv_iload_n hx hb dX13_setSkill_1 rfl (lv_at hl 1 rfl) ?_
  refine lv_iconst (v := 0) hx hb dX13_setSkill_2 (by decide) ?_
  refine lv_bipush (v := 7) hx hb dX13_setSkill_3 (by decide) ?_
  have hFc := va_free (wc := []) hD hS hA [] rfl
  refine va_calli (va_runS (As := [.int a1, .int 0, .int 7]) (rest := [.ref mm]) ⟨hx, hb, hml, hown, hts⟩ (m_in l D tC tE s.heap.size a1 0 7) (va_cwS 3 hts gX13_setSkill_X13_in rfl rfl rfl (by decide +kernel) ⟨(Nat.le_of_ble_eq_true rfl), (Nat.le_of_ble_eq_true rfl)⟩) ⟨pg_blind, (pg_pre hP hD hK hG hS hFc [] rfl (by decide) [] rfl _)⟩ rfl rfl hl.1 rfl (lv_room (Nat.le_of_ble_eq_true rfl)) dX13_setSkill_5 ⟨(Nat.le_of_ble_eq_true rfl), (Nat.le_of_ble_eq_true rfl)⟩) hS (fun q _ h => hFc q h) hFc (fun r_1 u_2 t H locs ht hvm hw hB hz1 hk1 hS => ?_)
  obtain ⟨hP, hD, hK⟩ := jn (wr := [(mm, .inr (17, [.int 0, .int 0, .ref l0, .ref la, .ref l1, .ref l2, .ref l3, .ref sk, .ref ab, .ref bu, .ref cu, .ref sd, .ref l4])), (sk, .inl (kq, 32, .inl (fun _ => 0)))]) (w1 := []) (t1 := []) (tr := [(kq, .boolean)]) hP hD hK [] [0, 1] rfl rfl (by decide) (by decide) [0] rfl hk1 hFc hB rfl rfl ht hvm
  have hP : va_P D vwCl [(mm, .inr (17, [.int 0, .int 0, .ref l0, .ref la, .ref l1, .ref l2, .ref l3, .ref sk, .ref ab, .ref bu, .ref cu, .ref sd, .ref l4])), (sk, .inl (kq, 32, .inl (fun _ => 0)))] H := hP
  have hD : va_D A [(mm, .inr (17, [.int 0, .int 0, .ref l0, .ref la, .ref l1, .ref l2, .ref l3, .ref sk, .ref ab, .ref bu, .ref cu, .ref sd, .ref l4])), (sk, .inl (kq, 32, .inl (fun _ => 0)))] := hD
  have hK : va_K D vwCl [(kq, .boolean)] s := hK
  refine W.widen (k := 0) (n := 0) (Nat.le_of_ble_eq_true rfl) (Nat.le_of_ble_eq_true rfl) ?_
  rcases hw with ⟨q_4, h_3⟩ | ⟨q_4, h_3⟩
  · subst q_4
    refine lv_if_ne (tgt := 15) hx hb dX13_setSkill_8 (by decide) (fun c_5 => ?_) (fun c_5 => absurd c_5 (by decide))
    refine lv_iload_n hx hb dX13_setSkill_15 rfl (lv_at hl 2 rfl) ?_
    refine lv_iconst (v := 0) hx hb dX13_setSkill_16 (by decide) ?_
    refine lv_iconst (v := 3) hx hb dX13_setSkill_17 (by decide) ?_
    have hFc := va_free (wc := []) hD hS hA [] rfl
    refine va_calli (va_runS (As := [.int a2, .int 0, .int 3]) (rest := [.ref mm]) ⟨hx, hb, hml, hown, hts⟩ (m_in l D tC tE H.size a2 0 3) (va_cwS 3 hts gX13_setSkill_X13_in rfl rfl rfl (by decide +kernel) ⟨(Nat.le_of_ble_eq_true rfl), (Nat.le_of_ble_eq_true rfl)⟩) ⟨pg_blind, (pg_pre hP hD hK hG hS hFc [] rfl (by decide) [] rfl _)⟩ rfl rfl hl.1 rfl (lv_room (Nat.le_of_ble_eq_true rfl)) dX13_setSkill_18 ⟨(Nat.le_of_ble_eq_true rfl), (Nat.le_of_ble_eq_true rfl)⟩) hS (fun q _ h => hFc q h) hFc (fun r_6 u_7 t H locs ht hvm hw hB hz1 hk1 hS => ?_)
    obtain ⟨hP, hD, hK⟩ := jn (wr := [(mm, .inr (17, [.int 0, .int 0, .ref l0, .ref la, .ref l1, .ref l2, .ref l3, .ref sk, .ref ab, .ref bu, .ref cu, .ref sd, .ref l4])), (sk, .inl (kq, 32, .inl (fun _ => 0)))]) (w1 := []) (t1 := []) (tr := [(kq, .boolean)]) hP hD hK [] [0, 1] rfl rfl (by decide) (by decide) [0] rfl hk1 hFc hB rfl rfl ht hvm
    have hP : va_P D vwCl [(mm, .inr (17, [.int 0, .int 0, .ref l0, .ref la, .ref l1, .ref l2, .ref l3, .ref sk, .ref ab, .ref bu, .ref cu, .ref sd, .ref l4])), (sk, .inl (kq, 32, .inl (fun _ => 0)))] H := hP
    have hD : va_D A [(mm, .inr (17, [.int 0, .int 0, .ref l0, .ref la, .ref l1, .ref l2, .ref l3, .ref sk, .ref ab, .ref bu, .ref cu, .ref sd, .ref l4])), (sk, .inl (kq, 32, .inl (fun _ => 0)))] := hD
    have hK : va_K D vwCl [(kq, .boolean)] s := hK
    refine W.widen (k := 0) (n := 0) (Nat.le_of_ble_eq_true rfl) (Nat.le_of_ble_eq_true rfl) ?_
    rcases hw with ⟨q_9, h_8⟩ | ⟨q_9, h_8⟩
    · subst q_9
      refine lv_if_ne (tgt := 28) hx hb dX13_setSkill_21 (by decide) (fun c_10 => ?_) (fun c_10 => absurd c_10 (by decide))
      refine lv_iconst (v := 0) hx hb dX13_setSkill_28 (by decide) ?_
      refine va_put (D := D) (ci := 17) (v := .int 0) (ty := .int) (C := RX13) (T := TX13) (N := 13) hx hb hts (fun w h => List.mem_cons_of_mem _ (List.mem_append_left _ (List.mem_append_right _ h))) tyX13 tyX13_ok nmX13 hown hK hP hD hS 0 rfl rfl 0 (by decide) (hts (.fieldLink RX13 48 "LastroomModel" "code" "I") (List.mem_of_getElem? (i := 1) rfl)) (fun _ h9 => h9) rfl (by decide +kernel) rfl rfl (Nat.le_of_ble_eq_true rfl) dX13_setSkill_29 (fun H locs hP hD hS => ?_)
      have hP : va_P D vwCl [(mm, .inr (17, [.int 0, .int 0, .ref l0, .ref la, .ref l1, .ref l2, .ref l3, .ref sk, .ref ab, .ref bu, .ref cu, .ref sd, .ref l4])), (sk, .inl (kq, 32, .inl (fun _ => 0)))] H := hP
      have hD : va_D A [(mm, .inr (17, [.int 0, .int 0, .ref l0, .ref la, .ref l1, .ref l2, .ref l3, .ref sk, .ref ab, .ref bu, .ref cu, .ref sd, .ref l4])), (sk, .inl (kq, 32, .inl (fun _ => 0)))] := hD
      refine lv_aload_n hx hb dX13_setSkill_32 rfl (lv_at hl 0 rfl) ?_
      refine va_get (D := D) (ci := 17) (v := .int 0) (C := RX13) (T := TX13) (N := 13) hx hb hts (fun w h => List.mem_cons_of_mem _ (List.mem_append_left _ (List.mem_append_right _ h))) hown hK hP 0 rfl rfl 0 (by decide) (hts (.fieldLink RX13 48 "LastroomModel" "code" "I") (List.mem_of_getElem? (i := 1) rfl)) (fun _ h9 => h9) rfl dX13_setSkill_33 ?_
      refine lv_if_le (tgt := 41) hx hb dX13_setSkill_36 (by decide) (fun c_11 => ?_) (fun c_11 => absurd (show (0 : Int32) ≤ 0 from (by decide)) c_11)
      refine lv_aload_n hx hb dX13_setSkill_41 rfl (lv_at hl 0 rfl) ?_
      refine va_get (D := D) (ci := 17) (v := .ref sk) (C := RX13) (T := TX13) (N := 13) hx hb hts (fun w h => List.mem_cons_of_mem _ (List.mem_append_left _ (List.mem_append_right _ h))) hown hK hP 0 rfl rfl 7 (by decide) (hts (.fieldLink RX13 29 "LastroomModel" "skills" "[Z") (List.mem_of_getElem? (i := 2) rfl)) (fun _ h9 => h9) rfl dX13_setSkill_42 ?_
      refine lv_iconst (v := 4) hx hb dX13_setSkill_45 (by decide) ?_
      refine lv_iload_n hx hb dX13_setSkill_46 rfl (lv_at hl 1 rfl) ?_
      refine lv_imul hx hb dX13_setSkill_47 ?_
      refine lv_iload_n hx hb dX13_setSkill_48 rfl (lv_at hl 2 rfl) ?_
      refine lv_iadd hx hb dX13_setSkill_49 ?_
      have p_12 : vp_in (((4 : Int32) * a1) + a2) 32 := in_rg4 h_3 h_8
      refine va_zald hx hb hK hP 1 0 rfl rfl p_12 dX13_setSkill_50 ?_
      refine lv_istore (lv' := [(4, .int 0), (0, .ref mm), (1, .int a1), (2, .int a2), (3, .int a3)]) hx hb dX13_setSkill_51 hl (by decide) rfl (fun ls hl => ?_)
      refine lv_aload_n hx hb dX13_setSkill_53 rfl (lv_at hl 1 rfl) ?_
      refine va_get (D := D) (ci := 17) (v := .ref sk) (C := RX13) (T := TX13) (N := 13) hx hb hts (fun w h => List.mem_cons_of_mem _ (List.mem_append_left _ (List.mem_append_right _ h))) hown hK hP 0 rfl rfl 7 (by decide) (hts (.fieldLink RX13 29 "LastroomModel" "skills" "[Z") (List.mem_of_getElem? (i := 2) rfl)) (fun _ h9 => h9) rfl dX13_setSkill_54 ?_
      refine lv_iconst (v := 4) hx hb dX13_setSkill_57 (by decide) ?_
      refine lv_iload_n hx hb dX13_setSkill_58 rfl (lv_at hl 2 rfl) ?_
      refine lv_imul hx hb dX13_setSkill_59 ?_
      refine lv_iload_n hx hb dX13_setSkill_60 rfl (lv_at hl 3 rfl) ?_
      refine lv_iadd hx hb dX13_setSkill_61 ?_
      refine lv_iload_n hx hb dX13_setSkill_62 rfl (lv_at hl 4 rfl) ?_
      refine va_zast hx hb hK hP hD hS 1 0 rfl rfl p_12 dX13_setSkill_63 (fun H locs hP hD hS => ?_)
      have hP : va_P D vwCl [(mm, .inr (17, [.int 0, .int 0, .ref l0, .ref la, .ref l1, .ref l2, .ref l3, .ref sk, .ref ab, .ref bu, .ref cu, .ref sd, .ref l4])), (sk, .inl (kq, 32, .inl (upd (fun _ => 0) (((4 : Int32) * a1) + a2).toNatClampNeg (vp_nar .boolean a3))))] H := hP
      have hD : va_D A [(mm, .inr (17, [.int 0, .int 0, .ref l0, .ref la, .ref l1, .ref l2, .ref l3, .ref sk, .ref ab, .ref bu, .ref cu, .ref sd, .ref l4])), (sk, .inl (kq, 32, .inl (upd (fun _ => 0) (((4 : Int32) * a1) + a2).toNatClampNeg (vp_nar .boolean a3))))] := hD
      refine lv_iload hx hb dX13_setSkill_64 (lv_at hl 0 rfl) ?_
      have hP9 := hP.sub (ws' := [(mm, .inr (17, [.int 0, .int 0, .ref l0, .ref la, .ref l1, .ref l2, .ref l3, .ref sk, .ref ab, .ref bu, .ref cu, .ref sd, .ref l4]))]) [0] rfl
      have hD9 := hD.sub (ws' := [(mm, .inr (17, [.int 0, .int 0, .ref l0, .ref la, .ref l1, .ref l2, .ref l3, .ref sk, .ref ab, .ref bu, .ref cu, .ref sd, .ref l4]))]) [0] (by decide) rfl
      have hK9 := hK.sub (tys' := []) [] rfl
      exact end_z hx hb hr hlocks (by decide) hP9 hD9 hK9 hS (0, 0) rfl rfl (Or.inr (Or.inr ⟨h_3, h_8, rfl, rfl⟩)) (Nat.le_of_ble_eq_true rfl) (Nat.le_of_ble_eq_true rfl) dX13_setSkill_66
    · subst q_9
      refine lv_if_ne (tgt := 28) hx hb dX13_setSkill_21 (by decide) (fun c_13 => absurd (by decide) c_13) (fun c_13 => ?_)
      refine lv_iconst (v := 2) hx hb dX13_setSkill_24 (by decide) ?_
      refine lv_goto (tgt := 29) hx hb dX13_setSkill_25 (by decide) ?_
      refine va_put (D := D) (ci := 17) (v := .int 2) (ty := .int) (C := RX13) (T := TX13) (N := 13) hx hb hts (fun w h => List.mem_cons_of_mem _ (List.mem_append_left _ (List.mem_append_right _ h))) tyX13 tyX13_ok nmX13 hown hK hP hD hS 0 rfl rfl 0 (by decide) (hts (.fieldLink RX13 48 "LastroomModel" "code" "I") (List.mem_of_getElem? (i := 1) rfl)) (fun _ h9 => h9) rfl (by decide +kernel) rfl rfl (Nat.le_of_ble_eq_true rfl) dX13_setSkill_29 (fun H locs hP hD hS => ?_)
      have hP : va_P D vwCl [(mm, .inr (17, [.int 2, .int 0, .ref l0, .ref la, .ref l1, .ref l2, .ref l3, .ref sk, .ref ab, .ref bu, .ref cu, .ref sd, .ref l4])), (sk, .inl (kq, 32, .inl (fun _ => 0)))] H := hP
      have hD : va_D A [(mm, .inr (17, [.int 2, .int 0, .ref l0, .ref la, .ref l1, .ref l2, .ref l3, .ref sk, .ref ab, .ref bu, .ref cu, .ref sd, .ref l4])), (sk, .inl (kq, 32, .inl (fun _ => 0)))] := hD
      refine lv_aload_n hx hb dX13_setSkill_32 rfl (lv_at hl 0 rfl) ?_
      refine va_get (D := D) (ci := 17) (v := .int 2) (C := RX13) (T := TX13) (N := 13) hx hb hts (fun w h => List.mem_cons_of_mem _ (List.mem_append_left _ (List.mem_append_right _ h))) hown hK hP 0 rfl rfl 0 (by decide) (hts (.fieldLink RX13 48 "LastroomModel" "code" "I") (List.mem_of_getElem? (i := 1) rfl)) (fun _ h9 => h9) rfl dX13_setSkill_33 ?_
      refine lv_if_le (tgt := 41) hx hb dX13_setSkill_36 (by decide) (fun c_14 => absurd c_14 (show ¬ (2 : Int32) ≤ 0 from (by decide))) (fun c_14 => ?_)
      refine lv_iconst (v := 0) hx hb dX13_setSkill_39 (by decide) ?_
      have hP9 := hP.sub (ws' := [(mm, .inr (17, [.int 2, .int 0, .ref l0, .ref la, .ref l1, .ref l2, .ref l3, .ref sk, .ref ab, .ref bu, .ref cu, .ref sd, .ref l4]))]) [0] rfl
      have hD9 := hD.sub (ws' := [(mm, .inr (17, [.int 2, .int 0, .ref l0, .ref la, .ref l1, .ref l2, .ref l3, .ref sk, .ref ab, .ref bu, .ref cu, .ref sd, .ref l4]))]) [0] (by decide) rfl
      have hK9 := hK.sub (tys' := []) [] rfl
      exact end_z hx hb hr hlocks (by decide) hP9 hD9 hK9 hS (2, 0) rfl rfl (Or.inr (Or.inl ⟨h_3, h_8, rfl⟩)) (Nat.le_of_ble_eq_true rfl) (Nat.le_of_ble_eq_true rfl) dX13_setSkill_40
  · subst q_4
    refine lv_if_ne (tgt := 15) hx hb dX13_setSkill_8 (by decide) (fun c_15 => absurd (by decide) c_15) (fun c_15 => ?_)
    refine lv_iconst (v := 1) hx hb dX13_setSkill_11 (by decide) ?_
    refine lv_goto (tgt := 29) hx hb dX13_setSkill_12 (by decide) ?_
    refine va_put (D := D) (ci := 17) (v := .int 1) (ty := .int) (C := RX13) (T := TX13) (N := 13) hx hb hts (fun w h => List.mem_cons_of_mem _ (List.mem_append_left _ (List.mem_append_right _ h))) tyX13 tyX13_ok nmX13 hown hK hP hD hS 0 rfl rfl 0 (by decide) (hts (.fieldLink RX13 48 "LastroomModel" "code" "I") (List.mem_of_getElem? (i := 1) rfl)) (fun _ h9 => h9) rfl (by decide +kernel) rfl rfl (Nat.le_of_ble_eq_true rfl) dX13_setSkill_29 (fun H locs hP hD hS => ?_)
    have hP : va_P D vwCl [(mm, .inr (17, [.int 1, .int 0, .ref l0, .ref la, .ref l1, .ref l2, .ref l3, .ref sk, .ref ab, .ref bu, .ref cu, .ref sd, .ref l4])), (sk, .inl (kq, 32, .inl (fun _ => 0)))] H := hP
    have hD : va_D A [(mm, .inr (17, [.int 1, .int 0, .ref l0, .ref la, .ref l1, .ref l2, .ref l3, .ref sk, .ref ab, .ref bu, .ref cu, .ref sd, .ref l4])), (sk, .inl (kq, 32, .inl (fun _ => 0)))] := hD
    refine lv_aload_n hx hb dX13_setSkill_32 rfl (lv_at hl 0 rfl) ?_
    refine va_get (D := D) (ci := 17) (v := .int 1) (C := RX13) (T := TX13) (N := 13) hx hb hts (fun w h => List.mem_cons_of_mem _ (List.mem_append_left _ (List.mem_append_right _ h))) hown hK hP 0 rfl rfl 0 (by decide) (hts (.fieldLink RX13 48 "LastroomModel" "code" "I") (List.mem_of_getElem? (i := 1) rfl)) (fun _ h9 => h9) rfl dX13_setSkill_33 ?_
    refine lv_if_le (tgt := 41) hx hb dX13_setSkill_36 (by decide) (fun c_16 => absurd c_16 (show ¬ (1 : Int32) ≤ 0 from (by decide))) (fun c_16 => ?_)
    refine lv_iconst (v := 0) hx hb dX13_setSkill_39 (by decide) ?_
    have hP9 := hP.sub (ws' := [(mm, .inr (17, [.int 1, .int 0, .ref l0, .ref la, .ref l1, .ref l2, .ref l3, .ref sk, .ref ab, .ref bu, .ref cu, .ref sd, .ref l4]))]) [0] rfl
    have hD9 := hD.sub (ws' := [(mm, .inr (17, [.int 1, .int 0, .ref l0, .ref la, .ref l1, .ref l2, .ref l3, .ref sk, .ref ab, .ref bu, .ref cu, .ref sd, .ref l4]))]) [0] (by decide) rfl
    have hK9 := hK.sub (tys' := []) [] rfl
    exact end_z hx hb hr hlocks (by decide) hP9 hD9 hK9 hS (1, 0) rfl rfl (Or.inl ⟨h_3, rfl⟩) (Nat.le_of_ble_eq_true rfl) (Nat.le_of_ble_eq_true rfl) dX13_setSkill_40
set_option maxHeartbeats 4000000 in
set_option maxRecDepth 100000 in
/-- setStand of the reference, on a fresh object -/
theorem m_setStand (l : Launch) (D : va_G) (tC tE sz : Nat) (mm l0 l1 l2 l3 l4 la sk ab bu cu sd : Nat) (kd : ClassId) (fs : Nat → Int32) (hfs : ∀ j : Nat, j < 5 → fs j = 30) (a1 a2 : Int32) : Met l yX13_setStand wsX13_setStand ({ frames := 1, cells := 0, slots := 0, locals := 22 }) (Pg D tC tE sz [(mm, .inr (17, [.int 0, .int 0, .ref l0, .ref la, .ref l1, .ref l2, .ref l3, .ref sk, .ref ab, .ref bu, .ref cu, .ref sd, .ref l4])), (sd, .inl (kd, 5, .inl fs))] [(kd, .int)] [.ref mm, .int a1, .int a2]) (Qgi (S := Int32 × Int32) D (fun u => [(mm, .inr (17, [.int (u.1), .int (u.2), .ref l0, .ref la, .ref l1, .ref l2, .ref l3, .ref sk, .ref ab, .ref bu, .ref cu, .ref sd, .ref l4]))]) (fun u => []) (fun r u => (standB a1 a2 = true ∧ u.1 = 0 ∧ r = 30) ∨ (standB a1 a2 = false ∧ u.1 = 1)) (va_A [(mm, .inr (17, [.int 0, .int 0, .ref l0, .ref la, .ref l1, .ref l2, .ref l3, .ref sk, .ref ab, .ref bu, .ref cu, .ref sd, .ref l4])), (sd, .inl (kd, 5, .inl fs))] sz)) 0 0 (va_A [(mm, .inr (17, [.int 0, .int 0, .ref l0, .ref la, .ref l1, .ref l2, .ref l3, .ref sk, .ref ab, .ref bu, .ref cu, .ref sd, .ref l4])), (sd, .inl (kd, 5, .inl fs))] sz) := by
  refine og_m (cc := cX13_setStand) (maxL := 4) (ret := (some .int)) (Qc := Qgi (S := Int32 × Int32) D (fun u => [(mm, .inr (17, [.int (u.1), .int (u.2), .ref l0, .ref la, .ref l1, .ref l2, .ref l3, .ref sk, .ref ab, .ref bu, .ref cu, .ref sd, .ref l4]))]) (fun u => []) (fun r u => (standB a1 a2 = true ∧ u.1 = 0 ∧ r = 30) ∨ (standB a1 a2 = false ∧ u.1 = 1))) (by decide) rfl (Nat.le_of_ble_eq_true rfl) ?_
  intro p e s m below meth c A hx hb hr hml hts hown hlocks hin hP hD hK hG hA hS ls hl
  have hl : lv_has ls 4 [(0, .ref mm), (1, .int a1), (2, .int a2)] := hl
  refine lv_aload_n hx hb dX13_setStand_0 rfl (lv_at hl 0 rfl) ?_
  refine lv_iconst (v := 0) hx hb dX13_setStand_1 (by decide) ?_
  refine va_put (D := D) (ci := 17) (v := .int 0) (ty := .int) (C := RX13) (T := TX13) (N := 13) hx hb hts (fun w h => List.mem_cons_of_mem _ (List.mem_append_left _ (List.mem_append_right _ h))) tyX13 tyX13_ok nmX13 hown hK hP hD hS 0 rfl rfl 0 (by decide) (hts (.fieldLink RX13 48 "LastroomModel" "code" "I") (List.mem_of_getElem? (i := 1) rfl)) (fun _ h9 => h9) rfl (by decide +kernel) rfl rfl (Nat.le_of_ble_eq_true rfl) dX13_setStand_2 (fun H locs hP hD hS => ?_)
  have hP : va_P D vwCl [(mm, .inr (17, [.int 0, .int 0, .ref l0, .ref la, .ref l1, .ref l2, .ref l3, .ref sk, .ref ab, .ref bu, .ref cu, .ref sd, .ref l4])), (sd, .inl (kd, 5, .inl fs))] H := hP
  have hD : va_D A [(mm, .inr (17, [.int 0, .int 0, .ref l0, .ref la, .ref l1, .ref l2, .ref l3, .ref sk, .ref ab, .ref bu, .ref cu, .ref sd, .ref l4])), (sd, .inl (kd, 5, .inl fs))] := hD
  refine lv_iload_n hx hb dX13_setStand_5 rfl (lv_at hl 1 rfl) ?_
  refine lv_iconst (v := 0) hx hb dX13_setStand_6 (by decide) ?_
  refine lv_iconst (v := 4) hx hb dX13_setStand_7 (by decide) ?_
  have hFc := va_free (wc := []) hD hS hA [] rfl
  refine va_calli (va_runS (As := [.int a1, .int 0, .int 4]) (rest := []) ⟨hx, hb, hml, hown, hts⟩ (m_in l D tC tE H.size a1 0 4) (va_cwS 3 hts gX13_setStand_X13_in rfl rfl rfl (by decide +kernel) ⟨(Nat.le_of_ble_eq_true rfl), (Nat.le_of_ble_eq_true rfl)⟩) ⟨pg_blind, (pg_pre hP hD hK hG hS hFc [] rfl (by decide) [] rfl _)⟩ rfl rfl hl.1 rfl (lv_room (Nat.le_of_ble_eq_true rfl)) dX13_setStand_8 ⟨(Nat.le_of_ble_eq_true rfl), (Nat.le_of_ble_eq_true rfl)⟩) hS (fun q _ h => hFc q h) hFc (fun r_1 u_2 t H locs ht hvm hw hB hz1 hk1 hS => ?_)
  obtain ⟨hP, hD, hK⟩ := jn (wr := [(mm, .inr (17, [.int 0, .int 0, .ref l0, .ref la, .ref l1, .ref l2, .ref l3, .ref sk, .ref ab, .ref bu, .ref cu, .ref sd, .ref l4])), (sd, .inl (kd, 5, .inl fs))]) (w1 := []) (t1 := []) (tr := [(kd, .int)]) hP hD hK [] [0, 1] rfl rfl (by decide) (by decide) [0] rfl hk1 hFc hB rfl rfl ht hvm
  have hP : va_P D vwCl [(mm, .inr (17, [.int 0, .int 0, .ref l0, .ref la, .ref l1, .ref l2, .ref l3, .ref sk, .ref ab, .ref bu, .ref cu, .ref sd, .ref l4])), (sd, .inl (kd, 5, .inl fs))] H := hP
  have hD : va_D A [(mm, .inr (17, [.int 0, .int 0, .ref l0, .ref la, .ref l1, .ref l2, .ref l3, .ref sk, .ref ab, .ref bu, .ref cu, .ref sd, .ref l4])), (sd, .inl (kd, 5, .inl fs))] := hD
  have hK : va_K D vwCl [(kd, .int)] s := hK
  refine W.widen (k := 0) (n := 0) (Nat.le_of_ble_eq_true rfl) (Nat.le_of_ble_eq_true rfl) ?_
  rcases hw with ⟨q_4, h_3⟩ | ⟨q_4, h_3⟩
  · subst q_4
    refine lv_if_eq (tgt := 25) hx hb dX13_setStand_11 (by decide) (fun c_5 => absurd c_5 (show ¬ (1 : Int32) = 0 from (by decide))) (fun c_5 => ?_)
    refine lv_iload_n hx hb dX13_setStand_14 rfl (lv_at hl 2 rfl) ?_
    refine lv_iconst (v := 1) hx hb dX13_setStand_15 (by decide) ?_
    refine lv_sipush (v := 240) hx hb dX13_setStand_16 (by decide) ?_
    have hFc := va_free (wc := []) hD hS hA [] rfl
    refine va_calli (va_runS (As := [.int a2, .int 1, .int 240]) (rest := []) ⟨hx, hb, hml, hown, hts⟩ (m_in l D tC tE H.size a2 1 240) (va_cwS 3 hts gX13_setStand_X13_in rfl rfl rfl (by decide +kernel) ⟨(Nat.le_of_ble_eq_true rfl), (Nat.le_of_ble_eq_true rfl)⟩) ⟨pg_blind, (pg_pre hP hD hK hG hS hFc [] rfl (by decide) [] rfl _)⟩ rfl rfl hl.1 rfl (lv_room (Nat.le_of_ble_eq_true rfl)) dX13_setStand_19 ⟨(Nat.le_of_ble_eq_true rfl), (Nat.le_of_ble_eq_true rfl)⟩) hS (fun q _ h => hFc q h) hFc (fun r_6 u_7 t H locs ht hvm hw hB hz1 hk1 hS => ?_)
    obtain ⟨hP, hD, hK⟩ := jn (wr := [(mm, .inr (17, [.int 0, .int 0, .ref l0, .ref la, .ref l1, .ref l2, .ref l3, .ref sk, .ref ab, .ref bu, .ref cu, .ref sd, .ref l4])), (sd, .inl (kd, 5, .inl fs))]) (w1 := []) (t1 := []) (tr := [(kd, .int)]) hP hD hK [] [0, 1] rfl rfl (by decide) (by decide) [0] rfl hk1 hFc hB rfl rfl ht hvm
    have hP : va_P D vwCl [(mm, .inr (17, [.int 0, .int 0, .ref l0, .ref la, .ref l1, .ref l2, .ref l3, .ref sk, .ref ab, .ref bu, .ref cu, .ref sd, .ref l4])), (sd, .inl (kd, 5, .inl fs))] H := hP
    have hD : va_D A [(mm, .inr (17, [.int 0, .int 0, .ref l0, .ref la, .ref l1, .ref l2, .ref l3, .ref sk, .ref ab, .ref bu, .ref cu, .ref sd, .ref l4])), (sd, .inl (kd, 5, .inl fs))] := hD
    have hK : va_K D vwCl [(kd, .int)] s := hK
    refine W.widen (k := 0) (n := 0) (Nat.le_of_ble_eq_true rfl) (Nat.le_of_ble_eq_true rfl) ?_
    rcases hw with ⟨q_9, h_8⟩ | ⟨q_9, h_8⟩
    · subst q_9
      refine lv_if_ne (tgt := 31) hx hb dX13_setStand_22 (by decide) (fun c_10 => ?_) (fun c_10 => absurd c_10 (by decide))
      refine lv_aload_n hx hb dX13_setStand_31 rfl (lv_at hl 0 rfl) ?_
      refine va_get (D := D) (ci := 17) (v := .ref sd) (C := RX13) (T := TX13) (N := 13) hx hb hts (fun w h => List.mem_cons_of_mem _ (List.mem_append_left _ (List.mem_append_right _ h))) hown hK hP 0 rfl rfl 11 (by decide) (hts (.fieldLink RX13 42 "LastroomModel" "stands" "[I") (List.mem_of_getElem? (i := 2) rfl)) (fun _ h9 => h9) rfl dX13_setStand_32 ?_
      refine lv_iload_n hx hb dX13_setStand_35 rfl (lv_at hl 1 rfl) ?_
      have p_11 : vp_in a1 5 := in_rg h_3 (by decide)
      refine va_iald hx hb hK hP 1 0 rfl rfl p_11 dX13_setStand_36 ?_
      refine lv_istore_n (lv' := [(3, .int (fs a1.toNatClampNeg)), (0, .ref mm), (1, .int a1), (2, .int a2)]) hx hb dX13_setStand_37 rfl hl (by decide) rfl (fun ls hl => ?_)
      refine lv_aload_n hx hb dX13_setStand_38 rfl (lv_at hl 1 rfl) ?_
      refine va_get (D := D) (ci := 17) (v := .ref sd) (C := RX13) (T := TX13) (N := 13) hx hb hts (fun w h => List.mem_cons_of_mem _ (List.mem_append_left _ (List.mem_append_right _ h))) hown hK hP 0 rfl rfl 11 (by decide) (hts (.fieldLink RX13 42 "LastroomModel" "stands" "[I") (List.mem_of_getElem? (i := 2) rfl)) (fun _ h9 => h9) rfl dX13_setStand_39 ?_
      refine lv_iload_n hx hb dX13_setStand_42 rfl (lv_at hl 2 rfl) ?_
      refine lv_iload_n hx hb dX13_setStand_43 rfl (lv_at hl 3 rfl) ?_
      refine va_iast hx hb hK hP hD hS 1 0 rfl rfl p_11 dX13_setStand_44 (fun H locs hP hD hS => ?_)
      have hP : va_P D vwCl [(mm, .inr (17, [.int 0, .int 0, .ref l0, .ref la, .ref l1, .ref l2, .ref l3, .ref sk, .ref ab, .ref bu, .ref cu, .ref sd, .ref l4])), (sd, .inl (kd, 5, .inl (upd fs a1.toNatClampNeg a2)))] H := hP
      have hD : va_D A [(mm, .inr (17, [.int 0, .int 0, .ref l0, .ref la, .ref l1, .ref l2, .ref l3, .ref sk, .ref ab, .ref bu, .ref cu, .ref sd, .ref l4])), (sd, .inl (kd, 5, .inl (upd fs a1.toNatClampNeg a2)))] := hD
      refine lv_iload_n hx hb dX13_setStand_45 rfl (lv_at hl 0 rfl) ?_
      have hP9 := hP.sub (ws' := [(mm, .inr (17, [.int 0, .int 0, .ref l0, .ref la, .ref l1, .ref l2, .ref l3, .ref sk, .ref ab, .ref bu, .ref cu, .ref sd, .ref l4]))]) [0] rfl
      have hD9 := hD.sub (ws' := [(mm, .inr (17, [.int 0, .int 0, .ref l0, .ref la, .ref l1, .ref l2, .ref l3, .ref sk, .ref ab, .ref bu, .ref cu, .ref sd, .ref l4]))]) [0] (by decide) rfl
      have hK9 := hK.sub (tys' := []) [] rfl
      exact end_i hx hb hr hlocks hP9 hD9 hK9 hS (0, 0) rfl rfl (Or.inl ⟨by simp [standB, h_3, h_8], rfl, hfs _ (in_cl (in_rg (N := 5) h_3 (by decide)))⟩) (Nat.le_of_ble_eq_true rfl) (Nat.le_of_ble_eq_true rfl) dX13_setStand_46
    · subst q_9
      refine lv_if_ne (tgt := 31) hx hb dX13_setStand_22 (by decide) (fun c_12 => absurd (by decide) c_12) (fun c_12 => ?_)
      refine lv_aload_n hx hb dX13_setStand_25 rfl (lv_at hl 0 rfl) ?_
      refine lv_iconst (v := 1) hx hb dX13_setStand_26 (by decide) ?_
      have hFc := va_free (wc := [(mm, .inr (17, [.int 0, .int 0, .ref l0, .ref la, .ref l1, .ref l2, .ref l3, .ref sk, .ref ab, .ref bu, .ref cu, .ref sd, .ref l4]))]) hD hS hA [0] rfl
      refine va_calli (va_runV (As := [.int 1]) (rest := []) ⟨hx, hb, hml, hown, hts⟩ (m_fails l D tC tE H.size mm l0 l1 l2 l3 l4 la sk ab bu cu sd 0 0 1) (cwV 1 hts gX13_setStand_X13_fails rfl rfl rfl (by decide +kernel) ⟨(Nat.le_of_ble_eq_true rfl), (Nat.le_of_ble_eq_true rfl)⟩) ⟨pg_blind, (va_recv hK hP (ci := 17) (q0 := 0) rfl rfl), (pg_pre hP hD hK hG hS hFc [0] rfl (by decide) [] rfl _)⟩ rfl rfl hl.1 rfl (lv_room (Nat.le_of_ble_eq_true rfl)) dX13_setStand_27 ⟨(Nat.le_of_ble_eq_true rfl), (Nat.le_of_ble_eq_true rfl)⟩) hS (fun q _ h => hFc q h) hFc (fun r_13 u_14 t H locs ht hvm hw hB hz1 hk1 hS => ?_)
      subst hw
      obtain ⟨hP, hD, hK⟩ := jn (wr := [(sd, .inl (kd, 5, .inl fs))]) (w1 := [(mm, .inr (17, [.int 1, .int 0, .ref l0, .ref la, .ref l1, .ref l2, .ref l3, .ref sk, .ref ab, .ref bu, .ref cu, .ref sd, .ref l4]))]) (t1 := []) (tr := [(kd, .int)]) hP hD hK [0] [1] rfl rfl (by decide) (by decide) [0] rfl hk1 hFc hB rfl rfl ht hvm
      have hP : va_P D vwCl [(sd, .inl (kd, 5, .inl fs)), (mm, .inr (17, [.int 1, .int 0, .ref l0, .ref la, .ref l1, .ref l2, .ref l3, .ref sk, .ref ab, .ref bu, .ref cu, .ref sd, .ref l4]))] H := hP
      have hD : va_D A [(sd, .inl (kd, 5, .inl fs)), (mm, .inr (17, [.int 1, .int 0, .ref l0, .ref la, .ref l1, .ref l2, .ref l3, .ref sk, .ref ab, .ref bu, .ref cu, .ref sd, .ref l4]))] := hD
      have hK : va_K D vwCl [(kd, .int)] s := hK
      refine W.widen (k := 0) (n := 0) (Nat.le_of_ble_eq_true rfl) (Nat.le_of_ble_eq_true rfl) ?_
      have hP9 := hP.sub (ws' := [(mm, .inr (17, [.int 1, .int 0, .ref l0, .ref la, .ref l1, .ref l2, .ref l3, .ref sk, .ref ab, .ref bu, .ref cu, .ref sd, .ref l4]))]) [1] rfl
      have hD9 := hD.sub (ws' := [(mm, .inr (17, [.int 1, .int 0, .ref l0, .ref la, .ref l1, .ref l2, .ref l3, .ref sk, .ref ab, .ref bu, .ref cu, .ref sd, .ref l4]))]) [1] (by decide) rfl
      have hK9 := hK.sub (tys' := []) [] rfl
      exact end_i hx hb hr hlocks hP9 hD9 hK9 hS (1, 0) rfl rfl (Or.inr ⟨by simp [standB, h_3, h_8], rfl⟩) (Nat.le_of_ble_eq_true rfl) (Nat.le_of_ble_eq_true rfl) dX13_setStand_30
  · subst q_4
    refine lv_if_eq (tgt := 25) hx hb dX13_setStand_11 (by decide) (fun c_15 => ?_) (fun c_15 => absurd (show (0 : Int32) = 0 from (by decide)) c_15)
    refine lv_aload_n hx hb dX13_setStand_25 rfl (lv_at hl 0 rfl) ?_
    refine lv_iconst (v := 1) hx hb dX13_setStand_26 (by decide) ?_
    have hFc := va_free (wc := [(mm, .inr (17, [.int 0, .int 0, .ref l0, .ref la, .ref l1, .ref l2, .ref l3, .ref sk, .ref ab, .ref bu, .ref cu, .ref sd, .ref l4]))]) hD hS hA [0] rfl
    refine va_calli (va_runV (As := [.int 1]) (rest := []) ⟨hx, hb, hml, hown, hts⟩ (m_fails l D tC tE H.size mm l0 l1 l2 l3 l4 la sk ab bu cu sd 0 0 1) (cwV 1 hts gX13_setStand_X13_fails rfl rfl rfl (by decide +kernel) ⟨(Nat.le_of_ble_eq_true rfl), (Nat.le_of_ble_eq_true rfl)⟩) ⟨pg_blind, (va_recv hK hP (ci := 17) (q0 := 0) rfl rfl), (pg_pre hP hD hK hG hS hFc [0] rfl (by decide) [] rfl _)⟩ rfl rfl hl.1 rfl (lv_room (Nat.le_of_ble_eq_true rfl)) dX13_setStand_27 ⟨(Nat.le_of_ble_eq_true rfl), (Nat.le_of_ble_eq_true rfl)⟩) hS (fun q _ h => hFc q h) hFc (fun r_16 u_17 t H locs ht hvm hw hB hz1 hk1 hS => ?_)
    subst hw
    obtain ⟨hP, hD, hK⟩ := jn (wr := [(sd, .inl (kd, 5, .inl fs))]) (w1 := [(mm, .inr (17, [.int 1, .int 0, .ref l0, .ref la, .ref l1, .ref l2, .ref l3, .ref sk, .ref ab, .ref bu, .ref cu, .ref sd, .ref l4]))]) (t1 := []) (tr := [(kd, .int)]) hP hD hK [0] [1] rfl rfl (by decide) (by decide) [0] rfl hk1 hFc hB rfl rfl ht hvm
    have hP : va_P D vwCl [(sd, .inl (kd, 5, .inl fs)), (mm, .inr (17, [.int 1, .int 0, .ref l0, .ref la, .ref l1, .ref l2, .ref l3, .ref sk, .ref ab, .ref bu, .ref cu, .ref sd, .ref l4]))] H := hP
    have hD : va_D A [(sd, .inl (kd, 5, .inl fs)), (mm, .inr (17, [.int 1, .int 0, .ref l0, .ref la, .ref l1, .ref l2, .ref l3, .ref sk, .ref ab, .ref bu, .ref cu, .ref sd, .ref l4]))] := hD
    have hK : va_K D vwCl [(kd, .int)] s := hK
    refine W.widen (k := 0) (n := 0) (Nat.le_of_ble_eq_true rfl) (Nat.le_of_ble_eq_true rfl) ?_
    have hP9 := hP.sub (ws' := [(mm, .inr (17, [.int 1, .int 0, .ref l0, .ref la, .ref l1, .ref l2, .ref l3, .ref sk, .ref ab, .ref bu, .ref cu, .ref sd, .ref l4]))]) [1] rfl
    have hD9 := hD.sub (ws' := [(mm, .inr (17, [.int 1, .int 0, .ref l0, .ref la, .ref l1, .ref l2, .ref l3, .ref sk, .ref ab, .ref bu, .ref cu, .ref sd, .ref l4]))]) [1] (by decide) rfl
    have hK9 := hK.sub (tys' := []) [] rfl
    exact end_i hx hb hr hlocks hP9 hD9 hK9 hS (1, 0) rfl rfl (Or.inr ⟨by simp [standB, h_3], rfl⟩) (Nat.le_of_ble_eq_true rfl) (Nat.le_of_ble_eq_true rfl) dX13_setStand_30
set_option maxHeartbeats 4000000 in
set_option maxRecDepth 100000 in
/-- model of the reference, on a fresh object -/
theorem m_model (l : Launch) (D : va_G) (tC tE sz : Nat) (mm l0 l1 l2 l3 l4 la sk ab bu cu sd : Nat) (a1 a2 : Int32) : Met l yX13_model wsX13_model ({ frames := 5, cells := 2, slots := 12, locals := 108 }) (Pg D tC tE sz [(mm, .inr (17, [.int 0, .int 0, .ref l0, .ref la, .ref l1, .ref l2, .ref l3, .ref sk, .ref ab, .ref bu, .ref cu, .ref sd, .ref l4])), (l0, .inr (3, [.int 0, .ref tE, .int 0]))] [] [.ref mm, .int a1, .int a2]) (Qgi (S := Int32 × Int32) D (fun u => [(mm, .inr (17, [.int (u.1), .int (u.2), .ref l0, .ref la, .ref l1, .ref l2, .ref l3, .ref sk, .ref ab, .ref bu, .ref cu, .ref sd, .ref l4]))]) (fun u => []) (fun r u => (modB a1 a2 = true ∧ u.1 = 0 ∧ r = 0) ∨ (modB a1 a2 = false ∧ u.1 = 1)) (va_A [(mm, .inr (17, [.int 0, .int 0, .ref l0, .ref la, .ref l1, .ref l2, .ref l3, .ref sk, .ref ab, .ref bu, .ref cu, .ref sd, .ref l4])), (l0, .inr (3, [.int 0, .ref tE, .int 0]))] sz)) 2 12 (va_A [(mm, .inr (17, [.int 0, .int 0, .ref l0, .ref la, .ref l1, .ref l2, .ref l3, .ref sk, .ref ab, .ref bu, .ref cu, .ref sd, .ref l4])), (l0, .inr (3, [.int 0, .ref tE, .int 0]))] sz) := by
  refine og_m (cc := cX13_model) (maxL := 3) (ret := (some .int)) (Qc := Qgi (S := Int32 × Int32) D (fun u => [(mm, .inr (17, [.int (u.1), .int (u.2), .ref l0, .ref la, .ref l1, .ref l2, .ref l3, .ref sk, .ref ab, .ref bu, .ref cu, .ref sd, .ref l4]))]) (fun u => []) (fun r u => (modB a1 a2 = true ∧ u.1 = 0 ∧ r = 0) ∨ (modB a1 a2 = false ∧ u.1 = 1))) (by decide) rfl (Nat.le_of_ble_eq_true rfl) ?_
  intro p e s m below meth c A hx hb hr hml hts hown hlocks hin hP hD hK hG hA hS ls hl
  have hl : lv_has ls 3 [(0, .ref mm), (1, .int a1), (2, .int a2)] := hl
  refine lv_aload_n hx hb dX13_model_0 rfl (lv_at hl 0 rfl) ?_
  refine lv_iconst (v := 0) hx hb dX13_model_1 (by decide) ?_
  refine va_put (D := D) (ci := 17) (v := .int 0) (ty := .int) (C := RX13) (T := TX13) (N := 13) hx hb hts (fun w h => List.mem_cons_of_mem _ (List.mem_append_left _ (List.mem_append_left _ (List.mem_append_right _ h)))) tyX13 tyX13_ok nmX13 hown hK hP hD hS 0 rfl rfl 0 (by decide) (hts (.fieldLink RX13 48 "LastroomModel" "code" "I") (List.mem_of_getElem? (i := 1) rfl)) (fun _ h9 => h9) rfl (by decide +kernel) rfl rfl (Nat.le_of_ble_eq_true rfl) dX13_model_2 (fun H locs hP hD hS => ?_)
  have hP : va_P D vwCl [(mm, .inr (17, [.int 0, .int 0, .ref l0, .ref la, .ref l1, .ref l2, .ref l3, .ref sk, .ref ab, .ref bu, .ref cu, .ref sd, .ref l4])), (l0, .inr (3, [.int 0, .ref tE, .int 0]))] H := hP
  have hD : va_D A [(mm, .inr (17, [.int 0, .int 0, .ref l0, .ref la, .ref l1, .ref l2, .ref l3, .ref sk, .ref ab, .ref bu, .ref cu, .ref sd, .ref l4])), (l0, .inr (3, [.int 0, .ref tE, .int 0]))] := hD
  refine lv_iload_n hx hb dX13_model_5 rfl (lv_at hl 1 rfl) ?_
  refine lv_sipush (v := 1500) hx hb dX13_model_6 (by decide) ?_
  refine lv_sipush (v := 3500) hx hb dX13_model_9 (by decide) ?_
  have hFc := va_free (wc := []) hD hS hA [] rfl
  refine va_calli (va_runS (As := [.int a1, .int 1500, .int 3500]) (rest := []) ⟨hx, hb, hml, hown, hts⟩ (m_in l D tC tE H.size a1 1500 3500) (va_cwS 3 hts gX13_model_X13_in rfl rfl rfl (by decide +kernel) ⟨(Nat.le_of_ble_eq_true rfl), (Nat.le_of_ble_eq_true rfl)⟩) ⟨pg_blind, (pg_pre hP hD hK hG hS hFc [] rfl (by decide) [] rfl _)⟩ rfl rfl hl.1 rfl (lv_room (Nat.le_of_ble_eq_true rfl)) dX13_model_12 ⟨(Nat.le_of_ble_eq_true rfl), (Nat.le_of_ble_eq_true rfl)⟩) hS (fun q _ h => hFc q h) hFc (fun r_1 u_2 t H locs ht hvm hw hB hz1 hk1 hS => ?_)
  obtain ⟨hP, hD, hK⟩ := jn (wr := [(mm, .inr (17, [.int 0, .int 0, .ref l0, .ref la, .ref l1, .ref l2, .ref l3, .ref sk, .ref ab, .ref bu, .ref cu, .ref sd, .ref l4])), (l0, .inr (3, [.int 0, .ref tE, .int 0]))]) (w1 := []) (t1 := []) (tr := []) hP hD hK [] [0, 1] rfl rfl (by decide) (by decide) [] rfl hk1 hFc hB rfl rfl ht hvm
  have hP : va_P D vwCl [(mm, .inr (17, [.int 0, .int 0, .ref l0, .ref la, .ref l1, .ref l2, .ref l3, .ref sk, .ref ab, .ref bu, .ref cu, .ref sd, .ref l4])), (l0, .inr (3, [.int 0, .ref tE, .int 0]))] H := hP
  have hD : va_D A [(mm, .inr (17, [.int 0, .int 0, .ref l0, .ref la, .ref l1, .ref l2, .ref l3, .ref sk, .ref ab, .ref bu, .ref cu, .ref sd, .ref l4])), (l0, .inr (3, [.int 0, .ref tE, .int 0]))] := hD
  have hK : va_K D vwCl [] s := hK
  refine W.widen (k := 0) (n := 0) (Nat.le_of_ble_eq_true rfl) (Nat.le_of_ble_eq_true rfl) ?_
  rcases hw with ⟨q_4, h_3⟩ | ⟨q_4, h_3⟩
  · subst q_4
    refine lv_if_eq (tgt := 29) hx hb dX13_model_15 (by decide) (fun c_5 => absurd c_5 (show ¬ (1 : Int32) = 0 from (by decide))) (fun c_5 => ?_)
    refine lv_iload_n hx hb dX13_model_18 rfl (lv_at hl 2 rfl) ?_
    refine lv_bipush (v := 10) hx hb dX13_model_19 (by decide) ?_
    refine lv_bipush (v := 99) hx hb dX13_model_21 (by decide) ?_
    have hFc := va_free (wc := []) hD hS hA [] rfl
    refine va_calli (va_runS (As := [.int a2, .int 10, .int 99]) (rest := []) ⟨hx, hb, hml, hown, hts⟩ (m_in l D tC tE H.size a2 10 99) (va_cwS 3 hts gX13_model_X13_in rfl rfl rfl (by decide +kernel) ⟨(Nat.le_of_ble_eq_true rfl), (Nat.le_of_ble_eq_true rfl)⟩) ⟨pg_blind, (pg_pre hP hD hK hG hS hFc [] rfl (by decide) [] rfl _)⟩ rfl rfl hl.1 rfl (lv_room (Nat.le_of_ble_eq_true rfl)) dX13_model_23 ⟨(Nat.le_of_ble_eq_true rfl), (Nat.le_of_ble_eq_true rfl)⟩) hS (fun q _ h => hFc q h) hFc (fun r_6 u_7 t H locs ht hvm hw hB hz1 hk1 hS => ?_)
    obtain ⟨hP, hD, hK⟩ := jn (wr := [(mm, .inr (17, [.int 0, .int 0, .ref l0, .ref la, .ref l1, .ref l2, .ref l3, .ref sk, .ref ab, .ref bu, .ref cu, .ref sd, .ref l4])), (l0, .inr (3, [.int 0, .ref tE, .int 0]))]) (w1 := []) (t1 := []) (tr := []) hP hD hK [] [0, 1] rfl rfl (by decide) (by decide) [] rfl hk1 hFc hB rfl rfl ht hvm
    have hP : va_P D vwCl [(mm, .inr (17, [.int 0, .int 0, .ref l0, .ref la, .ref l1, .ref l2, .ref l3, .ref sk, .ref ab, .ref bu, .ref cu, .ref sd, .ref l4])), (l0, .inr (3, [.int 0, .ref tE, .int 0]))] H := hP
    have hD : va_D A [(mm, .inr (17, [.int 0, .int 0, .ref l0, .ref la, .ref l1, .ref l2, .ref l3, .ref sk, .ref ab, .ref bu, .ref cu, .ref sd, .ref l4])), (l0, .inr (3, [.int 0, .ref tE, .int 0]))] := hD
    have hK : va_K D vwCl [] s := hK
    refine W.widen (k := 0) (n := 0) (Nat.le_of_ble_eq_true rfl) (Nat.le_of_ble_eq_true rfl) ?_
    rcases hw with ⟨q_9, h_8⟩ | ⟨q_9, h_8⟩
    · subst q_9
      refine lv_if_ne (tgt := 35) hx hb dX13_model_26 (by decide) (fun c_10 => ?_) (fun c_10 => absurd c_10 (by decide))
      refine lv_aload_n hx hb dX13_model_35 rfl (lv_at hl 0 rfl) ?_
      refine va_get (D := D) (ci := 17) (v := .ref l0) (C := RX13) (T := TX13) (N := 13) hx hb hts (fun w h => List.mem_cons_of_mem _ (List.mem_append_left _ (List.mem_append_left _ (List.mem_append_right _ h)))) hown hK hP 0 rfl rfl 2 (by decide) (hts (.fieldLink RX13 10 "LastroomModel" "models" "Ljava/util/List;") (List.mem_of_getElem? (i := 2) rfl)) (fun _ h9 => h9) rfl dX13_model_36 ?_
      have hFc := va_free (wc := [(l0, .inr (3, [.int 0, .ref tE, .int 0]))]) hD hS hA [1] rfl
      refine va_callFi (va_runF (As := []) (rest := []) (hK.1 3 _ rfl).2 ⟨hx, hb, hml, hown, hts⟩ (c_size l D tC tE H.size l0 0 0 tE) (va_cwF 0 hts gX13_model_Jx4a65c_size_8abf5_f84Jx4a65c rfl rfl rfl (hG.2.2.2.2.2.2.2.2.1 _ (List.mem_of_getElem? (i := 0) rfl)) (by decide +kernel) ⟨(Nat.le_of_ble_eq_true rfl), (Nat.le_of_ble_eq_true rfl)⟩) ⟨pg_blind, (va_recv hK hP (ci := 3) (q0 := 1) rfl rfl), (pg_pre hP hD hK hG hS hFc [1] rfl (by decide) [] rfl _)⟩ rfl rfl hl.1 rfl (lv_room (Nat.le_of_ble_eq_true rfl)) dX13_model_39 ⟨(Nat.le_of_ble_eq_true rfl), (Nat.le_of_ble_eq_true rfl)⟩) hS (fun q _ h => hFc q h) hFc (fun r_11 u_12 t H locs ht hvm hw hB hz1 hk1 hS => ?_)
      subst hw
      obtain ⟨hP, hD, hK⟩ := jn (wr := [(mm, .inr (17, [.int 0, .int 0, .ref l0, .ref la, .ref l1, .ref l2, .ref l3, .ref sk, .ref ab, .ref bu, .ref cu, .ref sd, .ref l4]))]) (w1 := [(l0, .inr (3, [.int 0, .ref tE, .int 0]))]) (t1 := []) (tr := []) hP hD hK [1] [0] rfl rfl (by decide) (by decide) [] rfl hk1 hFc hB rfl rfl ht hvm
      have hP : va_P D vwCl [(mm, .inr (17, [.int 0, .int 0, .ref l0, .ref la, .ref l1, .ref l2, .ref l3, .ref sk, .ref ab, .ref bu, .ref cu, .ref sd, .ref l4])), (l0, .inr (3, [.int 0, .ref tE, .int 0]))] H := hP
      have hD : va_D A [(mm, .inr (17, [.int 0, .int 0, .ref l0, .ref la, .ref l1, .ref l2, .ref l3, .ref sk, .ref ab, .ref bu, .ref cu, .ref sd, .ref l4])), (l0, .inr (3, [.int 0, .ref tE, .int 0]))] := hD
      have hK : va_K D vwCl [] s := hK
      refine W.widen (k := 0) (n := 0) (Nat.le_of_ble_eq_true rfl) (Nat.le_of_ble_eq_true rfl) ?_
      refine lv_iconst (v := 5) hx hb dX13_model_44 (by decide) ?_
      refine lv_icmp_ne (tgt := 54) hx hb dX13_model_45 (by decide) (fun c_13 => ?_) (fun c_13 => absurd c_13 (by decide))
      refine lv_aload_n hx hb dX13_model_54 rfl (lv_at hl 0 rfl) ?_
      refine va_get (D := D) (ci := 17) (v := .ref l0) (C := RX13) (T := TX13) (N := 13) hx hb hts (fun w h => List.mem_cons_of_mem _ (List.mem_append_left _ (List.mem_append_left _ (List.mem_append_right _ h)))) hown hK hP 0 rfl rfl 2 (by decide) (hts (.fieldLink RX13 10 "LastroomModel" "models" "Ljava/util/List;") (List.mem_of_getElem? (i := 2) rfl)) (fun _ h9 => h9) rfl dX13_model_55 ?_
      refine lv_iconst (v := 2) hx hb dX13_model_58 (by decide) ?_
      refine va_newa (atype := .int) (ty := .int) (N' := 2) (a0 := (2, .inl (fun _ => 0))) hx hb (hts (.arrayClass .int) (List.mem_of_getElem? (i := 3) rfl)) rfl hK hP hD hS hA (fun _ => rfl) (by decide) (by decide) (by decide) (Nat.le_of_ble_eq_true rfl) (Nat.le_of_ble_eq_true rfl) dX13_model_59 (fun q_14 k_15 H hK hP hD hS => ?_)
      have hP : va_P D vwCl [(mm, .inr (17, [.int 0, .int 0, .ref l0, .ref la, .ref l1, .ref l2, .ref l3, .ref sk, .ref ab, .ref bu, .ref cu, .ref sd, .ref l4])), (l0, .inr (3, [.int 0, .ref tE, .int 0])), (q_14, .inl (k_15, 2, .inl (fun _ => 0)))] H := hP
      have hD : va_D A [(mm, .inr (17, [.int 0, .int 0, .ref l0, .ref la, .ref l1, .ref l2, .ref l3, .ref sk, .ref ab, .ref bu, .ref cu, .ref sd, .ref l4])), (l0, .inr (3, [.int 0, .ref tE, .int 0])), (q_14, .inl (k_15, 2, .inl (fun _ => 0)))] := hD
      have hK : va_K D vwCl [(k_15, .int)] s := hK
      refine W.widen (k := 1) (n := 2) (Nat.le_of_ble_eq_true rfl) (Nat.le_of_ble_eq_true rfl) ?_
      refine lv_dup hx hb dX13_model_61 rfl ?_
      refine lv_iconst (v := 0) hx hb dX13_model_62 (by decide) ?_
      refine lv_iload_n hx hb dX13_model_63 rfl (lv_at hl 1 rfl) ?_
      refine va_iast hx hb hK hP hD hS 2 0 rfl rfl (vp_in_iff.mpr (by decide)) dX13_model_64 (fun H locs hP hD hS => ?_)
      have hP : va_P D vwCl [(mm, .inr (17, [.int 0, .int 0, .ref l0, .ref la, .ref l1, .ref l2, .ref l3, .ref sk, .ref ab, .ref bu, .ref cu, .ref sd, .ref l4])), (l0, .inr (3, [.int 0, .ref tE, .int 0])), (q_14, .inl (k_15, 2, .inl (upd (fun _ => 0) (0 : Int32).toNatClampNeg a1)))] H := hP
      have hD : va_D A [(mm, .inr (17, [.int 0, .int 0, .ref l0, .ref la, .ref l1, .ref l2, .ref l3, .ref sk, .ref ab, .ref bu, .ref cu, .ref sd, .ref l4])), (l0, .inr (3, [.int 0, .ref tE, .int 0])), (q_14, .inl (k_15, 2, .inl (upd (fun _ => 0) (0 : Int32).toNatClampNeg a1)))] := hD
      refine lv_dup hx hb dX13_model_65 rfl ?_
      refine lv_iconst (v := 1) hx hb dX13_model_66 (by decide) ?_
      refine lv_iload_n hx hb dX13_model_67 rfl (lv_at hl 2 rfl) ?_
      refine va_iast hx hb hK hP hD hS 2 0 rfl rfl (vp_in_iff.mpr (by decide)) dX13_model_68 (fun H locs hP hD hS => ?_)
      have hP : va_P D vwCl [(mm, .inr (17, [.int 0, .int 0, .ref l0, .ref la, .ref l1, .ref l2, .ref l3, .ref sk, .ref ab, .ref bu, .ref cu, .ref sd, .ref l4])), (l0, .inr (3, [.int 0, .ref tE, .int 0])), (q_14, .inl (k_15, 2, .inl (upd (upd (fun _ => 0) (0 : Int32).toNatClampNeg a1) (1 : Int32).toNatClampNeg a2)))] H := hP
      have hD : va_D A [(mm, .inr (17, [.int 0, .int 0, .ref l0, .ref la, .ref l1, .ref l2, .ref l3, .ref sk, .ref ab, .ref bu, .ref cu, .ref sd, .ref l4])), (l0, .inr (3, [.int 0, .ref tE, .int 0])), (q_14, .inl (k_15, 2, .inl (upd (upd (fun _ => 0) (0 : Int32).toNatClampNeg a1) (1 : Int32).toNatClampNeg a2)))] := hD
      have hFc := va_free (wc := [(l0, .inr (3, [.int 0, .ref tE, .int 0])), (q_14, .inl (k_15, 2, .inl (upd (upd (fun _ => 0) (0 : Int32).toNatClampNeg a1) (1 : Int32).toNatClampNeg a2)))]) hD hS hA [1, 2] rfl
      refine va_callFi (va_runF (As := [.ref q_14]) (rest := []) (hK.1 3 _ rfl).2 ⟨hx, hb, hml, hown, hts⟩ (c_addI l D tC tE H.size l0 q_14 k_15 2 (upd (upd (fun _ => 0) (0 : Int32).toNatClampNeg a1) (1 : Int32).toNatClampNeg a2)) (va_cwF 1 hts gX13_model_Jx4a65c_add_9ea2d_f90Jx4a65c rfl rfl rfl (hG.2.2.2.2.2.2.2.2.1 _ (List.mem_of_getElem? (i := 1) rfl)) (by decide +kernel) ⟨(Nat.le_of_ble_eq_true rfl), (Nat.le_of_ble_eq_true rfl)⟩) ⟨pg_blind, (va_recv hK hP (ci := 3) (q0 := 1) rfl rfl), (pg_pre hP hD hK hG hS hFc [1, 2] rfl (by decide) [0] rfl _)⟩ rfl rfl hl.1 rfl (lv_room (Nat.le_of_ble_eq_true rfl)) dX13_model_69 ⟨(Nat.le_of_ble_eq_true rfl), (Nat.le_of_ble_eq_true rfl)⟩) hS (fun q _ h => hFc q h) hFc (fun r_16 u_17 t H locs ht hvm hw hB hz1 hk1 hS => ?_)
      subst hw
      obtain ⟨hP, hD, hK⟩ := jn (wr := [(mm, .inr (17, [.int 0, .int 0, .ref l0, .ref la, .ref l1, .ref l2, .ref l3, .ref sk, .ref ab, .ref bu, .ref cu, .ref sd, .ref l4]))]) (w1 := [(l0, .inr (3, [.int 1, .ref u_17, .int 1]))]) (t1 := []) (tr := [(k_15, .int)]) hP hD hK [1, 2] [0] rfl rfl (by decide) (by decide) [0] rfl hk1 hFc hB rfl rfl ht hvm
      have hP : va_P D vwCl [(mm, .inr (17, [.int 0, .int 0, .ref l0, .ref la, .ref l1, .ref l2, .ref l3, .ref sk, .ref ab, .ref bu, .ref cu, .ref sd, .ref l4])), (l0, .inr (3, [.int 1, .ref u_17, .int 1]))] H := hP
      have hD : va_D A [(mm, .inr (17, [.int 0, .int 0, .ref l0, .ref la, .ref l1, .ref l2, .ref l3, .ref sk, .ref ab, .ref bu, .ref cu, .ref sd, .ref l4])), (l0, .inr (3, [.int 1, .ref u_17, .int 1]))] := hD
      have hK : va_K D vwCl [(k_15, .int)] s := hK
      refine W.widen (k := 2) (n := 12) (Nat.le_of_ble_eq_true rfl) (Nat.le_of_ble_eq_true rfl) ?_
      refine lv_pop hx hb dX13_model_74 rfl ?_
      refine lv_aload_n hx hb dX13_model_75 rfl (lv_at hl 0 rfl) ?_
      refine va_get (D := D) (ci := 17) (v := .ref l0) (C := RX13) (T := TX13) (N := 13) hx hb hts (fun w h => List.mem_cons_of_mem _ (List.mem_append_left _ (List.mem_append_left _ (List.mem_append_right _ h)))) hown hK hP 0 rfl rfl 2 (by decide) (hts (.fieldLink RX13 10 "LastroomModel" "models" "Ljava/util/List;") (List.mem_of_getElem? (i := 2) rfl)) (fun _ h9 => h9) rfl dX13_model_76 ?_
      have hFc := va_free (wc := [(l0, .inr (3, [.int 1, .ref u_17, .int 1]))]) hD hS hA [1] rfl
      refine va_callFi (va_runF (As := []) (rest := []) (hK.1 3 _ rfl).2 ⟨hx, hb, hml, hown, hts⟩ (c_size l D tC tE H.size l0 1 1 u_17) (va_cwF 0 hts gX13_model_Jx4a65c_size_8abf5_f84Jx4a65c rfl rfl rfl (hG.2.2.2.2.2.2.2.2.1 _ (List.mem_of_getElem? (i := 0) rfl)) (by decide +kernel) ⟨(Nat.le_of_ble_eq_true rfl), (Nat.le_of_ble_eq_true rfl)⟩) ⟨pg_blind, (va_recv hK hP (ci := 3) (q0 := 1) rfl rfl), (pg_pre hP hD hK hG hS hFc [1] rfl (by decide) [] rfl _)⟩ rfl rfl hl.1 rfl (lv_room (Nat.le_of_ble_eq_true rfl)) dX13_model_79 ⟨(Nat.le_of_ble_eq_true rfl), (Nat.le_of_ble_eq_true rfl)⟩) hS (fun q _ h => hFc q h) hFc (fun r_18 u_19 t H locs ht hvm hw hB hz1 hk1 hS => ?_)
      subst hw
      obtain ⟨hP, hD, hK⟩ := jn (wr := [(mm, .inr (17, [.int 0, .int 0, .ref l0, .ref la, .ref l1, .ref l2, .ref l3, .ref sk, .ref ab, .ref bu, .ref cu, .ref sd, .ref l4]))]) (w1 := [(l0, .inr (3, [.int 1, .ref u_17, .int 1]))]) (t1 := []) (tr := [(k_15, .int)]) hP hD hK [1] [0] rfl rfl (by decide) (by decide) [0] rfl hk1 hFc hB rfl rfl ht hvm
      have hP : va_P D vwCl [(mm, .inr (17, [.int 0, .int 0, .ref l0, .ref la, .ref l1, .ref l2, .ref l3, .ref sk, .ref ab, .ref bu, .ref cu, .ref sd, .ref l4])), (l0, .inr (3, [.int 1, .ref u_17, .int 1]))] H := hP
      have hD : va_D A [(mm, .inr (17, [.int 0, .int 0, .ref l0, .ref la, .ref l1, .ref l2, .ref l3, .ref sk, .ref ab, .ref bu, .ref cu, .ref sd, .ref l4])), (l0, .inr (3, [.int 1, .ref u_17, .int 1]))] := hD
      have hK : va_K D vwCl [(k_15, .int)] s := hK
      refine W.widen (k := 2) (n := 12) (Nat.le_of_ble_eq_true rfl) (Nat.le_of_ble_eq_true rfl) ?_
      refine lv_iconst (v := 1) hx hb dX13_model_84 (by decide) ?_
      refine lv_isub hx hb dX13_model_85 ?_
      refine lv_topi (fun y hy => ?_)
      rw [show (1 : Int32) - (1 : Int32) = 0 by decide] at hy
      subst hy
      have hP9 := hP.sub (ws' := [(mm, .inr (17, [.int 0, .int 0, .ref l0, .ref la, .ref l1, .ref l2, .ref l3, .ref sk, .ref ab, .ref bu, .ref cu, .ref sd, .ref l4]))]) [0] rfl
      have hD9 := hD.sub (ws' := [(mm, .inr (17, [.int 0, .int 0, .ref l0, .ref la, .ref l1, .ref l2, .ref l3, .ref sk, .ref ab, .ref bu, .ref cu, .ref sd, .ref l4]))]) [0] (by decide) rfl
      have hK9 := hK.sub (tys' := []) [] rfl
      exact end_i hx hb hr hlocks hP9 hD9 hK9 hS (0, 0) rfl rfl (Or.inl ⟨by simp [modB, h_3, h_8], rfl, rfl⟩) (Nat.le_of_ble_eq_true rfl) (Nat.le_of_ble_eq_true rfl) dX13_model_86
    · subst q_9
      refine lv_if_ne (tgt := 35) hx hb dX13_model_26 (by decide) (fun c_20 => absurd (by decide) c_20) (fun c_20 => ?_)
      refine lv_aload_n hx hb dX13_model_29 rfl (lv_at hl 0 rfl) ?_
      refine lv_iconst (v := 1) hx hb dX13_model_30 (by decide) ?_
      have hFc := va_free (wc := [(mm, .inr (17, [.int 0, .int 0, .ref l0, .ref la, .ref l1, .ref l2, .ref l3, .ref sk, .ref ab, .ref bu, .ref cu, .ref sd, .ref l4]))]) hD hS hA [0] rfl
      refine va_calli (va_runV (As := [.int 1]) (rest := []) ⟨hx, hb, hml, hown, hts⟩ (m_fails l D tC tE H.size mm l0 l1 l2 l3 l4 la sk ab bu cu sd 0 0 1) (cwV 1 hts gX13_model_X13_fails rfl rfl rfl (by decide +kernel) ⟨(Nat.le_of_ble_eq_true rfl), (Nat.le_of_ble_eq_true rfl)⟩) ⟨pg_blind, (va_recv hK hP (ci := 17) (q0 := 0) rfl rfl), (pg_pre hP hD hK hG hS hFc [0] rfl (by decide) [] rfl _)⟩ rfl rfl hl.1 rfl (lv_room (Nat.le_of_ble_eq_true rfl)) dX13_model_31 ⟨(Nat.le_of_ble_eq_true rfl), (Nat.le_of_ble_eq_true rfl)⟩) hS (fun q _ h => hFc q h) hFc (fun r_21 u_22 t H locs ht hvm hw hB hz1 hk1 hS => ?_)
      subst hw
      obtain ⟨hP, hD, hK⟩ := jn (wr := [(l0, .inr (3, [.int 0, .ref tE, .int 0]))]) (w1 := [(mm, .inr (17, [.int 1, .int 0, .ref l0, .ref la, .ref l1, .ref l2, .ref l3, .ref sk, .ref ab, .ref bu, .ref cu, .ref sd, .ref l4]))]) (t1 := []) (tr := []) hP hD hK [0] [1] rfl rfl (by decide) (by decide) [] rfl hk1 hFc hB rfl rfl ht hvm
      have hP : va_P D vwCl [(l0, .inr (3, [.int 0, .ref tE, .int 0])), (mm, .inr (17, [.int 1, .int 0, .ref l0, .ref la, .ref l1, .ref l2, .ref l3, .ref sk, .ref ab, .ref bu, .ref cu, .ref sd, .ref l4]))] H := hP
      have hD : va_D A [(l0, .inr (3, [.int 0, .ref tE, .int 0])), (mm, .inr (17, [.int 1, .int 0, .ref l0, .ref la, .ref l1, .ref l2, .ref l3, .ref sk, .ref ab, .ref bu, .ref cu, .ref sd, .ref l4]))] := hD
      have hK : va_K D vwCl [] s := hK
      refine W.widen (k := 0) (n := 0) (Nat.le_of_ble_eq_true rfl) (Nat.le_of_ble_eq_true rfl) ?_
      have hP9 := hP.sub (ws' := [(mm, .inr (17, [.int 1, .int 0, .ref l0, .ref la, .ref l1, .ref l2, .ref l3, .ref sk, .ref ab, .ref bu, .ref cu, .ref sd, .ref l4]))]) [1] rfl
      have hD9 := hD.sub (ws' := [(mm, .inr (17, [.int 1, .int 0, .ref l0, .ref la, .ref l1, .ref l2, .ref l3, .ref sk, .ref ab, .ref bu, .ref cu, .ref sd, .ref l4]))]) [1] (by decide) rfl
      have hK9 := hK.sub (tys' := []) [] rfl
      exact end_i hx hb hr hlocks hP9 hD9 hK9 hS (1, 0) rfl rfl (Or.inr ⟨by simp [modB, h_3, h_8], rfl⟩) (Nat.le_of_ble_eq_true rfl) (Nat.le_of_ble_eq_true rfl) dX13_model_34
  · subst q_4
    refine lv_if_eq (tgt := 29) hx hb dX13_model_15 (by decide) (fun c_23 => ?_) (fun c_23 => absurd (show (0 : Int32) = 0 from (by decide)) c_23)
    refine lv_aload_n hx hb dX13_model_29 rfl (lv_at hl 0 rfl) ?_
    refine lv_iconst (v := 1) hx hb dX13_model_30 (by decide) ?_
    have hFc := va_free (wc := [(mm, .inr (17, [.int 0, .int 0, .ref l0, .ref la, .ref l1, .ref l2, .ref l3, .ref sk, .ref ab, .ref bu, .ref cu, .ref sd, .ref l4]))]) hD hS hA [0] rfl
    refine va_calli (va_runV (As := [.int 1]) (rest := []) ⟨hx, hb, hml, hown, hts⟩ (m_fails l D tC tE H.size mm l0 l1 l2 l3 l4 la sk ab bu cu sd 0 0 1) (cwV 1 hts gX13_model_X13_fails rfl rfl rfl (by decide +kernel) ⟨(Nat.le_of_ble_eq_true rfl), (Nat.le_of_ble_eq_true rfl)⟩) ⟨pg_blind, (va_recv hK hP (ci := 17) (q0 := 0) rfl rfl), (pg_pre hP hD hK hG hS hFc [0] rfl (by decide) [] rfl _)⟩ rfl rfl hl.1 rfl (lv_room (Nat.le_of_ble_eq_true rfl)) dX13_model_31 ⟨(Nat.le_of_ble_eq_true rfl), (Nat.le_of_ble_eq_true rfl)⟩) hS (fun q _ h => hFc q h) hFc (fun r_24 u_25 t H locs ht hvm hw hB hz1 hk1 hS => ?_)
    subst hw
    obtain ⟨hP, hD, hK⟩ := jn (wr := [(l0, .inr (3, [.int 0, .ref tE, .int 0]))]) (w1 := [(mm, .inr (17, [.int 1, .int 0, .ref l0, .ref la, .ref l1, .ref l2, .ref l3, .ref sk, .ref ab, .ref bu, .ref cu, .ref sd, .ref l4]))]) (t1 := []) (tr := []) hP hD hK [0] [1] rfl rfl (by decide) (by decide) [] rfl hk1 hFc hB rfl rfl ht hvm
    have hP : va_P D vwCl [(l0, .inr (3, [.int 0, .ref tE, .int 0])), (mm, .inr (17, [.int 1, .int 0, .ref l0, .ref la, .ref l1, .ref l2, .ref l3, .ref sk, .ref ab, .ref bu, .ref cu, .ref sd, .ref l4]))] H := hP
    have hD : va_D A [(l0, .inr (3, [.int 0, .ref tE, .int 0])), (mm, .inr (17, [.int 1, .int 0, .ref l0, .ref la, .ref l1, .ref l2, .ref l3, .ref sk, .ref ab, .ref bu, .ref cu, .ref sd, .ref l4]))] := hD
    have hK : va_K D vwCl [] s := hK
    refine W.widen (k := 0) (n := 0) (Nat.le_of_ble_eq_true rfl) (Nat.le_of_ble_eq_true rfl) ?_
    have hP9 := hP.sub (ws' := [(mm, .inr (17, [.int 1, .int 0, .ref l0, .ref la, .ref l1, .ref l2, .ref l3, .ref sk, .ref ab, .ref bu, .ref cu, .ref sd, .ref l4]))]) [1] rfl
    have hD9 := hD.sub (ws' := [(mm, .inr (17, [.int 1, .int 0, .ref l0, .ref la, .ref l1, .ref l2, .ref l3, .ref sk, .ref ab, .ref bu, .ref cu, .ref sd, .ref l4]))]) [1] (by decide) rfl
    have hK9 := hK.sub (tys' := []) [] rfl
    exact end_i hx hb hr hlocks hP9 hD9 hK9 hS (1, 0) rfl rfl (Or.inr ⟨by simp [modB, h_3], rfl⟩) (Nat.le_of_ble_eq_true rfl) (Nat.le_of_ble_eq_true rfl) dX13_model_34
set_option maxHeartbeats 4000000 in
set_option maxRecDepth 100000 in
/-- open of the reference, on a fresh object -/
theorem m_open (l : Launch) (D : va_G) (tC tE sz : Nat) (mm l0 l1 l2 l3 l4 la sk ab bu cu sd : Nat) (a1 : Int32) : Met l yX13_open wsX13_open ({ frames := 5, cells := 2, slots := 12, locals := 108 }) (Pg D tC tE sz [(mm, .inr (17, [.int 0, .int 0, .ref l0, .ref la, .ref l1, .ref l2, .ref l3, .ref sk, .ref ab, .ref bu, .ref cu, .ref sd, .ref l4])), (l4, .inr (3, [.int 0, .ref tE, .int 0]))] [] [.ref mm, .int a1]) (Qgi (S := Int32 × Int32) D (fun u => [(mm, .inr (17, [.int (u.1), .int (u.2), .ref l0, .ref la, .ref l1, .ref l2, .ref l3, .ref sk, .ref ab, .ref bu, .ref cu, .ref sd, .ref l4]))]) (fun u => []) (fun r u => (rg a1 1 240 = true ∧ u.1 = 0 ∧ r = 0) ∨ (rg a1 1 240 = false ∧ u.1 = 1)) (va_A [(mm, .inr (17, [.int 0, .int 0, .ref l0, .ref la, .ref l1, .ref l2, .ref l3, .ref sk, .ref ab, .ref bu, .ref cu, .ref sd, .ref l4])), (l4, .inr (3, [.int 0, .ref tE, .int 0]))] sz)) 2 12 (va_A [(mm, .inr (17, [.int 0, .int 0, .ref l0, .ref la, .ref l1, .ref l2, .ref l3, .ref sk, .ref ab, .ref bu, .ref cu, .ref sd, .ref l4])), (l4, .inr (3, [.int 0, .ref tE, .int 0]))] sz) := by
  refine og_m (cc := cX13_open) (maxL := 2) (ret := (some .int)) (Qc := Qgi (S := Int32 × Int32) D (fun u => [(mm, .inr (17, [.int (u.1), .int (u.2), .ref l0, .ref la, .ref l1, .ref l2, .ref l3, .ref sk, .ref ab, .ref bu, .ref cu, .ref sd, .ref l4]))]) (fun u => []) (fun r u => (rg a1 1 240 = true ∧ u.1 = 0 ∧ r = 0) ∨ (rg a1 1 240 = false ∧ u.1 = 1))) (by decide) rfl (Nat.le_of_ble_eq_true rfl) ?_
  intro p e s m below meth c A hx hb hr hml hts hown hlocks hin hP hD hK hG hA hS ls hl
  have hl : lv_has ls 2 [(0, .ref mm), (1, .int a1)] := hl
  refine lv_aload_n hx hb dX13_open_0 rfl (lv_at hl 0 rfl) ?_
  refine lv_iconst (v := 0) hx hb dX13_open_1 (by decide) ?_
  refine va_put (D := D) (ci := 17) (v := .int 0) (ty := .int) (C := RX13) (T := TX13) (N := 13) hx hb hts (fun w h => List.mem_cons_of_mem _ (List.mem_append_left _ (List.mem_append_left _ (List.mem_append_right _ h)))) tyX13 tyX13_ok nmX13 hown hK hP hD hS 0 rfl rfl 0 (by decide) (hts (.fieldLink RX13 48 "LastroomModel" "code" "I") (List.mem_of_getElem? (i := 1) rfl)) (fun _ h9 => h9) rfl (by decide +kernel) rfl rfl (Nat.le_of_ble_eq_true rfl) dX13_open_2 (fun H locs hP hD hS => ?_)
  have hP : va_P D vwCl [(mm, .inr (17, [.int 0, .int 0, .ref l0, .ref la, .ref l1, .ref l2, .ref l3, .ref sk, .ref ab, .ref bu, .ref cu, .ref sd, .ref l4])), (l4, .inr (3, [.int 0, .ref tE, .int 0]))] H := hP
  have hD : va_D A [(mm, .inr (17, [.int 0, .int 0, .ref l0, .ref la, .ref l1, .ref l2, .ref l3, .ref sk, .ref ab, .ref bu, .ref cu, .ref sd, .ref l4])), (l4, .inr (3, [.int 0, .ref tE, .int 0]))] := hD
  refine lv_iload_n hx hb dX13_open_5 rfl (lv_at hl 1 rfl) ?_
  refine lv_iconst (v := 1) hx hb dX13_open_6 (by decide) ?_
  refine lv_sipush (v := 240) hx hb dX13_open_7 (by decide) ?_
  have hFc := va_free (wc := []) hD hS hA [] rfl
  refine va_calli (va_runS (As := [.int a1, .int 1, .int 240]) (rest := []) ⟨hx, hb, hml, hown, hts⟩ (m_in l D tC tE H.size a1 1 240) (va_cwS 3 hts gX13_open_X13_in rfl rfl rfl (by decide +kernel) ⟨(Nat.le_of_ble_eq_true rfl), (Nat.le_of_ble_eq_true rfl)⟩) ⟨pg_blind, (pg_pre hP hD hK hG hS hFc [] rfl (by decide) [] rfl _)⟩ rfl rfl hl.1 rfl (lv_room (Nat.le_of_ble_eq_true rfl)) dX13_open_10 ⟨(Nat.le_of_ble_eq_true rfl), (Nat.le_of_ble_eq_true rfl)⟩) hS (fun q _ h => hFc q h) hFc (fun r_1 u_2 t H locs ht hvm hw hB hz1 hk1 hS => ?_)
  obtain ⟨hP, hD, hK⟩ := jn (wr := [(mm, .inr (17, [.int 0, .int 0, .ref l0, .ref la, .ref l1, .ref l2, .ref l3, .ref sk, .ref ab, .ref bu, .ref cu, .ref sd, .ref l4])), (l4, .inr (3, [.int 0, .ref tE, .int 0]))]) (w1 := []) (t1 := []) (tr := []) hP hD hK [] [0, 1] rfl rfl (by decide) (by decide) [] rfl hk1 hFc hB rfl rfl ht hvm
  have hP : va_P D vwCl [(mm, .inr (17, [.int 0, .int 0, .ref l0, .ref la, .ref l1, .ref l2, .ref l3, .ref sk, .ref ab, .ref bu, .ref cu, .ref sd, .ref l4])), (l4, .inr (3, [.int 0, .ref tE, .int 0]))] H := hP
  have hD : va_D A [(mm, .inr (17, [.int 0, .int 0, .ref l0, .ref la, .ref l1, .ref l2, .ref l3, .ref sk, .ref ab, .ref bu, .ref cu, .ref sd, .ref l4])), (l4, .inr (3, [.int 0, .ref tE, .int 0]))] := hD
  have hK : va_K D vwCl [] s := hK
  refine W.widen (k := 0) (n := 0) (Nat.le_of_ble_eq_true rfl) (Nat.le_of_ble_eq_true rfl) ?_
  rcases hw with ⟨q_4, h_3⟩ | ⟨q_4, h_3⟩
  · subst q_4
    refine lv_if_ne (tgt := 22) hx hb dX13_open_13 (by decide) (fun c_5 => ?_) (fun c_5 => absurd c_5 (by decide))
    refine lv_aload_n hx hb dX13_open_22 rfl (lv_at hl 0 rfl) ?_
    refine va_get (D := D) (ci := 17) (v := .ref l4) (C := RX13) (T := TX13) (N := 13) hx hb hts (fun w h => List.mem_cons_of_mem _ (List.mem_append_left _ (List.mem_append_left _ (List.mem_append_right _ h)))) hown hK hP 0 rfl rfl 12 (by decide) (hts (.fieldLink RX13 45 "LastroomModel" "lots" "Ljava/util/List;") (List.mem_of_getElem? (i := 2) rfl)) (fun _ h9 => h9) rfl dX13_open_23 ?_
    have hFc := va_free (wc := [(l4, .inr (3, [.int 0, .ref tE, .int 0]))]) hD hS hA [1] rfl
    refine va_callFi (va_runF (As := []) (rest := []) (hK.1 3 _ rfl).2 ⟨hx, hb, hml, hown, hts⟩ (c_size l D tC tE H.size l4 0 0 tE) (va_cwF 0 hts gX13_open_Jx4a65c_size_8abf5_f84Jx4a65c rfl rfl rfl (hG.2.2.2.2.2.2.2.2.1 _ (List.mem_of_getElem? (i := 0) rfl)) (by decide +kernel) ⟨(Nat.le_of_ble_eq_true rfl), (Nat.le_of_ble_eq_true rfl)⟩) ⟨pg_blind, (va_recv hK hP (ci := 3) (q0 := 1) rfl rfl), (pg_pre hP hD hK hG hS hFc [1] rfl (by decide) [] rfl _)⟩ rfl rfl hl.1 rfl (lv_room (Nat.le_of_ble_eq_true rfl)) dX13_open_26 ⟨(Nat.le_of_ble_eq_true rfl), (Nat.le_of_ble_eq_true rfl)⟩) hS (fun q _ h => hFc q h) hFc (fun r_6 u_7 t H locs ht hvm hw hB hz1 hk1 hS => ?_)
    subst hw
    obtain ⟨hP, hD, hK⟩ := jn (wr := [(mm, .inr (17, [.int 0, .int 0, .ref l0, .ref la, .ref l1, .ref l2, .ref l3, .ref sk, .ref ab, .ref bu, .ref cu, .ref sd, .ref l4]))]) (w1 := [(l4, .inr (3, [.int 0, .ref tE, .int 0]))]) (t1 := []) (tr := []) hP hD hK [1] [0] rfl rfl (by decide) (by decide) [] rfl hk1 hFc hB rfl rfl ht hvm
    have hP : va_P D vwCl [(mm, .inr (17, [.int 0, .int 0, .ref l0, .ref la, .ref l1, .ref l2, .ref l3, .ref sk, .ref ab, .ref bu, .ref cu, .ref sd, .ref l4])), (l4, .inr (3, [.int 0, .ref tE, .int 0]))] H := hP
    have hD : va_D A [(mm, .inr (17, [.int 0, .int 0, .ref l0, .ref la, .ref l1, .ref l2, .ref l3, .ref sk, .ref ab, .ref bu, .ref cu, .ref sd, .ref l4])), (l4, .inr (3, [.int 0, .ref tE, .int 0]))] := hD
    have hK : va_K D vwCl [] s := hK
    refine W.widen (k := 0) (n := 0) (Nat.le_of_ble_eq_true rfl) (Nat.le_of_ble_eq_true rfl) ?_
    refine lv_bipush (v := 20) hx hb dX13_open_31 (by decide) ?_
    refine lv_icmp_ne (tgt := 42) hx hb dX13_open_33 (by decide) (fun c_8 => ?_) (fun c_8 => absurd c_8 (by decide))
    refine lv_aload_n hx hb dX13_open_42 rfl (lv_at hl 0 rfl) ?_
    refine va_get (D := D) (ci := 17) (v := .ref l4) (C := RX13) (T := TX13) (N := 13) hx hb hts (fun w h => List.mem_cons_of_mem _ (List.mem_append_left _ (List.mem_append_left _ (List.mem_append_right _ h)))) hown hK hP 0 rfl rfl 12 (by decide) (hts (.fieldLink RX13 45 "LastroomModel" "lots" "Ljava/util/List;") (List.mem_of_getElem? (i := 2) rfl)) (fun _ h9 => h9) rfl dX13_open_43 ?_
    refine lv_iconst (v := 2) hx hb dX13_open_46 (by decide) ?_
    refine va_newa (atype := .int) (ty := .int) (N' := 2) (a0 := (2, .inl (fun _ => 0))) hx hb (hts (.arrayClass .int) (List.mem_of_getElem? (i := 3) rfl)) rfl hK hP hD hS hA (fun _ => rfl) (by decide) (by decide) (by decide) (Nat.le_of_ble_eq_true rfl) (Nat.le_of_ble_eq_true rfl) dX13_open_47 (fun q_9 k_10 H hK hP hD hS => ?_)
    have hP : va_P D vwCl [(mm, .inr (17, [.int 0, .int 0, .ref l0, .ref la, .ref l1, .ref l2, .ref l3, .ref sk, .ref ab, .ref bu, .ref cu, .ref sd, .ref l4])), (l4, .inr (3, [.int 0, .ref tE, .int 0])), (q_9, .inl (k_10, 2, .inl (fun _ => 0)))] H := hP
    have hD : va_D A [(mm, .inr (17, [.int 0, .int 0, .ref l0, .ref la, .ref l1, .ref l2, .ref l3, .ref sk, .ref ab, .ref bu, .ref cu, .ref sd, .ref l4])), (l4, .inr (3, [.int 0, .ref tE, .int 0])), (q_9, .inl (k_10, 2, .inl (fun _ => 0)))] := hD
    have hK : va_K D vwCl [(k_10, .int)] s := hK
    refine W.widen (k := 1) (n := 2) (Nat.le_of_ble_eq_true rfl) (Nat.le_of_ble_eq_true rfl) ?_
    refine lv_dup hx hb dX13_open_49 rfl ?_
    refine lv_iconst (v := 0) hx hb dX13_open_50 (by decide) ?_
    refine lv_aload_n hx hb dX13_open_51 rfl (lv_at hl 0 rfl) ?_
    refine va_get (D := D) (ci := 17) (v := .int 0) (C := RX13) (T := TX13) (N := 13) hx hb hts (fun w h => List.mem_cons_of_mem _ (List.mem_append_left _ (List.mem_append_left _ (List.mem_append_right _ h)))) hown hK hP 0 rfl rfl 1 (by decide) (hts (.fieldLink RX13 138 "LastroomModel" "now" "I") (List.mem_of_getElem? (i := 4) rfl)) (fun _ h9 => h9) rfl dX13_open_52 ?_
    refine va_iast hx hb hK hP hD hS 2 0 rfl rfl (vp_in_iff.mpr (by decide)) dX13_open_55 (fun H locs hP hD hS => ?_)
    have hP : va_P D vwCl [(mm, .inr (17, [.int 0, .int 0, .ref l0, .ref la, .ref l1, .ref l2, .ref l3, .ref sk, .ref ab, .ref bu, .ref cu, .ref sd, .ref l4])), (l4, .inr (3, [.int 0, .ref tE, .int 0])), (q_9, .inl (k_10, 2, .inl (upd (fun _ => 0) (0 : Int32).toNatClampNeg 0)))] H := hP
    have hD : va_D A [(mm, .inr (17, [.int 0, .int 0, .ref l0, .ref la, .ref l1, .ref l2, .ref l3, .ref sk, .ref ab, .ref bu, .ref cu, .ref sd, .ref l4])), (l4, .inr (3, [.int 0, .ref tE, .int 0])), (q_9, .inl (k_10, 2, .inl (upd (fun _ => 0) (0 : Int32).toNatClampNeg 0)))] := hD
    refine lv_dup hx hb dX13_open_56 rfl ?_
    refine lv_iconst (v := 1) hx hb dX13_open_57 (by decide) ?_
    refine lv_aload_n hx hb dX13_open_58 rfl (lv_at hl 0 rfl) ?_
    refine va_get (D := D) (ci := 17) (v := .int 0) (C := RX13) (T := TX13) (N := 13) hx hb hts (fun w h => List.mem_cons_of_mem _ (List.mem_append_left _ (List.mem_append_left _ (List.mem_append_right _ h)))) hown hK hP 0 rfl rfl 1 (by decide) (hts (.fieldLink RX13 138 "LastroomModel" "now" "I") (List.mem_of_getElem? (i := 4) rfl)) (fun _ h9 => h9) rfl dX13_open_59 ?_
    refine lv_iload_n hx hb dX13_open_62 rfl (lv_at hl 1 rfl) ?_
    refine lv_iadd hx hb dX13_open_63 ?_
    refine va_iast hx hb hK hP hD hS 2 0 rfl rfl (vp_in_iff.mpr (by decide)) dX13_open_64 (fun H locs hP hD hS => ?_)
    have hP : va_P D vwCl [(mm, .inr (17, [.int 0, .int 0, .ref l0, .ref la, .ref l1, .ref l2, .ref l3, .ref sk, .ref ab, .ref bu, .ref cu, .ref sd, .ref l4])), (l4, .inr (3, [.int 0, .ref tE, .int 0])), (q_9, .inl (k_10, 2, .inl (upd (upd (fun _ => 0) (0 : Int32).toNatClampNeg 0) (1 : Int32).toNatClampNeg ((0 : Int32) + a1))))] H := hP
    have hD : va_D A [(mm, .inr (17, [.int 0, .int 0, .ref l0, .ref la, .ref l1, .ref l2, .ref l3, .ref sk, .ref ab, .ref bu, .ref cu, .ref sd, .ref l4])), (l4, .inr (3, [.int 0, .ref tE, .int 0])), (q_9, .inl (k_10, 2, .inl (upd (upd (fun _ => 0) (0 : Int32).toNatClampNeg 0) (1 : Int32).toNatClampNeg ((0 : Int32) + a1))))] := hD
    have hFc := va_free (wc := [(l4, .inr (3, [.int 0, .ref tE, .int 0])), (q_9, .inl (k_10, 2, .inl (upd (upd (fun _ => 0) (0 : Int32).toNatClampNeg 0) (1 : Int32).toNatClampNeg ((0 : Int32) + a1))))]) hD hS hA [1, 2] rfl
    refine va_callFi (va_runF (As := [.ref q_9]) (rest := []) (hK.1 3 _ rfl).2 ⟨hx, hb, hml, hown, hts⟩ (c_addI l D tC tE H.size l4 q_9 k_10 2 (upd (upd (fun _ => 0) (0 : Int32).toNatClampNeg 0) (1 : Int32).toNatClampNeg ((0 : Int32) + a1))) (va_cwF 1 hts gX13_open_Jx4a65c_add_9ea2d_f90Jx4a65c rfl rfl rfl (hG.2.2.2.2.2.2.2.2.1 _ (List.mem_of_getElem? (i := 1) rfl)) (by decide +kernel) ⟨(Nat.le_of_ble_eq_true rfl), (Nat.le_of_ble_eq_true rfl)⟩) ⟨pg_blind, (va_recv hK hP (ci := 3) (q0 := 1) rfl rfl), (pg_pre hP hD hK hG hS hFc [1, 2] rfl (by decide) [0] rfl _)⟩ rfl rfl hl.1 rfl (lv_room (Nat.le_of_ble_eq_true rfl)) dX13_open_65 ⟨(Nat.le_of_ble_eq_true rfl), (Nat.le_of_ble_eq_true rfl)⟩) hS (fun q _ h => hFc q h) hFc (fun r_11 u_12 t H locs ht hvm hw hB hz1 hk1 hS => ?_)
    subst hw
    obtain ⟨hP, hD, hK⟩ := jn (wr := [(mm, .inr (17, [.int 0, .int 0, .ref l0, .ref la, .ref l1, .ref l2, .ref l3, .ref sk, .ref ab, .ref bu, .ref cu, .ref sd, .ref l4]))]) (w1 := [(l4, .inr (3, [.int 1, .ref u_12, .int 1]))]) (t1 := []) (tr := [(k_10, .int)]) hP hD hK [1, 2] [0] rfl rfl (by decide) (by decide) [0] rfl hk1 hFc hB rfl rfl ht hvm
    have hP : va_P D vwCl [(mm, .inr (17, [.int 0, .int 0, .ref l0, .ref la, .ref l1, .ref l2, .ref l3, .ref sk, .ref ab, .ref bu, .ref cu, .ref sd, .ref l4])), (l4, .inr (3, [.int 1, .ref u_12, .int 1]))] H := hP
    have hD : va_D A [(mm, .inr (17, [.int 0, .int 0, .ref l0, .ref la, .ref l1, .ref l2, .ref l3, .ref sk, .ref ab, .ref bu, .ref cu, .ref sd, .ref l4])), (l4, .inr (3, [.int 1, .ref u_12, .int 1]))] := hD
    have hK : va_K D vwCl [(k_10, .int)] s := hK
    refine W.widen (k := 2) (n := 12) (Nat.le_of_ble_eq_true rfl) (Nat.le_of_ble_eq_true rfl) ?_
    refine lv_pop hx hb dX13_open_70 rfl ?_
    refine lv_aload_n hx hb dX13_open_71 rfl (lv_at hl 0 rfl) ?_
    refine va_get (D := D) (ci := 17) (v := .ref l4) (C := RX13) (T := TX13) (N := 13) hx hb hts (fun w h => List.mem_cons_of_mem _ (List.mem_append_left _ (List.mem_append_left _ (List.mem_append_right _ h)))) hown hK hP 0 rfl rfl 12 (by decide) (hts (.fieldLink RX13 45 "LastroomModel" "lots" "Ljava/util/List;") (List.mem_of_getElem? (i := 2) rfl)) (fun _ h9 => h9) rfl dX13_open_72 ?_
    have hFc := va_free (wc := [(l4, .inr (3, [.int 1, .ref u_12, .int 1]))]) hD hS hA [1] rfl
    refine va_callFi (va_runF (As := []) (rest := []) (hK.1 3 _ rfl).2 ⟨hx, hb, hml, hown, hts⟩ (c_size l D tC tE H.size l4 1 1 u_12) (va_cwF 0 hts gX13_open_Jx4a65c_size_8abf5_f84Jx4a65c rfl rfl rfl (hG.2.2.2.2.2.2.2.2.1 _ (List.mem_of_getElem? (i := 0) rfl)) (by decide +kernel) ⟨(Nat.le_of_ble_eq_true rfl), (Nat.le_of_ble_eq_true rfl)⟩) ⟨pg_blind, (va_recv hK hP (ci := 3) (q0 := 1) rfl rfl), (pg_pre hP hD hK hG hS hFc [1] rfl (by decide) [] rfl _)⟩ rfl rfl hl.1 rfl (lv_room (Nat.le_of_ble_eq_true rfl)) dX13_open_75 ⟨(Nat.le_of_ble_eq_true rfl), (Nat.le_of_ble_eq_true rfl)⟩) hS (fun q _ h => hFc q h) hFc (fun r_13 u_14 t H locs ht hvm hw hB hz1 hk1 hS => ?_)
    subst hw
    obtain ⟨hP, hD, hK⟩ := jn (wr := [(mm, .inr (17, [.int 0, .int 0, .ref l0, .ref la, .ref l1, .ref l2, .ref l3, .ref sk, .ref ab, .ref bu, .ref cu, .ref sd, .ref l4]))]) (w1 := [(l4, .inr (3, [.int 1, .ref u_12, .int 1]))]) (t1 := []) (tr := [(k_10, .int)]) hP hD hK [1] [0] rfl rfl (by decide) (by decide) [0] rfl hk1 hFc hB rfl rfl ht hvm
    have hP : va_P D vwCl [(mm, .inr (17, [.int 0, .int 0, .ref l0, .ref la, .ref l1, .ref l2, .ref l3, .ref sk, .ref ab, .ref bu, .ref cu, .ref sd, .ref l4])), (l4, .inr (3, [.int 1, .ref u_12, .int 1]))] H := hP
    have hD : va_D A [(mm, .inr (17, [.int 0, .int 0, .ref l0, .ref la, .ref l1, .ref l2, .ref l3, .ref sk, .ref ab, .ref bu, .ref cu, .ref sd, .ref l4])), (l4, .inr (3, [.int 1, .ref u_12, .int 1]))] := hD
    have hK : va_K D vwCl [(k_10, .int)] s := hK
    refine W.widen (k := 2) (n := 12) (Nat.le_of_ble_eq_true rfl) (Nat.le_of_ble_eq_true rfl) ?_
    refine lv_iconst (v := 1) hx hb dX13_open_80 (by decide) ?_
    refine lv_isub hx hb dX13_open_81 ?_
    refine lv_topi (fun y hy => ?_)
    rw [show (1 : Int32) - (1 : Int32) = 0 by decide] at hy
    subst hy
    have hP9 := hP.sub (ws' := [(mm, .inr (17, [.int 0, .int 0, .ref l0, .ref la, .ref l1, .ref l2, .ref l3, .ref sk, .ref ab, .ref bu, .ref cu, .ref sd, .ref l4]))]) [0] rfl
    have hD9 := hD.sub (ws' := [(mm, .inr (17, [.int 0, .int 0, .ref l0, .ref la, .ref l1, .ref l2, .ref l3, .ref sk, .ref ab, .ref bu, .ref cu, .ref sd, .ref l4]))]) [0] (by decide) rfl
    have hK9 := hK.sub (tys' := []) [] rfl
    exact end_i hx hb hr hlocks hP9 hD9 hK9 hS (0, 0) rfl rfl (Or.inl ⟨by simp [h_3], rfl, rfl⟩) (Nat.le_of_ble_eq_true rfl) (Nat.le_of_ble_eq_true rfl) dX13_open_82
  · subst q_4
    refine lv_if_ne (tgt := 22) hx hb dX13_open_13 (by decide) (fun c_15 => absurd (by decide) c_15) (fun c_15 => ?_)
    refine lv_aload_n hx hb dX13_open_16 rfl (lv_at hl 0 rfl) ?_
    refine lv_iconst (v := 1) hx hb dX13_open_17 (by decide) ?_
    have hFc := va_free (wc := [(mm, .inr (17, [.int 0, .int 0, .ref l0, .ref la, .ref l1, .ref l2, .ref l3, .ref sk, .ref ab, .ref bu, .ref cu, .ref sd, .ref l4]))]) hD hS hA [0] rfl
    refine va_calli (va_runV (As := [.int 1]) (rest := []) ⟨hx, hb, hml, hown, hts⟩ (m_fails l D tC tE H.size mm l0 l1 l2 l3 l4 la sk ab bu cu sd 0 0 1) (cwV 1 hts gX13_open_X13_fails rfl rfl rfl (by decide +kernel) ⟨(Nat.le_of_ble_eq_true rfl), (Nat.le_of_ble_eq_true rfl)⟩) ⟨pg_blind, (va_recv hK hP (ci := 17) (q0 := 0) rfl rfl), (pg_pre hP hD hK hG hS hFc [0] rfl (by decide) [] rfl _)⟩ rfl rfl hl.1 rfl (lv_room (Nat.le_of_ble_eq_true rfl)) dX13_open_18 ⟨(Nat.le_of_ble_eq_true rfl), (Nat.le_of_ble_eq_true rfl)⟩) hS (fun q _ h => hFc q h) hFc (fun r_16 u_17 t H locs ht hvm hw hB hz1 hk1 hS => ?_)
    subst hw
    obtain ⟨hP, hD, hK⟩ := jn (wr := [(l4, .inr (3, [.int 0, .ref tE, .int 0]))]) (w1 := [(mm, .inr (17, [.int 1, .int 0, .ref l0, .ref la, .ref l1, .ref l2, .ref l3, .ref sk, .ref ab, .ref bu, .ref cu, .ref sd, .ref l4]))]) (t1 := []) (tr := []) hP hD hK [0] [1] rfl rfl (by decide) (by decide) [] rfl hk1 hFc hB rfl rfl ht hvm
    have hP : va_P D vwCl [(l4, .inr (3, [.int 0, .ref tE, .int 0])), (mm, .inr (17, [.int 1, .int 0, .ref l0, .ref la, .ref l1, .ref l2, .ref l3, .ref sk, .ref ab, .ref bu, .ref cu, .ref sd, .ref l4]))] H := hP
    have hD : va_D A [(l4, .inr (3, [.int 0, .ref tE, .int 0])), (mm, .inr (17, [.int 1, .int 0, .ref l0, .ref la, .ref l1, .ref l2, .ref l3, .ref sk, .ref ab, .ref bu, .ref cu, .ref sd, .ref l4]))] := hD
    have hK : va_K D vwCl [] s := hK
    refine W.widen (k := 0) (n := 0) (Nat.le_of_ble_eq_true rfl) (Nat.le_of_ble_eq_true rfl) ?_
    have hP9 := hP.sub (ws' := [(mm, .inr (17, [.int 1, .int 0, .ref l0, .ref la, .ref l1, .ref l2, .ref l3, .ref sk, .ref ab, .ref bu, .ref cu, .ref sd, .ref l4]))]) [1] rfl
    have hD9 := hD.sub (ws' := [(mm, .inr (17, [.int 1, .int 0, .ref l0, .ref la, .ref l1, .ref l2, .ref l3, .ref sk, .ref ab, .ref bu, .ref cu, .ref sd, .ref l4]))]) [1] (by decide) rfl
    have hK9 := hK.sub (tys' := []) [] rfl
    exact end_i hx hb hr hlocks hP9 hD9 hK9 hS (1, 0) rfl rfl (Or.inr ⟨by simp [h_3], rfl⟩) (Nat.le_of_ble_eq_true rfl) (Nat.le_of_ble_eq_true rfl) dX13_open_21
set_option maxHeartbeats 4000000 in
set_option maxRecDepth 100000 in
/-- packedShare of the reference, on a fresh object -/
theorem m_packedShare (l : Launch) (D : va_G) (tC tE sz : Nat) (mm l0 l1 l2 l3 l4 la sk ab bu cu sd : Nat) : Met l yX13_packedShare wsX13_packedShare ({ frames := 1, cells := 0, slots := 0, locals := 20 }) (Pg D tC tE sz [(mm, .inr (17, [.int 0, .int 0, .ref l0, .ref la, .ref l1, .ref l2, .ref l3, .ref sk, .ref ab, .ref bu, .ref cu, .ref sd, .ref l4])), (l3, .inr (3, [.int 0, .ref tE, .int 0]))] [] [.ref mm]) (Qgf (S := Int32 × Int32) D (fun u => [(mm, .inr (17, [.int (u.1), .int (u.2), .ref l0, .ref la, .ref l1, .ref l2, .ref l3, .ref sk, .ref ab, .ref bu, .ref cu, .ref sd, .ref l4]))]) (fun u => []) (fun _ u => u.1 = 1) (va_A [(mm, .inr (17, [.int 0, .int 0, .ref l0, .ref la, .ref l1, .ref l2, .ref l3, .ref sk, .ref ab, .ref bu, .ref cu, .ref sd, .ref l4])), (l3, .inr (3, [.int 0, .ref tE, .int 0]))] sz)) 0 0 (va_A [(mm, .inr (17, [.int 0, .int 0, .ref l0, .ref la, .ref l1, .ref l2, .ref l3, .ref sk, .ref ab, .ref bu, .ref cu, .ref sd, .ref l4])), (l3, .inr (3, [.int 0, .ref tE, .int 0]))] sz) := by
  refine og_m (cc := cX13_packedShare) (maxL := 1) (ret := (some .float)) (Qc := Qgf (S := Int32 × Int32) D (fun u => [(mm, .inr (17, [.int (u.1), .int (u.2), .ref l0, .ref la, .ref l1, .ref l2, .ref l3, .ref sk, .ref ab, .ref bu, .ref cu, .ref sd, .ref l4]))]) (fun u => []) (fun _ u => u.1 = 1)) (by decide) rfl (Nat.le_of_ble_eq_true rfl) ?_
  intro p e s m below meth c A hx hb hr hml hts hown hlocks hin hP hD hK hG hA hS ls hl
  have hl : lv_has ls 1 [(0, .ref mm)] := hl
  refine lv_aload_n hx hb dX13_packedShare_0 rfl (lv_at hl 0 rfl) ?_
  refine lv_aload_n hx hb dX13_packedShare_1 rfl (lv_at hl 0 rfl) ?_
  refine va_get (D := D) (ci := 17) (v := .ref l3) (C := RX13) (T := TX13) (N := 13) hx hb hts (fun w h => List.mem_cons_of_mem _ (List.mem_append_left _ (List.mem_append_left _ (List.mem_append_left _ (List.mem_append_left _ (List.mem_append_right _ h)))))) hown hK hP 0 rfl rfl 6 (by decide) (hts (.fieldLink RX13 26 "LastroomModel" "tickets" "Ljava/util/List;") (List.mem_of_getElem? (i := 1) rfl)) (fun _ h9 => h9) rfl dX13_packedShare_2 ?_
  have hFc := va_free (wc := [(l3, .inr (3, [.int 0, .ref tE, .int 0]))]) hD hS hA [1] rfl
  refine va_callFi (va_runF (As := []) (rest := [.ref mm]) (hK.1 3 _ rfl).2 ⟨hx, hb, hml, hown, hts⟩ (c_isEmpty l D tC tE s.heap.size l3) (va_cwF 0 hts gX13_packedShare_Jx4a65c_isEmpty_aae02_f171Jx4a65c rfl rfl rfl (hG.2.2.2.2.2.2.2.2.1 _ (List.mem_of_getElem? (i := 4) rfl)) (by decide +kernel) ⟨(Nat.le_of_ble_eq_true rfl), (Nat.le_of_ble_eq_true rfl)⟩) ⟨pg_blind, (va_recv hK hP (ci := 3) (q0 := 1) rfl rfl), (pg_pre hP hD hK hG hS hFc [1] rfl (by decide) [] rfl _)⟩ rfl rfl hl.1 rfl (lv_room (Nat.le_of_ble_eq_true rfl)) dX13_packedShare_5 ⟨(Nat.le_of_ble_eq_true rfl), (Nat.le_of_ble_eq_true rfl)⟩) hS (fun q _ h => hFc q h) hFc (fun r_1 u_2 t H locs ht hvm hw hB hz1 hk1 hS => ?_)
  subst hw
  obtain ⟨hP, hD, hK⟩ := jn (wr := [(mm, .inr (17, [.int 0, .int 0, .ref l0, .ref la, .ref l1, .ref l2, .ref l3, .ref sk, .ref ab, .ref bu, .ref cu, .ref sd, .ref l4]))]) (w1 := [(l3, .inr (3, [.int 0, .ref tE, .int 0]))]) (t1 := []) (tr := []) hP hD hK [1] [0] rfl rfl (by decide) (by decide) [] rfl hk1 hFc hB rfl rfl ht hvm
  have hP : va_P D vwCl [(mm, .inr (17, [.int 0, .int 0, .ref l0, .ref la, .ref l1, .ref l2, .ref l3, .ref sk, .ref ab, .ref bu, .ref cu, .ref sd, .ref l4])), (l3, .inr (3, [.int 0, .ref tE, .int 0]))] H := hP
  have hD : va_D A [(mm, .inr (17, [.int 0, .int 0, .ref l0, .ref la, .ref l1, .ref l2, .ref l3, .ref sk, .ref ab, .ref bu, .ref cu, .ref sd, .ref l4])), (l3, .inr (3, [.int 0, .ref tE, .int 0]))] := hD
  have hK : va_K D vwCl [] s := hK
  refine W.widen (k := 0) (n := 0) (Nat.le_of_ble_eq_true rfl) (Nat.le_of_ble_eq_true rfl) ?_
  refine lv_if_eq (tgt := 17) hx hb dX13_packedShare_10 (by decide) (fun c_3 => absurd c_3 (show ¬ (1 : Int32) = 0 from (by decide))) (fun c_3 => ?_)
  refine lv_iconst (v := 1) hx hb dX13_packedShare_13 (by decide) ?_
  refine lv_goto (tgt := 18) hx hb dX13_packedShare_14 (by decide) ?_
  refine va_put (D := D) (ci := 17) (v := .int 1) (ty := .int) (C := RX13) (T := TX13) (N := 13) hx hb hts (fun w h => List.mem_cons_of_mem _ (List.mem_append_left _ (List.mem_append_left _ (List.mem_append_left _ (List.mem_append_left _ (List.mem_append_right _ h)))))) tyX13 tyX13_ok nmX13 hown hK hP hD hS 0 rfl rfl 0 (by decide) (hts (.fieldLink RX13 48 "LastroomModel" "code" "I") (List.mem_of_getElem? (i := 2) rfl)) (fun _ h9 => h9) rfl (by decide +kernel) rfl rfl (Nat.le_of_ble_eq_true rfl) dX13_packedShare_18 (fun H locs hP hD hS => ?_)
  have hP : va_P D vwCl [(mm, .inr (17, [.int 1, .int 0, .ref l0, .ref la, .ref l1, .ref l2, .ref l3, .ref sk, .ref ab, .ref bu, .ref cu, .ref sd, .ref l4])), (l3, .inr (3, [.int 0, .ref tE, .int 0]))] H := hP
  have hD : va_D A [(mm, .inr (17, [.int 1, .int 0, .ref l0, .ref la, .ref l1, .ref l2, .ref l3, .ref sk, .ref ab, .ref bu, .ref cu, .ref sd, .ref l4])), (l3, .inr (3, [.int 0, .ref tE, .int 0]))] := hD
  refine lv_aload_n hx hb dX13_packedShare_21 rfl (lv_at hl 0 rfl) ?_
  refine va_get (D := D) (ci := 17) (v := .int 1) (C := RX13) (T := TX13) (N := 13) hx hb hts (fun w h => List.mem_cons_of_mem _ (List.mem_append_left _ (List.mem_append_left _ (List.mem_append_left _ (List.mem_append_left _ (List.mem_append_right _ h)))))) hown hK hP 0 rfl rfl 0 (by decide) (hts (.fieldLink RX13 48 "LastroomModel" "code" "I") (List.mem_of_getElem? (i := 2) rfl)) (fun _ h9 => h9) rfl dX13_packedShare_22 ?_
  refine lv_if_le (tgt := 32) hx hb dX13_packedShare_25 (by decide) (fun c_4 => absurd c_4 (show ¬ (1 : Int32) ≤ 0 from (by decide))) (fun c_4 => ?_)
  refine lv_fconst0 hx hb dX13_packedShare_28 ?_
  refine lv_goto (tgt := 61) hx hb dX13_packedShare_29 (by decide) ?_
  have hP9 := hP.sub (ws' := [(mm, .inr (17, [.int 1, .int 0, .ref l0, .ref la, .ref l1, .ref l2, .ref l3, .ref sk, .ref ab, .ref bu, .ref cu, .ref sd, .ref l4]))]) [0] rfl
  have hD9 := hD.sub (ws' := [(mm, .inr (17, [.int 1, .int 0, .ref l0, .ref la, .ref l1, .ref l2, .ref l3, .ref sk, .ref ab, .ref bu, .ref cu, .ref sd, .ref l4]))]) [0] (by decide) rfl
  have hK9 := hK.sub (tys' := []) [] rfl
  exact end_f hx hb hr hlocks hP9 hD9 hK9 hS (1, 0) rfl rfl rfl (Nat.le_of_ble_eq_true rfl) (Nat.le_of_ble_eq_true rfl) dX13_packedShare_61
set_option maxHeartbeats 4000000 in
set_option maxRecDepth 100000 in
/-- meanWaste of the reference, on a fresh object -/
theorem m_meanWaste (l : Launch) (D : va_G) (tC tE sz : Nat) (mm l0 l1 l2 l3 l4 la sk ab bu cu sd : Nat) : Met l yX13_meanWaste wsX13_meanWaste ({ frames := 3, cells := 1, slots := 4, locals := 53 }) (Pg D tC tE sz [(mm, .inr (17, [.int 0, .int 0, .ref l0, .ref la, .ref l1, .ref l2, .ref l3, .ref sk, .ref ab, .ref bu, .ref cu, .ref sd, .ref l4])), (l2, .inr (3, [.int 0, .ref tE, .int 0]))] [] [.ref mm]) (Qgd (S := Int32 × Int32) D (fun u => [(mm, .inr (17, [.int (u.1), .int (u.2), .ref l0, .ref la, .ref l1, .ref l2, .ref l3, .ref sk, .ref ab, .ref bu, .ref cu, .ref sd, .ref l4]))]) (fun u => []) (fun _ u => u.1 = 1) (va_A [(mm, .inr (17, [.int 0, .int 0, .ref l0, .ref la, .ref l1, .ref l2, .ref l3, .ref sk, .ref ab, .ref bu, .ref cu, .ref sd, .ref l4])), (l2, .inr (3, [.int 0, .ref tE, .int 0]))] sz)) 1 4 (va_A [(mm, .inr (17, [.int 0, .int 0, .ref l0, .ref la, .ref l1, .ref l2, .ref l3, .ref sk, .ref ab, .ref bu, .ref cu, .ref sd, .ref l4])), (l2, .inr (3, [.int 0, .ref tE, .int 0]))] sz) := by
  refine og_m (cc := cX13_meanWaste) (maxL := 4) (ret := (some .double)) (Qc := Qgd (S := Int32 × Int32) D (fun u => [(mm, .inr (17, [.int (u.1), .int (u.2), .ref l0, .ref la, .ref l1, .ref l2, .ref l3, .ref sk, .ref ab, .ref bu, .ref cu, .ref sd, .ref l4]))]) (fun u => []) (fun _ u => u.1 = 1)) (by decide) rfl (Nat.le_of_ble_eq_true rfl) ?_
  intro p e s m below meth c A hx hb hr hml hts hown hlocks hin hP hD hK hG hA hS ls hl
  have hl : lv_has ls 4 [(0, .ref mm)] := hl
  refine lv_iconst (v := 0) hx hb dX13_meanWaste_0 (by decide) ?_
  refine lv_istore_n (lv' := [(1, .int 0), (0, .ref mm)]) hx hb dX13_meanWaste_1 rfl hl (by decide) rfl (fun ls hl => ?_)
  refine lv_aload_n hx hb dX13_meanWaste_2 rfl (lv_at hl 1 rfl) ?_
  refine va_get (D := D) (ci := 17) (v := .ref l2) (C := RX13) (T := TX13) (N := 13) hx hb hts (fun w h => List.mem_cons_of_mem _ (List.mem_append_left _ (List.mem_append_left _ (List.mem_append_left _ (List.mem_append_left _ (List.mem_append_left _ (List.mem_append_right _ h))))))) hown hK hP 0 rfl rfl 5 (by decide) (hts (.fieldLink RX13 23 "LastroomModel" "hides" "Ljava/util/List;") (List.mem_of_getElem? (i := 1) rfl)) (fun _ h9 => h9) rfl dX13_meanWaste_3 ?_
  have hFc := va_free (wc := [(l2, .inr (3, [.int 0, .ref tE, .int 0]))]) hD hS hA [1] rfl
  refine va_callFr (va_runF (As := []) (rest := []) (hK.1 3 _ rfl).2 ⟨hx, hb, hml, hown, hts⟩ (c_iterator l D tC tE s.heap.size l2) (va_cwF 0 hts gX13_meanWaste_Jx4a65c_iterator_32c93_f111Jx4a65c rfl rfl rfl (hG.2.2.2.2.2.2.2.2.1 _ (List.mem_of_getElem? (i := 2) rfl)) (by decide +kernel) ⟨(Nat.le_of_ble_eq_true rfl), (Nat.le_of_ble_eq_true rfl)⟩) ⟨pg_blind, (va_recv hK hP (ci := 3) (q0 := 1) rfl rfl), (pg_pre hP hD hK hG hS hFc [1] rfl (by decide) [] rfl _)⟩ rfl rfl hl.1 rfl (lv_room (Nat.le_of_ble_eq_true rfl)) dX13_meanWaste_6 ⟨(Nat.le_of_ble_eq_true rfl), (Nat.le_of_ble_eq_true rfl)⟩) hS (fun q _ h => hFc q h) hFc (fun u_2 r_1 t H locs ht hvm hw hB hz1 hk1 hS => ?_)
  obtain ⟨hra, hB⟩ := hB
  have hra := hra.symm
  subst hra
  obtain ⟨hP, hD, hK⟩ := jn (wr := [(mm, .inr (17, [.int 0, .int 0, .ref l0, .ref la, .ref l1, .ref l2, .ref l3, .ref sk, .ref ab, .ref bu, .ref cu, .ref sd, .ref l4]))]) (w1 := [(u_2, .inr (2, [.int 0, .int (-1), .int 0, .ref l2])), (l2, .inr (3, [.int 0, .ref tE, .int 0]))]) (t1 := []) (tr := []) hP hD hK [1] [0] rfl rfl (by decide) (by decide) [] rfl hk1 hFc hB rfl rfl ht hvm
  have hP : va_P D vwCl [(mm, .inr (17, [.int 0, .int 0, .ref l0, .ref la, .ref l1, .ref l2, .ref l3, .ref sk, .ref ab, .ref bu, .ref cu, .ref sd, .ref l4])), (u_2, .inr (2, [.int 0, .int (-1), .int 0, .ref l2])), (l2, .inr (3, [.int 0, .ref tE, .int 0]))] H := hP
  have hD : va_D A [(mm, .inr (17, [.int 0, .int 0, .ref l0, .ref la, .ref l1, .ref l2, .ref l3, .ref sk, .ref ab, .ref bu, .ref cu, .ref sd, .ref l4])), (u_2, .inr (2, [.int 0, .int (-1), .int 0, .ref l2])), (l2, .inr (3, [.int 0, .ref tE, .int 0]))] := hD
  have hK : va_K D vwCl [] s := hK
  refine W.widen (k := 1) (n := 4) (Nat.le_of_ble_eq_true rfl) (Nat.le_of_ble_eq_true rfl) ?_
  refine lv_astore_n (lv' := [(2, .ref u_2), (1, .int 0), (0, .ref mm)]) hx hb dX13_meanWaste_11 rfl hl (by decide) rfl (fun ls hl => ?_)
  refine lv_aload_n hx hb dX13_meanWaste_12 rfl (lv_at hl 0 rfl) ?_
  have hFc := va_free (wc := [(u_2, .inr (2, [.int 0, .int (-1), .int 0, .ref l2])), (l2, .inr (3, [.int 0, .ref tE, .int 0]))]) hD hS hA [1, 2] rfl
  refine va_callFi (va_runF (As := []) (rest := []) (hK.1 2 _ rfl).2 ⟨hx, hb, hml, hown, hts⟩ (c_hasNext l D tC tE H.size u_2 l2) (va_cwF 0 hts gX13_meanWaste_Jx35411_hasNext_aae02_f115Jx35411 rfl rfl rfl (hG.2.2.2.2.2.2.2.2.1 _ (List.mem_of_getElem? (i := 3) rfl)) (by decide +kernel) ⟨(Nat.le_of_ble_eq_true rfl), (Nat.le_of_ble_eq_true rfl)⟩) ⟨pg_blind, (va_recv hK hP (ci := 2) (q0 := 1) rfl rfl), (pg_pre hP hD hK hG hS hFc [1, 2] rfl (by decide) [] rfl _)⟩ rfl rfl hl.1 rfl (lv_room (Nat.le_of_ble_eq_true rfl)) dX13_meanWaste_13 ⟨(Nat.le_of_ble_eq_true rfl), (Nat.le_of_ble_eq_true rfl)⟩) hS (fun q _ h => hFc q h) hFc (fun r_3 u_4 t H locs ht hvm hw hB hz1 hk1 hS => ?_)
  subst hw
  obtain ⟨hP, hD, hK⟩ := jn (wr := [(mm, .inr (17, [.int 0, .int 0, .ref l0, .ref la, .ref l1, .ref l2, .ref l3, .ref sk, .ref ab, .ref bu, .ref cu, .ref sd, .ref l4]))]) (w1 := [(u_2, .inr (2, [.int 0, .int (-1), .int 0, .ref l2])), (l2, .inr (3, [.int 0, .ref tE, .int 0]))]) (t1 := []) (tr := []) hP hD hK [1, 2] [0] rfl rfl (by decide) (by decide) [] rfl hk1 hFc hB rfl rfl ht hvm
  have hP : va_P D vwCl [(mm, .inr (17, [.int 0, .int 0, .ref l0, .ref la, .ref l1, .ref l2, .ref l3, .ref sk, .ref ab, .ref bu, .ref cu, .ref sd, .ref l4])), (u_2, .inr (2, [.int 0, .int (-1), .int 0, .ref l2])), (l2, .inr (3, [.int 0, .ref tE, .int 0]))] H := hP
  have hD : va_D A [(mm, .inr (17, [.int 0, .int 0, .ref l0, .ref la, .ref l1, .ref l2, .ref l3, .ref sk, .ref ab, .ref bu, .ref cu, .ref sd, .ref l4])), (u_2, .inr (2, [.int 0, .int (-1), .int 0, .ref l2])), (l2, .inr (3, [.int 0, .ref tE, .int 0]))] := hD
  have hK : va_K D vwCl [] s := hK
  refine W.widen (k := 1) (n := 4) (Nat.le_of_ble_eq_true rfl) (Nat.le_of_ble_eq_true rfl) ?_
  refine lv_if_eq (tgt := 42) hx hb dX13_meanWaste_18 (by decide) (fun c_5 => ?_) (fun c_5 => absurd (show (0 : Int32) = 0 from (by decide)) c_5)
  refine lv_aload_n hx hb dX13_meanWaste_42 rfl (lv_at hl 2 rfl) ?_
  refine lv_aload_n hx hb dX13_meanWaste_43 rfl (lv_at hl 2 rfl) ?_
  refine va_get (D := D) (ci := 17) (v := .ref l2) (C := RX13) (T := TX13) (N := 13) hx hb hts (fun w h => List.mem_cons_of_mem _ (List.mem_append_left _ (List.mem_append_left _ (List.mem_append_left _ (List.mem_append_left _ (List.mem_append_left _ (List.mem_append_right _ h))))))) hown hK hP 0 rfl rfl 5 (by decide) (hts (.fieldLink RX13 23 "LastroomModel" "hides" "Ljava/util/List;") (List.mem_of_getElem? (i := 1) rfl)) (fun _ h9 => h9) rfl dX13_meanWaste_44 ?_
  have hFc := va_free (wc := [(l2, .inr (3, [.int 0, .ref tE, .int 0]))]) hD hS hA [2] rfl
  refine va_callFi (va_runF (As := []) (rest := [.ref mm]) (hK.1 3 _ rfl).2 ⟨hx, hb, hml, hown, hts⟩ (c_isEmpty l D tC tE H.size l2) (va_cwF 0 hts gX13_meanWaste_Jx4a65c_isEmpty_aae02_f171Jx4a65c rfl rfl rfl (hG.2.2.2.2.2.2.2.2.1 _ (List.mem_of_getElem? (i := 4) rfl)) (by decide +kernel) ⟨(Nat.le_of_ble_eq_true rfl), (Nat.le_of_ble_eq_true rfl)⟩) ⟨pg_blind, (va_recv hK hP (ci := 3) (q0 := 2) rfl rfl), (pg_pre hP hD hK hG hS hFc [2] rfl (by decide) [] rfl _)⟩ rfl rfl hl.1 rfl (lv_room (Nat.le_of_ble_eq_true rfl)) dX13_meanWaste_47 ⟨(Nat.le_of_ble_eq_true rfl), (Nat.le_of_ble_eq_true rfl)⟩) hS (fun q _ h => hFc q h) hFc (fun r_6 u_7 t H locs ht hvm hw hB hz1 hk1 hS => ?_)
  subst hw
  obtain ⟨hP, hD, hK⟩ := jn (wr := [(mm, .inr (17, [.int 0, .int 0, .ref l0, .ref la, .ref l1, .ref l2, .ref l3, .ref sk, .ref ab, .ref bu, .ref cu, .ref sd, .ref l4])), (u_2, .inr (2, [.int 0, .int (-1), .int 0, .ref l2]))]) (w1 := [(l2, .inr (3, [.int 0, .ref tE, .int 0]))]) (t1 := []) (tr := []) hP hD hK [2] [0, 1] rfl rfl (by decide) (by decide) [] rfl hk1 hFc hB rfl rfl ht hvm
  have hP : va_P D vwCl [(mm, .inr (17, [.int 0, .int 0, .ref l0, .ref la, .ref l1, .ref l2, .ref l3, .ref sk, .ref ab, .ref bu, .ref cu, .ref sd, .ref l4])), (u_2, .inr (2, [.int 0, .int (-1), .int 0, .ref l2])), (l2, .inr (3, [.int 0, .ref tE, .int 0]))] H := hP
  have hD : va_D A [(mm, .inr (17, [.int 0, .int 0, .ref l0, .ref la, .ref l1, .ref l2, .ref l3, .ref sk, .ref ab, .ref bu, .ref cu, .ref sd, .ref l4])), (u_2, .inr (2, [.int 0, .int (-1), .int 0, .ref l2])), (l2, .inr (3, [.int 0, .ref tE, .int 0]))] := hD
  have hK : va_K D vwCl [] s := hK
  refine W.widen (k := 1) (n := 4) (Nat.le_of_ble_eq_true rfl) (Nat.le_of_ble_eq_true rfl) ?_
  refine lv_if_eq (tgt := 59) hx hb dX13_meanWaste_52 (by decide) (fun c_8 => absurd c_8 (show ¬ (1 : Int32) = 0 from (by decide))) (fun c_8 => ?_)
  refine lv_iconst (v := 1) hx hb dX13_meanWaste_55 (by decide) ?_
  refine lv_goto (tgt := 60) hx hb dX13_meanWaste_56 (by decide) ?_
  refine va_put (D := D) (ci := 17) (v := .int 1) (ty := .int) (C := RX13) (T := TX13) (N := 13) hx hb hts (fun w h => List.mem_cons_of_mem _ (List.mem_append_left _ (List.mem_append_left _ (List.mem_append_left _ (List.mem_append_left _ (List.mem_append_left _ (List.mem_append_right _ h))))))) tyX13 tyX13_ok nmX13 hown hK hP hD hS 0 rfl rfl 0 (by decide) (hts (.fieldLink RX13 48 "LastroomModel" "code" "I") (List.mem_of_getElem? (i := 3) rfl)) (fun _ h9 => h9) rfl (by decide +kernel) rfl rfl (Nat.le_of_ble_eq_true rfl) dX13_meanWaste_60 (fun H locs hP hD hS => ?_)
  have hP : va_P D vwCl [(mm, .inr (17, [.int 1, .int 0, .ref l0, .ref la, .ref l1, .ref l2, .ref l3, .ref sk, .ref ab, .ref bu, .ref cu, .ref sd, .ref l4])), (u_2, .inr (2, [.int 0, .int (-1), .int 0, .ref l2])), (l2, .inr (3, [.int 0, .ref tE, .int 0]))] H := hP
  have hD : va_D A [(mm, .inr (17, [.int 1, .int 0, .ref l0, .ref la, .ref l1, .ref l2, .ref l3, .ref sk, .ref ab, .ref bu, .ref cu, .ref sd, .ref l4])), (u_2, .inr (2, [.int 0, .int (-1), .int 0, .ref l2])), (l2, .inr (3, [.int 0, .ref tE, .int 0]))] := hD
  refine lv_aload_n hx hb dX13_meanWaste_63 rfl (lv_at hl 2 rfl) ?_
  refine va_get (D := D) (ci := 17) (v := .int 1) (C := RX13) (T := TX13) (N := 13) hx hb hts (fun w h => List.mem_cons_of_mem _ (List.mem_append_left _ (List.mem_append_left _ (List.mem_append_left _ (List.mem_append_left _ (List.mem_append_left _ (List.mem_append_right _ h))))))) hown hK hP 0 rfl rfl 0 (by decide) (hts (.fieldLink RX13 48 "LastroomModel" "code" "I") (List.mem_of_getElem? (i := 3) rfl)) (fun _ h9 => h9) rfl dX13_meanWaste_64 ?_
  refine lv_if_le (tgt := 74) hx hb dX13_meanWaste_67 (by decide) (fun c_9 => absurd c_9 (show ¬ (1 : Int32) ≤ 0 from (by decide))) (fun c_9 => ?_)
  refine lv_dconst0 hx hb dX13_meanWaste_70 ?_
  refine lv_goto (tgt := 87) hx hb dX13_meanWaste_71 (by decide) ?_
  have hP9 := hP.sub (ws' := [(mm, .inr (17, [.int 1, .int 0, .ref l0, .ref la, .ref l1, .ref l2, .ref l3, .ref sk, .ref ab, .ref bu, .ref cu, .ref sd, .ref l4]))]) [0] rfl
  have hD9 := hD.sub (ws' := [(mm, .inr (17, [.int 1, .int 0, .ref l0, .ref la, .ref l1, .ref l2, .ref l3, .ref sk, .ref ab, .ref bu, .ref cu, .ref sd, .ref l4]))]) [0] (by decide) rfl
  have hK9 := hK.sub (tys' := []) [] rfl
  exact end_d hx hb hr hlocks hP9 hD9 hK9 hS (1, 0) rfl rfl rfl (Nat.le_of_ble_eq_true rfl) (Nat.le_of_ble_eq_true rfl) dX13_meanWaste_87
set_option maxHeartbeats 4000000 in
set_option maxRecDepth 100000 in
/-- checksum of the reference, on a fresh object -/
theorem m_checksum (l : Launch) (D : va_G) (tC tE sz : Nat) (mm l0 l1 l2 l3 l4 la sk ab bu cu sd : Nat) : Met l yX13_checksum wsX13_checksum ({ frames := 3, cells := 1, slots := 4, locals := 53 }) (Pg D tC tE sz [(mm, .inr (17, [.int 0, .int 0, .ref l0, .ref la, .ref l1, .ref l2, .ref l3, .ref sk, .ref ab, .ref bu, .ref cu, .ref sd, .ref l4])), (l3, .inr (3, [.int 0, .ref tE, .int 0]))] [] [.ref mm]) (Qgl (S := Int32 × Int32) D (fun u => [(mm, .inr (17, [.int (u.1), .int (u.2), .ref l0, .ref la, .ref l1, .ref l2, .ref l3, .ref sk, .ref ab, .ref bu, .ref cu, .ref sd, .ref l4]))]) (fun u => []) (fun r _ => r = 0) (va_A [(mm, .inr (17, [.int 0, .int 0, .ref l0, .ref la, .ref l1, .ref l2, .ref l3, .ref sk, .ref ab, .ref bu, .ref cu, .ref sd, .ref l4])), (l3, .inr (3, [.int 0, .ref tE, .int 0]))] sz)) 1 4 (va_A [(mm, .inr (17, [.int 0, .int 0, .ref l0, .ref la, .ref l1, .ref l2, .ref l3, .ref sk, .ref ab, .ref bu, .ref cu, .ref sd, .ref l4])), (l3, .inr (3, [.int 0, .ref tE, .int 0]))] sz) := by
  refine og_m (cc := cX13_checksum) (maxL := 5) (ret := (some .long)) (Qc := Qgl (S := Int32 × Int32) D (fun u => [(mm, .inr (17, [.int (u.1), .int (u.2), .ref l0, .ref la, .ref l1, .ref l2, .ref l3, .ref sk, .ref ab, .ref bu, .ref cu, .ref sd, .ref l4]))]) (fun u => []) (fun r _ => r = 0)) (by decide) rfl (Nat.le_of_ble_eq_true rfl) ?_
  intro p e s m below meth c A hx hb hr hml hts hown hlocks hin hP hD hK hG hA hS ls hl
  have hl : lv_has ls 5 [(0, .ref mm)] := hl
  refine lv_aload_n hx hb dX13_checksum_0 rfl (lv_at hl 0 rfl) ?_
  refine lv_iconst (v := 0) hx hb dX13_checksum_1 (by decide) ?_
  refine va_put (D := D) (ci := 17) (v := .int 0) (ty := .int) (C := RX13) (T := TX13) (N := 13) hx hb hts (fun w h => List.mem_cons_of_mem _ (List.mem_append_left _ (List.mem_append_left _ (List.mem_append_left _ (List.mem_append_left _ (List.mem_append_left _ (List.mem_append_right _ h))))))) tyX13 tyX13_ok nmX13 hown hK hP hD hS 0 rfl rfl 0 (by decide) (hts (.fieldLink RX13 48 "LastroomModel" "code" "I") (List.mem_of_getElem? (i := 1) rfl)) (fun _ h9 => h9) rfl (by decide +kernel) rfl rfl (Nat.le_of_ble_eq_true rfl) dX13_checksum_2 (fun H locs hP hD hS => ?_)
  have hP : va_P D vwCl [(mm, .inr (17, [.int 0, .int 0, .ref l0, .ref la, .ref l1, .ref l2, .ref l3, .ref sk, .ref ab, .ref bu, .ref cu, .ref sd, .ref l4])), (l3, .inr (3, [.int 0, .ref tE, .int 0]))] H := hP
  have hD : va_D A [(mm, .inr (17, [.int 0, .int 0, .ref l0, .ref la, .ref l1, .ref l2, .ref l3, .ref sk, .ref ab, .ref bu, .ref cu, .ref sd, .ref l4])), (l3, .inr (3, [.int 0, .ref tE, .int 0]))] := hD
  refine lv_lconst (v := 0) hx hb dX13_checksum_5 (by decide) ?_
  refine lv_lstore_n (lv' := [(1, .long 0), (0, .ref mm)]) hx hb dX13_checksum_6 rfl hl (by decide) rfl (fun ls hl => ?_)
  refine lv_aload_n hx hb dX13_checksum_7 rfl (lv_at hl 1 rfl) ?_
  refine va_get (D := D) (ci := 17) (v := .ref l3) (C := RX13) (T := TX13) (N := 13) hx hb hts (fun w h => List.mem_cons_of_mem _ (List.mem_append_left _ (List.mem_append_left _ (List.mem_append_left _ (List.mem_append_left _ (List.mem_append_left _ (List.mem_append_right _ h))))))) hown hK hP 0 rfl rfl 6 (by decide) (hts (.fieldLink RX13 26 "LastroomModel" "tickets" "Ljava/util/List;") (List.mem_of_getElem? (i := 2) rfl)) (fun _ h9 => h9) rfl dX13_checksum_8 ?_
  have hFc := va_free (wc := [(l3, .inr (3, [.int 0, .ref tE, .int 0]))]) hD hS hA [1] rfl
  refine va_callFr (va_runF (As := []) (rest := []) (hK.1 3 _ rfl).2 ⟨hx, hb, hml, hown, hts⟩ (c_iterator l D tC tE H.size l3) (va_cwF 0 hts gX13_checksum_Jx4a65c_iterator_32c93_f111Jx4a65c rfl rfl rfl (hG.2.2.2.2.2.2.2.2.1 _ (List.mem_of_getElem? (i := 2) rfl)) (by decide +kernel) ⟨(Nat.le_of_ble_eq_true rfl), (Nat.le_of_ble_eq_true rfl)⟩) ⟨pg_blind, (va_recv hK hP (ci := 3) (q0 := 1) rfl rfl), (pg_pre hP hD hK hG hS hFc [1] rfl (by decide) [] rfl _)⟩ rfl rfl hl.1 rfl (lv_room (Nat.le_of_ble_eq_true rfl)) dX13_checksum_11 ⟨(Nat.le_of_ble_eq_true rfl), (Nat.le_of_ble_eq_true rfl)⟩) hS (fun q _ h => hFc q h) hFc (fun u_2 r_1 t H locs ht hvm hw hB hz1 hk1 hS => ?_)
  obtain ⟨hra, hB⟩ := hB
  have hra := hra.symm
  subst hra
  obtain ⟨hP, hD, hK⟩ := jn (wr := [(mm, .inr (17, [.int 0, .int 0, .ref l0, .ref la, .ref l1, .ref l2, .ref l3, .ref sk, .ref ab, .ref bu, .ref cu, .ref sd, .ref l4]))]) (w1 := [(u_2, .inr (2, [.int 0, .int (-1), .int 0, .ref l3])), (l3, .inr (3, [.int 0, .ref tE, .int 0]))]) (t1 := []) (tr := []) hP hD hK [1] [0] rfl rfl (by decide) (by decide) [] rfl hk1 hFc hB rfl rfl ht hvm
  have hP : va_P D vwCl [(mm, .inr (17, [.int 0, .int 0, .ref l0, .ref la, .ref l1, .ref l2, .ref l3, .ref sk, .ref ab, .ref bu, .ref cu, .ref sd, .ref l4])), (u_2, .inr (2, [.int 0, .int (-1), .int 0, .ref l3])), (l3, .inr (3, [.int 0, .ref tE, .int 0]))] H := hP
  have hD : va_D A [(mm, .inr (17, [.int 0, .int 0, .ref l0, .ref la, .ref l1, .ref l2, .ref l3, .ref sk, .ref ab, .ref bu, .ref cu, .ref sd, .ref l4])), (u_2, .inr (2, [.int 0, .int (-1), .int 0, .ref l3])), (l3, .inr (3, [.int 0, .ref tE, .int 0]))] := hD
  have hK : va_K D vwCl [] s := hK
  refine W.widen (k := 1) (n := 4) (Nat.le_of_ble_eq_true rfl) (Nat.le_of_ble_eq_true rfl) ?_
  refine lv_astore_n (lv' := [(3, .ref u_2), (1, .long 0), (0, .ref mm)]) hx hb dX13_checksum_16 rfl hl (by decide) rfl (fun ls hl => ?_)
  refine lv_aload_n hx hb dX13_checksum_17 rfl (lv_at hl 0 rfl) ?_
  have hFc := va_free (wc := [(u_2, .inr (2, [.int 0, .int (-1), .int 0, .ref l3])), (l3, .inr (3, [.int 0, .ref tE, .int 0]))]) hD hS hA [1, 2] rfl
  refine va_callFi (va_runF (As := []) (rest := []) (hK.1 2 _ rfl).2 ⟨hx, hb, hml, hown, hts⟩ (c_hasNext l D tC tE H.size u_2 l3) (va_cwF 0 hts gX13_checksum_Jx35411_hasNext_aae02_f115Jx35411 rfl rfl rfl (hG.2.2.2.2.2.2.2.2.1 _ (List.mem_of_getElem? (i := 3) rfl)) (by decide +kernel) ⟨(Nat.le_of_ble_eq_true rfl), (Nat.le_of_ble_eq_true rfl)⟩) ⟨pg_blind, (va_recv hK hP (ci := 2) (q0 := 1) rfl rfl), (pg_pre hP hD hK hG hS hFc [1, 2] rfl (by decide) [] rfl _)⟩ rfl rfl hl.1 rfl (lv_room (Nat.le_of_ble_eq_true rfl)) dX13_checksum_18 ⟨(Nat.le_of_ble_eq_true rfl), (Nat.le_of_ble_eq_true rfl)⟩) hS (fun q _ h => hFc q h) hFc (fun r_3 u_4 t H locs ht hvm hw hB hz1 hk1 hS => ?_)
  subst hw
  obtain ⟨hP, hD, hK⟩ := jn (wr := [(mm, .inr (17, [.int 0, .int 0, .ref l0, .ref la, .ref l1, .ref l2, .ref l3, .ref sk, .ref ab, .ref bu, .ref cu, .ref sd, .ref l4]))]) (w1 := [(u_2, .inr (2, [.int 0, .int (-1), .int 0, .ref l3])), (l3, .inr (3, [.int 0, .ref tE, .int 0]))]) (t1 := []) (tr := []) hP hD hK [1, 2] [0] rfl rfl (by decide) (by decide) [] rfl hk1 hFc hB rfl rfl ht hvm
  have hP : va_P D vwCl [(mm, .inr (17, [.int 0, .int 0, .ref l0, .ref la, .ref l1, .ref l2, .ref l3, .ref sk, .ref ab, .ref bu, .ref cu, .ref sd, .ref l4])), (u_2, .inr (2, [.int 0, .int (-1), .int 0, .ref l3])), (l3, .inr (3, [.int 0, .ref tE, .int 0]))] H := hP
  have hD : va_D A [(mm, .inr (17, [.int 0, .int 0, .ref l0, .ref la, .ref l1, .ref l2, .ref l3, .ref sk, .ref ab, .ref bu, .ref cu, .ref sd, .ref l4])), (u_2, .inr (2, [.int 0, .int (-1), .int 0, .ref l3])), (l3, .inr (3, [.int 0, .ref tE, .int 0]))] := hD
  have hK : va_K D vwCl [] s := hK
  refine W.widen (k := 1) (n := 4) (Nat.le_of_ble_eq_true rfl) (Nat.le_of_ble_eq_true rfl) ?_
  refine lv_if_eq (tgt := 74) hx hb dX13_checksum_23 (by decide) (fun c_5 => ?_) (fun c_5 => absurd (show (0 : Int32) = 0 from (by decide)) c_5)
  refine lv_lload_n hx hb dX13_checksum_74 rfl (lv_at hl 1 rfl) ?_
  have hP9 := hP.sub (ws' := [(mm, .inr (17, [.int 0, .int 0, .ref l0, .ref la, .ref l1, .ref l2, .ref l3, .ref sk, .ref ab, .ref bu, .ref cu, .ref sd, .ref l4]))]) [0] rfl
  have hD9 := hD.sub (ws' := [(mm, .inr (17, [.int 0, .int 0, .ref l0, .ref la, .ref l1, .ref l2, .ref l3, .ref sk, .ref ab, .ref bu, .ref cu, .ref sd, .ref l4]))]) [0] (by decide) rfl
  have hK9 := hK.sub (tys' := []) [] rfl
  exact end_l hx hb hr hlocks hP9 hD9 hK9 hS (0, 0) rfl rfl rfl (Nat.le_of_ble_eq_true rfl) (Nat.le_of_ble_eq_true rfl) dX13_checksum_75
set_option maxHeartbeats 4000000 in
set_option maxRecDepth 100000 in
/-- isSound of the reference, on a fresh object -/
theorem m_isSound (l : Launch) (D : va_G) (tC tE sz : Nat) (mm l0 l1 l2 l3 l4 la sk ab bu cu sd : Nat) : Met l yX13_isSound wsX13_isSound ({ frames := 0, cells := 0, slots := 0, locals := 0 }) (Pg D tC tE sz [(mm, .inr (17, [.int 0, .int 0, .ref l0, .ref la, .ref l1, .ref l2, .ref l3, .ref sk, .ref ab, .ref bu, .ref cu, .ref sd, .ref l4]))] [] [.ref mm]) (Qgi (S := Int32 × Int32) D (fun u => [(mm, .inr (17, [.int (u.1), .int (u.2), .ref l0, .ref la, .ref l1, .ref l2, .ref l3, .ref sk, .ref ab, .ref bu, .ref cu, .ref sd, .ref l4]))]) (fun u => []) (fun r _ => r = 1) (va_A [(mm, .inr (17, [.int 0, .int 0, .ref l0, .ref la, .ref l1, .ref l2, .ref l3, .ref sk, .ref ab, .ref bu, .ref cu, .ref sd, .ref l4]))] sz)) 0 0 (va_A [(mm, .inr (17, [.int 0, .int 0, .ref l0, .ref la, .ref l1, .ref l2, .ref l3, .ref sk, .ref ab, .ref bu, .ref cu, .ref sd, .ref l4]))] sz) := by
  refine og_m (cc := cX13_isSound) (maxL := 1) (ret := (some .boolean)) (Qc := Qgi (S := Int32 × Int32) D (fun u => [(mm, .inr (17, [.int (u.1), .int (u.2), .ref l0, .ref la, .ref l1, .ref l2, .ref l3, .ref sk, .ref ab, .ref bu, .ref cu, .ref sd, .ref l4]))]) (fun u => []) (fun r _ => r = 1)) (by decide) rfl (Nat.le_of_ble_eq_true rfl) ?_
  intro p e s m below meth c A hx hb hr hml hts hown hlocks hin hP hD hK hG hA hS ls hl
  have hl : lv_has ls 1 [(0, .ref mm)] := hl
  refine lv_aload_n hx hb dX13_isSound_0 rfl (lv_at hl 0 rfl) ?_
  refine lv_iconst (v := 0) hx hb dX13_isSound_1 (by decide) ?_
  refine va_put (D := D) (ci := 17) (v := .int 0) (ty := .int) (C := RX13) (T := TX13) (N := 13) hx hb hts (fun w h => List.mem_cons_of_mem _ (List.mem_append_right _ h)) tyX13 tyX13_ok nmX13 hown hK hP hD hS 0 rfl rfl 0 (by decide) (hts (.fieldLink RX13 48 "LastroomModel" "code" "I") (List.mem_of_getElem? (i := 1) rfl)) (fun _ h9 => h9) rfl (by decide +kernel) rfl rfl (Nat.le_of_ble_eq_true rfl) dX13_isSound_2 (fun H locs hP hD hS => ?_)
  have hP : va_P D vwCl [(mm, .inr (17, [.int 0, .int 0, .ref l0, .ref la, .ref l1, .ref l2, .ref l3, .ref sk, .ref ab, .ref bu, .ref cu, .ref sd, .ref l4]))] H := hP
  have hD : va_D A [(mm, .inr (17, [.int 0, .int 0, .ref l0, .ref la, .ref l1, .ref l2, .ref l3, .ref sk, .ref ab, .ref bu, .ref cu, .ref sd, .ref l4]))] := hD
  refine lv_iconst (v := 1) hx hb dX13_isSound_5 (by decide) ?_
  have hP9 := hP.sub (ws' := [(mm, .inr (17, [.int 0, .int 0, .ref l0, .ref la, .ref l1, .ref l2, .ref l3, .ref sk, .ref ab, .ref bu, .ref cu, .ref sd, .ref l4]))]) [0] rfl
  have hD9 := hD.sub (ws' := [(mm, .inr (17, [.int 0, .int 0, .ref l0, .ref la, .ref l1, .ref l2, .ref l3, .ref sk, .ref ab, .ref bu, .ref cu, .ref sd, .ref l4]))]) [0] (by decide) rfl
  have hK9 := hK.sub (tys' := []) [] rfl
  exact end_z hx hb hr hlocks (by decide) hP9 hD9 hK9 hS (0, 0) rfl rfl rfl (Nat.le_of_ble_eq_true rfl) (Nat.le_of_ble_eq_true rfl) dX13_isSound_6
set_option maxHeartbeats 4000000 in
set_option maxRecDepth 100000 in
/-- bottleneck of the reference, on a fresh object -/
theorem m_bottleneck (l : Launch) (D : va_G) (tC tE sz : Nat) (mm l0 l1 l2 l3 l4 la sk ab bu cu sd : Nat) (kq kb : ClassId) : Met l yX13_bottleneck wsX13_bottleneck ({ frames := 3, cells := 4, slots := 16, locals := 53 }) (Pg D tC tE sz [(mm, .inr (17, [.int 0, .int 0, .ref l0, .ref la, .ref l1, .ref l2, .ref l3, .ref sk, .ref ab, .ref bu, .ref cu, .ref sd, .ref l4])), (l3, .inr (3, [.int 0, .ref tE, .int 0])), (sk, .inl (kq, 32, .inl (fun _ => 0))), (ab, .inl (kb, 8, .inl (fun _ => 0)))] [(kq, .boolean), (kb, .boolean)] [.ref mm]) (Qgi (S := Int32 × Int32) D (fun u => [(mm, .inr (17, [.int (u.1), .int (u.2), .ref l0, .ref la, .ref l1, .ref l2, .ref l3, .ref sk, .ref ab, .ref bu, .ref cu, .ref sd, .ref l4]))]) (fun u => []) (fun _ u => u.1 = 1) (va_A [(mm, .inr (17, [.int 0, .int 0, .ref l0, .ref la, .ref l1, .ref l2, .ref l3, .ref sk, .ref ab, .ref bu, .ref cu, .ref sd, .ref l4])), (l3, .inr (3, [.int 0, .ref tE, .int 0])), (sk, .inl (kq, 32, .inl (fun _ => 0))), (ab, .inl (kb, 8, .inl (fun _ => 0)))] sz)) 4 16 (va_A [(mm, .inr (17, [.int 0, .int 0, .ref l0, .ref la, .ref l1, .ref l2, .ref l3, .ref sk, .ref ab, .ref bu, .ref cu, .ref sd, .ref l4])), (l3, .inr (3, [.int 0, .ref tE, .int 0])), (sk, .inl (kq, 32, .inl (fun _ => 0))), (ab, .inl (kb, 8, .inl (fun _ => 0)))] sz) := by
  refine og_m (cc := cX13_bottleneck) (maxL := 11) (ret := (some .int)) (Qc := Qgi (S := Int32 × Int32) D (fun u => [(mm, .inr (17, [.int (u.1), .int (u.2), .ref l0, .ref la, .ref l1, .ref l2, .ref l3, .ref sk, .ref ab, .ref bu, .ref cu, .ref sd, .ref l4]))]) (fun u => []) (fun _ u => u.1 = 1)) (by decide) rfl (Nat.le_of_ble_eq_true rfl) ?_
  intro p e s m below meth c A hx hb hr hml hts hown hlocks hin hP hD hK hG hA hS ls hl
  have hl : lv_has ls 11 [(0, .ref mm)] := hl
  refine lv_aload_n hx hb dX13_bottleneck_0 rfl (lv_at hl 0 rfl) ?_
  refine lv_iconst (v := 0) hx hb dX13_bottleneck_1 (by decide) ?_
  refine va_put (D := D) (ci := 17) (v := .int 0) (ty := .int) (C := RX13) (T := TX13) (N := 13) hx hb hts (fun w h => List.mem_cons_of_mem _ (List.mem_append_left _ (List.mem_append_left _ (List.mem_append_left _ (List.mem_append_left _ (List.mem_append_left _ (List.mem_append_left _ (List.mem_append_right _ h)))))))) tyX13 tyX13_ok nmX13 hown hK hP hD hS 0 rfl rfl 0 (by decide) (hts (.fieldLink RX13 48 "LastroomModel" "code" "I") (List.mem_of_getElem? (i := 1) rfl)) (fun _ h9 => h9) rfl (by decide +kernel) rfl rfl (Nat.le_of_ble_eq_true rfl) dX13_bottleneck_2 (fun H locs hP hD hS => ?_)
  have hP : va_P D vwCl [(mm, .inr (17, [.int 0, .int 0, .ref l0, .ref la, .ref l1, .ref l2, .ref l3, .ref sk, .ref ab, .ref bu, .ref cu, .ref sd, .ref l4])), (l3, .inr (3, [.int 0, .ref tE, .int 0])), (sk, .inl (kq, 32, .inl (fun _ => 0))), (ab, .inl (kb, 8, .inl (fun _ => 0)))] H := hP
  have hD : va_D A [(mm, .inr (17, [.int 0, .int 0, .ref l0, .ref la, .ref l1, .ref l2, .ref l3, .ref sk, .ref ab, .ref bu, .ref cu, .ref sd, .ref l4])), (l3, .inr (3, [.int 0, .ref tE, .int 0])), (sk, .inl (kq, 32, .inl (fun _ => 0))), (ab, .inl (kb, 8, .inl (fun _ => 0)))] := hD
  refine lv_iconst (v := (-1)) hx hb dX13_bottleneck_5 (by decide) ?_
  refine lv_istore_n (lv' := [(1, .int (-1)), (0, .ref mm)]) hx hb dX13_bottleneck_6 rfl hl (by decide) rfl (fun ls hl => ?_)
  refine lv_iconst (v := 0) hx hb dX13_bottleneck_7 (by decide) ?_
  refine lv_istore_n (lv' := [(2, .int 0), (1, .int (-1)), (0, .ref mm)]) hx hb dX13_bottleneck_8 rfl hl (by decide) rfl (fun ls hl => ?_)
  refine lv_iconst (v := 0) hx hb dX13_bottleneck_9 (by decide) ?_
  refine lv_istore_n (lv' := [(3, .int 0), (2, .int 0), (1, .int (-1)), (0, .ref mm)]) hx hb dX13_bottleneck_10 rfl hl (by decide) rfl (fun ls hl => ?_)
  refine lv_iload_n hx hb dX13_bottleneck_11 rfl (lv_at hl 0 rfl) ?_
  refine lv_iconst (v := 4) hx hb dX13_bottleneck_12 (by decide) ?_
  refine lv_icmp_ge (tgt := 311) hx hb dX13_bottleneck_13 (by decide) (fun c_1 => absurd c_1 (show ¬ (4 : Int32) ≤ (0 : Int32) from (by decide))) (fun c_1 => ?_)
  refine lv_iconst (v := 0) hx hb dX13_bottleneck_16 (by decide) ?_
  refine lv_istore (lv' := [(4, .int 0), (3, .int 0), (2, .int 0), (1, .int (-1)), (0, .ref mm)]) hx hb dX13_bottleneck_17 hl (by decide) rfl (fun ls hl => ?_)
  refine lv_aload_n hx hb dX13_bottleneck_19 rfl (lv_at hl 4 rfl) ?_
  refine va_get (D := D) (ci := 17) (v := .ref l3) (C := RX13) (T := TX13) (N := 13) hx hb hts (fun w h => List.mem_cons_of_mem _ (List.mem_append_left _ (List.mem_append_left _ (List.mem_append_left _ (List.mem_append_left _ (List.mem_append_left _ (List.mem_append_left _ (List.mem_append_right _ h)))))))) hown hK hP 0 rfl rfl 6 (by decide) (hts (.fieldLink RX13 26 "LastroomModel" "tickets" "Ljava/util/List;") (List.mem_of_getElem? (i := 2) rfl)) (fun _ h9 => h9) rfl dX13_bottleneck_20 ?_
  have hFc := va_free (wc := [(l3, .inr (3, [.int 0, .ref tE, .int 0]))]) hD hS hA [1] rfl
  refine va_callFr (va_runF (As := []) (rest := []) (hK.1 3 _ rfl).2 ⟨hx, hb, hml, hown, hts⟩ (c_iterator l D tC tE H.size l3) (va_cwF 0 hts gX13_bottleneck_Jx4a65c_iterator_32c93_f111Jx4a65c rfl rfl rfl (hG.2.2.2.2.2.2.2.2.1 _ (List.mem_of_getElem? (i := 2) rfl)) (by decide +kernel) ⟨(Nat.le_of_ble_eq_true rfl), (Nat.le_of_ble_eq_true rfl)⟩) ⟨pg_blind, (va_recv hK hP (ci := 3) (q0 := 1) rfl rfl), (pg_pre hP hD hK hG hS hFc [1] rfl (by decide) [] rfl _)⟩ rfl rfl hl.1 rfl (lv_room (Nat.le_of_ble_eq_true rfl)) dX13_bottleneck_23 ⟨(Nat.le_of_ble_eq_true rfl), (Nat.le_of_ble_eq_true rfl)⟩) hS (fun q _ h => hFc q h) hFc (fun u_3 r_2 t H locs ht hvm hw hB hz1 hk1 hS => ?_)
  obtain ⟨hra, hB⟩ := hB
  have hra := hra.symm
  subst hra
  obtain ⟨hP, hD, hK⟩ := jn (wr := [(mm, .inr (17, [.int 0, .int 0, .ref l0, .ref la, .ref l1, .ref l2, .ref l3, .ref sk, .ref ab, .ref bu, .ref cu, .ref sd, .ref l4])), (sk, .inl (kq, 32, .inl (fun _ => 0))), (ab, .inl (kb, 8, .inl (fun _ => 0)))]) (w1 := [(u_3, .inr (2, [.int 0, .int (-1), .int 0, .ref l3])), (l3, .inr (3, [.int 0, .ref tE, .int 0]))]) (t1 := []) (tr := [(kq, .boolean), (kb, .boolean)]) hP hD hK [1] [0, 2, 3] rfl rfl (by decide) (by decide) [0, 1] rfl hk1 hFc hB rfl rfl ht hvm
  have hP : va_P D vwCl [(mm, .inr (17, [.int 0, .int 0, .ref l0, .ref la, .ref l1, .ref l2, .ref l3, .ref sk, .ref ab, .ref bu, .ref cu, .ref sd, .ref l4])), (sk, .inl (kq, 32, .inl (fun _ => 0))), (ab, .inl (kb, 8, .inl (fun _ => 0))), (u_3, .inr (2, [.int 0, .int (-1), .int 0, .ref l3])), (l3, .inr (3, [.int 0, .ref tE, .int 0]))] H := hP
  have hD : va_D A [(mm, .inr (17, [.int 0, .int 0, .ref l0, .ref la, .ref l1, .ref l2, .ref l3, .ref sk, .ref ab, .ref bu, .ref cu, .ref sd, .ref l4])), (sk, .inl (kq, 32, .inl (fun _ => 0))), (ab, .inl (kb, 8, .inl (fun _ => 0))), (u_3, .inr (2, [.int 0, .int (-1), .int 0, .ref l3])), (l3, .inr (3, [.int 0, .ref tE, .int 0]))] := hD
  have hK : va_K D vwCl [(kq, .boolean), (kb, .boolean)] s := hK
  refine W.widen (k := 1) (n := 4) (Nat.le_of_ble_eq_true rfl) (Nat.le_of_ble_eq_true rfl) ?_
  refine lv_astore (lv' := [(5, .ref u_3), (4, .int 0), (3, .int 0), (2, .int 0), (1, .int (-1)), (0, .ref mm)]) hx hb dX13_bottleneck_28 hl (by decide) rfl (fun ls hl => ?_)
  refine lv_aload hx hb dX13_bottleneck_30 (lv_at hl 0 rfl) ?_
  have hFc := va_free (wc := [(u_3, .inr (2, [.int 0, .int (-1), .int 0, .ref l3])), (l3, .inr (3, [.int 0, .ref tE, .int 0]))]) hD hS hA [3, 4] rfl
  refine va_callFi (va_runF (As := []) (rest := []) (hK.1 2 _ rfl).2 ⟨hx, hb, hml, hown, hts⟩ (c_hasNext l D tC tE H.size u_3 l3) (va_cwF 0 hts gX13_bottleneck_Jx35411_hasNext_aae02_f115Jx35411 rfl rfl rfl (hG.2.2.2.2.2.2.2.2.1 _ (List.mem_of_getElem? (i := 3) rfl)) (by decide +kernel) ⟨(Nat.le_of_ble_eq_true rfl), (Nat.le_of_ble_eq_true rfl)⟩) ⟨pg_blind, (va_recv hK hP (ci := 2) (q0 := 3) rfl rfl), (pg_pre hP hD hK hG hS hFc [3, 4] rfl (by decide) [] rfl _)⟩ rfl rfl hl.1 rfl (lv_room (Nat.le_of_ble_eq_true rfl)) dX13_bottleneck_32 ⟨(Nat.le_of_ble_eq_true rfl), (Nat.le_of_ble_eq_true rfl)⟩) hS (fun q _ h => hFc q h) hFc (fun r_4 u_5 t H locs ht hvm hw hB hz1 hk1 hS => ?_)
  subst hw
  obtain ⟨hP, hD, hK⟩ := jn (wr := [(mm, .inr (17, [.int 0, .int 0, .ref l0, .ref la, .ref l1, .ref l2, .ref l3, .ref sk, .ref ab, .ref bu, .ref cu, .ref sd, .ref l4])), (sk, .inl (kq, 32, .inl (fun _ => 0))), (ab, .inl (kb, 8, .inl (fun _ => 0)))]) (w1 := [(u_3, .inr (2, [.int 0, .int (-1), .int 0, .ref l3])), (l3, .inr (3, [.int 0, .ref tE, .int 0]))]) (t1 := []) (tr := [(kq, .boolean), (kb, .boolean)]) hP hD hK [3, 4] [0, 1, 2] rfl rfl (by decide) (by decide) [0, 1] rfl hk1 hFc hB rfl rfl ht hvm
  have hP : va_P D vwCl [(mm, .inr (17, [.int 0, .int 0, .ref l0, .ref la, .ref l1, .ref l2, .ref l3, .ref sk, .ref ab, .ref bu, .ref cu, .ref sd, .ref l4])), (sk, .inl (kq, 32, .inl (fun _ => 0))), (ab, .inl (kb, 8, .inl (fun _ => 0))), (u_3, .inr (2, [.int 0, .int (-1), .int 0, .ref l3])), (l3, .inr (3, [.int 0, .ref tE, .int 0]))] H := hP
  have hD : va_D A [(mm, .inr (17, [.int 0, .int 0, .ref l0, .ref la, .ref l1, .ref l2, .ref l3, .ref sk, .ref ab, .ref bu, .ref cu, .ref sd, .ref l4])), (sk, .inl (kq, 32, .inl (fun _ => 0))), (ab, .inl (kb, 8, .inl (fun _ => 0))), (u_3, .inr (2, [.int 0, .int (-1), .int 0, .ref l3])), (l3, .inr (3, [.int 0, .ref tE, .int 0]))] := hD
  have hK : va_K D vwCl [(kq, .boolean), (kb, .boolean)] s := hK
  refine W.widen (k := 1) (n := 4) (Nat.le_of_ble_eq_true rfl) (Nat.le_of_ble_eq_true rfl) ?_
  refine lv_if_eq (tgt := 178) hx hb dX13_bottleneck_37 (by decide) (fun c_6 => ?_) (fun c_6 => absurd (show (0 : Int32) = 0 from (by decide)) c_6)
  refine lv_iconst (v := 0) hx hb dX13_bottleneck_178 (by decide) ?_
  refine lv_istore (lv' := [(5, .int 0), (4, .int 0), (3, .int 0), (2, .int 0), (1, .int (-1)), (0, .ref mm)]) hx hb dX13_bottleneck_179 hl (by decide) rfl (fun ls hl => ?_)
  refine lv_iconst (v := 0) hx hb dX13_bottleneck_181 (by decide) ?_
  refine lv_istore (lv' := [(6, .int 0), (5, .int 0), (4, .int 0), (3, .int 0), (2, .int 0), (1, .int (-1)), (0, .ref mm)]) hx hb dX13_bottleneck_182 hl (by decide) rfl (fun ls hl => ?_)
  refine lv_iload hx hb dX13_bottleneck_184 (lv_at hl 0 rfl) ?_
  refine lv_bipush (v := 8) hx hb dX13_bottleneck_186 (by decide) ?_
  refine lv_icmp_ge (tgt := 231) hx hb dX13_bottleneck_188 (by decide) (fun c_7 => absurd c_7 (show ¬ (8 : Int32) ≤ (0 : Int32) from (by decide))) (fun c_7 => ?_)
  refine lv_iload hx hb dX13_bottleneck_191 (lv_at hl 1 rfl) ?_
  refine lv_aload_n hx hb dX13_bottleneck_193 rfl (lv_at hl 6 rfl) ?_
  refine va_get (D := D) (ci := 17) (v := .ref sk) (C := RX13) (T := TX13) (N := 13) hx hb hts (fun w h => List.mem_cons_of_mem _ (List.mem_append_left _ (List.mem_append_left _ (List.mem_append_left _ (List.mem_append_left _ (List.mem_append_left _ (List.mem_append_left _ (List.mem_append_right _ h)))))))) hown hK hP 0 rfl rfl 7 (by decide) (hts (.fieldLink RX13 29 "LastroomModel" "skills" "[Z") (List.mem_of_getElem? (i := 6) rfl)) (fun _ h9 => h9) rfl dX13_bottleneck_194 ?_
  refine lv_iconst (v := 4) hx hb dX13_bottleneck_197 (by decide) ?_
  refine lv_iload hx hb dX13_bottleneck_198 (lv_at hl 0 rfl) ?_
  refine lv_imul hx hb dX13_bottleneck_200 ?_
  refine lv_topi (fun y hy => ?_)
  rw [show (4 : Int32) * (0 : Int32) = 0 by decide] at hy
  subst hy
  refine lv_iload_n hx hb dX13_bottleneck_201 rfl (lv_at hl 3 rfl) ?_
  refine lv_iadd hx hb dX13_bottleneck_202 ?_
  refine lv_topi (fun y hy => ?_)
  rw [show (0 : Int32) + (0 : Int32) = 0 by decide] at hy
  subst hy
  refine va_zald hx hb hK hP 1 0 rfl rfl (vp_in_iff.mpr (by decide)) dX13_bottleneck_203 ?_
  refine lv_if_eq (tgt := 221) hx hb dX13_bottleneck_204 (by decide) (fun c_8 => ?_) (fun c_8 => absurd (show (0 : Int32) = 0 from (by decide)) c_8)
  refine lv_iconst (v := 0) hx hb dX13_bottleneck_221 (by decide) ?_
  refine lv_iadd hx hb dX13_bottleneck_222 ?_
  refine lv_topi (fun y hy => ?_)
  rw [show (0 : Int32) + (0 : Int32) = 0 by decide] at hy
  subst hy
  refine lv_istore (lv' := [(5, .int 0), (6, .int 0), (4, .int 0), (3, .int 0), (2, .int 0), (1, .int (-1)), (0, .ref mm)]) hx hb dX13_bottleneck_223 hl (by decide) rfl (fun ls hl => ?_)
  refine lv_iinc (v := 1) (lv' := [(6, .int 1), (5, .int 0), (4, .int 0), (3, .int 0), (2, .int 0), (1, .int (-1)), (0, .ref mm)]) hx hb dX13_bottleneck_225 hl (k := 1) rfl (by decide) (by decide) rfl (fun ls hl => ?_)
  refine lv_goto (tgt := 184) hx hb dX13_bottleneck_228 (by decide) ?_
  refine lv_iload hx hb dX13_bottleneck_184 (lv_at hl 0 rfl) ?_
  refine lv_bipush (v := 8) hx hb dX13_bottleneck_186 (by decide) ?_
  refine lv_icmp_ge (tgt := 231) hx hb dX13_bottleneck_188 (by decide) (fun c_9 => absurd c_9 (show ¬ (8 : Int32) ≤ (1 : Int32) from (by decide))) (fun c_9 => ?_)
  refine lv_iload hx hb dX13_bottleneck_191 (lv_at hl 1 rfl) ?_
  refine lv_aload_n hx hb dX13_bottleneck_193 rfl (lv_at hl 6 rfl) ?_
  refine va_get (D := D) (ci := 17) (v := .ref sk) (C := RX13) (T := TX13) (N := 13) hx hb hts (fun w h => List.mem_cons_of_mem _ (List.mem_append_left _ (List.mem_append_left _ (List.mem_append_left _ (List.mem_append_left _ (List.mem_append_left _ (List.mem_append_left _ (List.mem_append_right _ h)))))))) hown hK hP 0 rfl rfl 7 (by decide) (hts (.fieldLink RX13 29 "LastroomModel" "skills" "[Z") (List.mem_of_getElem? (i := 6) rfl)) (fun _ h9 => h9) rfl dX13_bottleneck_194 ?_
  refine lv_iconst (v := 4) hx hb dX13_bottleneck_197 (by decide) ?_
  refine lv_iload hx hb dX13_bottleneck_198 (lv_at hl 0 rfl) ?_
  refine lv_imul hx hb dX13_bottleneck_200 ?_
  refine lv_topi (fun y hy => ?_)
  rw [show (4 : Int32) * (1 : Int32) = 4 by decide] at hy
  subst hy
  refine lv_iload_n hx hb dX13_bottleneck_201 rfl (lv_at hl 3 rfl) ?_
  refine lv_iadd hx hb dX13_bottleneck_202 ?_
  refine lv_topi (fun y hy => ?_)
  rw [show (4 : Int32) + (0 : Int32) = 4 by decide] at hy
  subst hy
  refine va_zald hx hb hK hP 1 0 rfl rfl (vp_in_iff.mpr (by decide)) dX13_bottleneck_203 ?_
  refine lv_if_eq (tgt := 221) hx hb dX13_bottleneck_204 (by decide) (fun c_10 => ?_) (fun c_10 => absurd (show (0 : Int32) = 0 from (by decide)) c_10)
  refine lv_iconst (v := 0) hx hb dX13_bottleneck_221 (by decide) ?_
  refine lv_iadd hx hb dX13_bottleneck_222 ?_
  refine lv_topi (fun y hy => ?_)
  rw [show (0 : Int32) + (0 : Int32) = 0 by decide] at hy
  subst hy
  refine lv_istore (lv' := [(5, .int 0), (6, .int 1), (4, .int 0), (3, .int 0), (2, .int 0), (1, .int (-1)), (0, .ref mm)]) hx hb dX13_bottleneck_223 hl (by decide) rfl (fun ls hl => ?_)
  refine lv_iinc (v := 2) (lv' := [(6, .int 2), (5, .int 0), (4, .int 0), (3, .int 0), (2, .int 0), (1, .int (-1)), (0, .ref mm)]) hx hb dX13_bottleneck_225 hl (k := 1) rfl (by decide) (by decide) rfl (fun ls hl => ?_)
  refine lv_goto (tgt := 184) hx hb dX13_bottleneck_228 (by decide) ?_
  refine lv_iload hx hb dX13_bottleneck_184 (lv_at hl 0 rfl) ?_
  refine lv_bipush (v := 8) hx hb dX13_bottleneck_186 (by decide) ?_
  refine lv_icmp_ge (tgt := 231) hx hb dX13_bottleneck_188 (by decide) (fun c_11 => absurd c_11 (show ¬ (8 : Int32) ≤ (2 : Int32) from (by decide))) (fun c_11 => ?_)
  refine lv_iload hx hb dX13_bottleneck_191 (lv_at hl 1 rfl) ?_
  refine lv_aload_n hx hb dX13_bottleneck_193 rfl (lv_at hl 6 rfl) ?_
  refine va_get (D := D) (ci := 17) (v := .ref sk) (C := RX13) (T := TX13) (N := 13) hx hb hts (fun w h => List.mem_cons_of_mem _ (List.mem_append_left _ (List.mem_append_left _ (List.mem_append_left _ (List.mem_append_left _ (List.mem_append_left _ (List.mem_append_left _ (List.mem_append_right _ h)))))))) hown hK hP 0 rfl rfl 7 (by decide) (hts (.fieldLink RX13 29 "LastroomModel" "skills" "[Z") (List.mem_of_getElem? (i := 6) rfl)) (fun _ h9 => h9) rfl dX13_bottleneck_194 ?_
  refine lv_iconst (v := 4) hx hb dX13_bottleneck_197 (by decide) ?_
  refine lv_iload hx hb dX13_bottleneck_198 (lv_at hl 0 rfl) ?_
  refine lv_imul hx hb dX13_bottleneck_200 ?_
  refine lv_topi (fun y hy => ?_)
  rw [show (4 : Int32) * (2 : Int32) = 8 by decide] at hy
  subst hy
  refine lv_iload_n hx hb dX13_bottleneck_201 rfl (lv_at hl 3 rfl) ?_
  refine lv_iadd hx hb dX13_bottleneck_202 ?_
  refine lv_topi (fun y hy => ?_)
  rw [show (8 : Int32) + (0 : Int32) = 8 by decide] at hy
  subst hy
  refine va_zald hx hb hK hP 1 0 rfl rfl (vp_in_iff.mpr (by decide)) dX13_bottleneck_203 ?_
  refine lv_if_eq (tgt := 221) hx hb dX13_bottleneck_204 (by decide) (fun c_12 => ?_) (fun c_12 => absurd (show (0 : Int32) = 0 from (by decide)) c_12)
  refine lv_iconst (v := 0) hx hb dX13_bottleneck_221 (by decide) ?_
  refine lv_iadd hx hb dX13_bottleneck_222 ?_
  refine lv_topi (fun y hy => ?_)
  rw [show (0 : Int32) + (0 : Int32) = 0 by decide] at hy
  subst hy
  refine lv_istore (lv' := [(5, .int 0), (6, .int 2), (4, .int 0), (3, .int 0), (2, .int 0), (1, .int (-1)), (0, .ref mm)]) hx hb dX13_bottleneck_223 hl (by decide) rfl (fun ls hl => ?_)
  refine lv_iinc (v := 3) (lv' := [(6, .int 3), (5, .int 0), (4, .int 0), (3, .int 0), (2, .int 0), (1, .int (-1)), (0, .ref mm)]) hx hb dX13_bottleneck_225 hl (k := 1) rfl (by decide) (by decide) rfl (fun ls hl => ?_)
  refine lv_goto (tgt := 184) hx hb dX13_bottleneck_228 (by decide) ?_
  refine lv_iload hx hb dX13_bottleneck_184 (lv_at hl 0 rfl) ?_
  refine lv_bipush (v := 8) hx hb dX13_bottleneck_186 (by decide) ?_
  refine lv_icmp_ge (tgt := 231) hx hb dX13_bottleneck_188 (by decide) (fun c_13 => absurd c_13 (show ¬ (8 : Int32) ≤ (3 : Int32) from (by decide))) (fun c_13 => ?_)
  refine lv_iload hx hb dX13_bottleneck_191 (lv_at hl 1 rfl) ?_
  refine lv_aload_n hx hb dX13_bottleneck_193 rfl (lv_at hl 6 rfl) ?_
  refine va_get (D := D) (ci := 17) (v := .ref sk) (C := RX13) (T := TX13) (N := 13) hx hb hts (fun w h => List.mem_cons_of_mem _ (List.mem_append_left _ (List.mem_append_left _ (List.mem_append_left _ (List.mem_append_left _ (List.mem_append_left _ (List.mem_append_left _ (List.mem_append_right _ h)))))))) hown hK hP 0 rfl rfl 7 (by decide) (hts (.fieldLink RX13 29 "LastroomModel" "skills" "[Z") (List.mem_of_getElem? (i := 6) rfl)) (fun _ h9 => h9) rfl dX13_bottleneck_194 ?_
  refine lv_iconst (v := 4) hx hb dX13_bottleneck_197 (by decide) ?_
  refine lv_iload hx hb dX13_bottleneck_198 (lv_at hl 0 rfl) ?_
  refine lv_imul hx hb dX13_bottleneck_200 ?_
  refine lv_topi (fun y hy => ?_)
  rw [show (4 : Int32) * (3 : Int32) = 12 by decide] at hy
  subst hy
  refine lv_iload_n hx hb dX13_bottleneck_201 rfl (lv_at hl 3 rfl) ?_
  refine lv_iadd hx hb dX13_bottleneck_202 ?_
  refine lv_topi (fun y hy => ?_)
  rw [show (12 : Int32) + (0 : Int32) = 12 by decide] at hy
  subst hy
  refine va_zald hx hb hK hP 1 0 rfl rfl (vp_in_iff.mpr (by decide)) dX13_bottleneck_203 ?_
  refine lv_if_eq (tgt := 221) hx hb dX13_bottleneck_204 (by decide) (fun c_14 => ?_) (fun c_14 => absurd (show (0 : Int32) = 0 from (by decide)) c_14)
  refine lv_iconst (v := 0) hx hb dX13_bottleneck_221 (by decide) ?_
  refine lv_iadd hx hb dX13_bottleneck_222 ?_
  refine lv_topi (fun y hy => ?_)
  rw [show (0 : Int32) + (0 : Int32) = 0 by decide] at hy
  subst hy
  refine lv_istore (lv' := [(5, .int 0), (6, .int 3), (4, .int 0), (3, .int 0), (2, .int 0), (1, .int (-1)), (0, .ref mm)]) hx hb dX13_bottleneck_223 hl (by decide) rfl (fun ls hl => ?_)
  refine lv_iinc (v := 4) (lv' := [(6, .int 4), (5, .int 0), (4, .int 0), (3, .int 0), (2, .int 0), (1, .int (-1)), (0, .ref mm)]) hx hb dX13_bottleneck_225 hl (k := 1) rfl (by decide) (by decide) rfl (fun ls hl => ?_)
  refine lv_goto (tgt := 184) hx hb dX13_bottleneck_228 (by decide) ?_
  refine lv_iload hx hb dX13_bottleneck_184 (lv_at hl 0 rfl) ?_
  refine lv_bipush (v := 8) hx hb dX13_bottleneck_186 (by decide) ?_
  refine lv_icmp_ge (tgt := 231) hx hb dX13_bottleneck_188 (by decide) (fun c_15 => absurd c_15 (show ¬ (8 : Int32) ≤ (4 : Int32) from (by decide))) (fun c_15 => ?_)
  refine lv_iload hx hb dX13_bottleneck_191 (lv_at hl 1 rfl) ?_
  refine lv_aload_n hx hb dX13_bottleneck_193 rfl (lv_at hl 6 rfl) ?_
  refine va_get (D := D) (ci := 17) (v := .ref sk) (C := RX13) (T := TX13) (N := 13) hx hb hts (fun w h => List.mem_cons_of_mem _ (List.mem_append_left _ (List.mem_append_left _ (List.mem_append_left _ (List.mem_append_left _ (List.mem_append_left _ (List.mem_append_left _ (List.mem_append_right _ h)))))))) hown hK hP 0 rfl rfl 7 (by decide) (hts (.fieldLink RX13 29 "LastroomModel" "skills" "[Z") (List.mem_of_getElem? (i := 6) rfl)) (fun _ h9 => h9) rfl dX13_bottleneck_194 ?_
  refine lv_iconst (v := 4) hx hb dX13_bottleneck_197 (by decide) ?_
  refine lv_iload hx hb dX13_bottleneck_198 (lv_at hl 0 rfl) ?_
  refine lv_imul hx hb dX13_bottleneck_200 ?_
  refine lv_topi (fun y hy => ?_)
  rw [show (4 : Int32) * (4 : Int32) = 16 by decide] at hy
  subst hy
  refine lv_iload_n hx hb dX13_bottleneck_201 rfl (lv_at hl 3 rfl) ?_
  refine lv_iadd hx hb dX13_bottleneck_202 ?_
  refine lv_topi (fun y hy => ?_)
  rw [show (16 : Int32) + (0 : Int32) = 16 by decide] at hy
  subst hy
  refine va_zald hx hb hK hP 1 0 rfl rfl (vp_in_iff.mpr (by decide)) dX13_bottleneck_203 ?_
  refine lv_if_eq (tgt := 221) hx hb dX13_bottleneck_204 (by decide) (fun c_16 => ?_) (fun c_16 => absurd (show (0 : Int32) = 0 from (by decide)) c_16)
  refine lv_iconst (v := 0) hx hb dX13_bottleneck_221 (by decide) ?_
  refine lv_iadd hx hb dX13_bottleneck_222 ?_
  refine lv_topi (fun y hy => ?_)
  rw [show (0 : Int32) + (0 : Int32) = 0 by decide] at hy
  subst hy
  refine lv_istore (lv' := [(5, .int 0), (6, .int 4), (4, .int 0), (3, .int 0), (2, .int 0), (1, .int (-1)), (0, .ref mm)]) hx hb dX13_bottleneck_223 hl (by decide) rfl (fun ls hl => ?_)
  refine lv_iinc (v := 5) (lv' := [(6, .int 5), (5, .int 0), (4, .int 0), (3, .int 0), (2, .int 0), (1, .int (-1)), (0, .ref mm)]) hx hb dX13_bottleneck_225 hl (k := 1) rfl (by decide) (by decide) rfl (fun ls hl => ?_)
  refine lv_goto (tgt := 184) hx hb dX13_bottleneck_228 (by decide) ?_
  refine lv_iload hx hb dX13_bottleneck_184 (lv_at hl 0 rfl) ?_
  refine lv_bipush (v := 8) hx hb dX13_bottleneck_186 (by decide) ?_
  refine lv_icmp_ge (tgt := 231) hx hb dX13_bottleneck_188 (by decide) (fun c_17 => absurd c_17 (show ¬ (8 : Int32) ≤ (5 : Int32) from (by decide))) (fun c_17 => ?_)
  refine lv_iload hx hb dX13_bottleneck_191 (lv_at hl 1 rfl) ?_
  refine lv_aload_n hx hb dX13_bottleneck_193 rfl (lv_at hl 6 rfl) ?_
  refine va_get (D := D) (ci := 17) (v := .ref sk) (C := RX13) (T := TX13) (N := 13) hx hb hts (fun w h => List.mem_cons_of_mem _ (List.mem_append_left _ (List.mem_append_left _ (List.mem_append_left _ (List.mem_append_left _ (List.mem_append_left _ (List.mem_append_left _ (List.mem_append_right _ h)))))))) hown hK hP 0 rfl rfl 7 (by decide) (hts (.fieldLink RX13 29 "LastroomModel" "skills" "[Z") (List.mem_of_getElem? (i := 6) rfl)) (fun _ h9 => h9) rfl dX13_bottleneck_194 ?_
  refine lv_iconst (v := 4) hx hb dX13_bottleneck_197 (by decide) ?_
  refine lv_iload hx hb dX13_bottleneck_198 (lv_at hl 0 rfl) ?_
  refine lv_imul hx hb dX13_bottleneck_200 ?_
  refine lv_topi (fun y hy => ?_)
  rw [show (4 : Int32) * (5 : Int32) = 20 by decide] at hy
  subst hy
  refine lv_iload_n hx hb dX13_bottleneck_201 rfl (lv_at hl 3 rfl) ?_
  refine lv_iadd hx hb dX13_bottleneck_202 ?_
  refine lv_topi (fun y hy => ?_)
  rw [show (20 : Int32) + (0 : Int32) = 20 by decide] at hy
  subst hy
  refine va_zald hx hb hK hP 1 0 rfl rfl (vp_in_iff.mpr (by decide)) dX13_bottleneck_203 ?_
  refine lv_if_eq (tgt := 221) hx hb dX13_bottleneck_204 (by decide) (fun c_18 => ?_) (fun c_18 => absurd (show (0 : Int32) = 0 from (by decide)) c_18)
  refine lv_iconst (v := 0) hx hb dX13_bottleneck_221 (by decide) ?_
  refine lv_iadd hx hb dX13_bottleneck_222 ?_
  refine lv_topi (fun y hy => ?_)
  rw [show (0 : Int32) + (0 : Int32) = 0 by decide] at hy
  subst hy
  refine lv_istore (lv' := [(5, .int 0), (6, .int 5), (4, .int 0), (3, .int 0), (2, .int 0), (1, .int (-1)), (0, .ref mm)]) hx hb dX13_bottleneck_223 hl (by decide) rfl (fun ls hl => ?_)
  refine lv_iinc (v := 6) (lv' := [(6, .int 6), (5, .int 0), (4, .int 0), (3, .int 0), (2, .int 0), (1, .int (-1)), (0, .ref mm)]) hx hb dX13_bottleneck_225 hl (k := 1) rfl (by decide) (by decide) rfl (fun ls hl => ?_)
  refine lv_goto (tgt := 184) hx hb dX13_bottleneck_228 (by decide) ?_
  refine lv_iload hx hb dX13_bottleneck_184 (lv_at hl 0 rfl) ?_
  refine lv_bipush (v := 8) hx hb dX13_bottleneck_186 (by decide) ?_
  refine lv_icmp_ge (tgt := 231) hx hb dX13_bottleneck_188 (by decide) (fun c_19 => absurd c_19 (show ¬ (8 : Int32) ≤ (6 : Int32) from (by decide))) (fun c_19 => ?_)
  refine lv_iload hx hb dX13_bottleneck_191 (lv_at hl 1 rfl) ?_
  refine lv_aload_n hx hb dX13_bottleneck_193 rfl (lv_at hl 6 rfl) ?_
  refine va_get (D := D) (ci := 17) (v := .ref sk) (C := RX13) (T := TX13) (N := 13) hx hb hts (fun w h => List.mem_cons_of_mem _ (List.mem_append_left _ (List.mem_append_left _ (List.mem_append_left _ (List.mem_append_left _ (List.mem_append_left _ (List.mem_append_left _ (List.mem_append_right _ h)))))))) hown hK hP 0 rfl rfl 7 (by decide) (hts (.fieldLink RX13 29 "LastroomModel" "skills" "[Z") (List.mem_of_getElem? (i := 6) rfl)) (fun _ h9 => h9) rfl dX13_bottleneck_194 ?_
  refine lv_iconst (v := 4) hx hb dX13_bottleneck_197 (by decide) ?_
  refine lv_iload hx hb dX13_bottleneck_198 (lv_at hl 0 rfl) ?_
  refine lv_imul hx hb dX13_bottleneck_200 ?_
  refine lv_topi (fun y hy => ?_)
  rw [show (4 : Int32) * (6 : Int32) = 24 by decide] at hy
  subst hy
  refine lv_iload_n hx hb dX13_bottleneck_201 rfl (lv_at hl 3 rfl) ?_
  refine lv_iadd hx hb dX13_bottleneck_202 ?_
  refine lv_topi (fun y hy => ?_)
  rw [show (24 : Int32) + (0 : Int32) = 24 by decide] at hy
  subst hy
  refine va_zald hx hb hK hP 1 0 rfl rfl (vp_in_iff.mpr (by decide)) dX13_bottleneck_203 ?_
  refine lv_if_eq (tgt := 221) hx hb dX13_bottleneck_204 (by decide) (fun c_20 => ?_) (fun c_20 => absurd (show (0 : Int32) = 0 from (by decide)) c_20)
  refine lv_iconst (v := 0) hx hb dX13_bottleneck_221 (by decide) ?_
  refine lv_iadd hx hb dX13_bottleneck_222 ?_
  refine lv_topi (fun y hy => ?_)
  rw [show (0 : Int32) + (0 : Int32) = 0 by decide] at hy
  subst hy
  refine lv_istore (lv' := [(5, .int 0), (6, .int 6), (4, .int 0), (3, .int 0), (2, .int 0), (1, .int (-1)), (0, .ref mm)]) hx hb dX13_bottleneck_223 hl (by decide) rfl (fun ls hl => ?_)
  refine lv_iinc (v := 7) (lv' := [(6, .int 7), (5, .int 0), (4, .int 0), (3, .int 0), (2, .int 0), (1, .int (-1)), (0, .ref mm)]) hx hb dX13_bottleneck_225 hl (k := 1) rfl (by decide) (by decide) rfl (fun ls hl => ?_)
  refine lv_goto (tgt := 184) hx hb dX13_bottleneck_228 (by decide) ?_
  refine lv_iload hx hb dX13_bottleneck_184 (lv_at hl 0 rfl) ?_
  refine lv_bipush (v := 8) hx hb dX13_bottleneck_186 (by decide) ?_
  refine lv_icmp_ge (tgt := 231) hx hb dX13_bottleneck_188 (by decide) (fun c_21 => absurd c_21 (show ¬ (8 : Int32) ≤ (7 : Int32) from (by decide))) (fun c_21 => ?_)
  refine lv_iload hx hb dX13_bottleneck_191 (lv_at hl 1 rfl) ?_
  refine lv_aload_n hx hb dX13_bottleneck_193 rfl (lv_at hl 6 rfl) ?_
  refine va_get (D := D) (ci := 17) (v := .ref sk) (C := RX13) (T := TX13) (N := 13) hx hb hts (fun w h => List.mem_cons_of_mem _ (List.mem_append_left _ (List.mem_append_left _ (List.mem_append_left _ (List.mem_append_left _ (List.mem_append_left _ (List.mem_append_left _ (List.mem_append_right _ h)))))))) hown hK hP 0 rfl rfl 7 (by decide) (hts (.fieldLink RX13 29 "LastroomModel" "skills" "[Z") (List.mem_of_getElem? (i := 6) rfl)) (fun _ h9 => h9) rfl dX13_bottleneck_194 ?_
  refine lv_iconst (v := 4) hx hb dX13_bottleneck_197 (by decide) ?_
  refine lv_iload hx hb dX13_bottleneck_198 (lv_at hl 0 rfl) ?_
  refine lv_imul hx hb dX13_bottleneck_200 ?_
  refine lv_topi (fun y hy => ?_)
  rw [show (4 : Int32) * (7 : Int32) = 28 by decide] at hy
  subst hy
  refine lv_iload_n hx hb dX13_bottleneck_201 rfl (lv_at hl 3 rfl) ?_
  refine lv_iadd hx hb dX13_bottleneck_202 ?_
  refine lv_topi (fun y hy => ?_)
  rw [show (28 : Int32) + (0 : Int32) = 28 by decide] at hy
  subst hy
  refine va_zald hx hb hK hP 1 0 rfl rfl (vp_in_iff.mpr (by decide)) dX13_bottleneck_203 ?_
  refine lv_if_eq (tgt := 221) hx hb dX13_bottleneck_204 (by decide) (fun c_22 => ?_) (fun c_22 => absurd (show (0 : Int32) = 0 from (by decide)) c_22)
  refine lv_iconst (v := 0) hx hb dX13_bottleneck_221 (by decide) ?_
  refine lv_iadd hx hb dX13_bottleneck_222 ?_
  refine lv_topi (fun y hy => ?_)
  rw [show (0 : Int32) + (0 : Int32) = 0 by decide] at hy
  subst hy
  refine lv_istore (lv' := [(5, .int 0), (6, .int 7), (4, .int 0), (3, .int 0), (2, .int 0), (1, .int (-1)), (0, .ref mm)]) hx hb dX13_bottleneck_223 hl (by decide) rfl (fun ls hl => ?_)
  refine lv_iinc (v := 8) (lv' := [(6, .int 8), (5, .int 0), (4, .int 0), (3, .int 0), (2, .int 0), (1, .int (-1)), (0, .ref mm)]) hx hb dX13_bottleneck_225 hl (k := 1) rfl (by decide) (by decide) rfl (fun ls hl => ?_)
  refine lv_goto (tgt := 184) hx hb dX13_bottleneck_228 (by decide) ?_
  refine lv_iload hx hb dX13_bottleneck_184 (lv_at hl 0 rfl) ?_
  refine lv_bipush (v := 8) hx hb dX13_bottleneck_186 (by decide) ?_
  refine lv_icmp_ge (tgt := 231) hx hb dX13_bottleneck_188 (by decide) (fun c_23 => ?_) (fun c_23 => absurd (show (8 : Int32) ≤ (8 : Int32) from (by decide)) c_23)
  refine lv_iload hx hb dX13_bottleneck_231 (lv_at hl 2 rfl) ?_
  refine lv_if_ne (tgt := 240) hx hb dX13_bottleneck_233 (by decide) (fun c_24 => absurd (by decide) c_24) (fun c_24 => ?_)
  refine lv_iconst (v := (-1)) hx hb dX13_bottleneck_236 (by decide) ?_
  refine lv_goto (tgt := 256) hx hb dX13_bottleneck_237 (by decide) ?_
  refine lv_istore (lv' := [(6, .int (-1)), (5, .int 0), (4, .int 0), (3, .int 0), (2, .int 0), (1, .int (-1)), (0, .ref mm)]) hx hb dX13_bottleneck_256 hl (by decide) rfl (fun ls hl => ?_)
  refine lv_iload hx hb dX13_bottleneck_258 (lv_at hl 0 rfl) ?_
  refine lv_iconst (v := (-1)) hx hb dX13_bottleneck_260 (by decide) ?_
  refine lv_icmp_eq (tgt := 279) hx hb dX13_bottleneck_261 (by decide) (fun c_25 => ?_) (fun c_25 => absurd (show ((-1) : Int32) = (-1) from (by decide)) c_25)
  refine lv_iconst (v := 0) hx hb dX13_bottleneck_279 (by decide) ?_
  refine lv_istore (lv' := [(7, .int 0), (6, .int (-1)), (5, .int 0), (4, .int 0), (3, .int 0), (2, .int 0), (1, .int (-1)), (0, .ref mm)]) hx hb dX13_bottleneck_280 hl (by decide) rfl (fun ls hl => ?_)
  refine lv_iload hx hb dX13_bottleneck_282 (lv_at hl 0 rfl) ?_
  refine lv_if_eq (tgt := 291) hx hb dX13_bottleneck_284 (by decide) (fun c_26 => ?_) (fun c_26 => absurd (show (0 : Int32) = 0 from (by decide)) c_26)
  refine lv_iload_n hx hb dX13_bottleneck_291 rfl (lv_at hl 6 rfl) ?_
  refine lv_istore_n (lv' := [(1, .int (-1)), (7, .int 0), (6, .int (-1)), (5, .int 0), (4, .int 0), (3, .int 0), (2, .int 0), (0, .ref mm)]) hx hb dX13_bottleneck_292 rfl hl (by decide) rfl (fun ls hl => ?_)
  refine lv_iload hx hb dX13_bottleneck_293 (lv_at hl 1 rfl) ?_
  refine lv_if_eq (tgt := 303) hx hb dX13_bottleneck_295 (by decide) (fun c_27 => ?_) (fun c_27 => absurd (show (0 : Int32) = 0 from (by decide)) c_27)
  refine lv_iload_n hx hb dX13_bottleneck_303 rfl (lv_at hl 6 rfl) ?_
  refine lv_istore_n (lv' := [(2, .int 0), (1, .int (-1)), (7, .int 0), (6, .int (-1)), (5, .int 0), (4, .int 0), (3, .int 0), (0, .ref mm)]) hx hb dX13_bottleneck_304 rfl hl (by decide) rfl (fun ls hl => ?_)
  refine lv_iinc (v := 1) (lv' := [(3, .int 1), (2, .int 0), (1, .int (-1)), (7, .int 0), (6, .int (-1)), (5, .int 0), (4, .int 0), (0, .ref mm)]) hx hb dX13_bottleneck_305 hl (k := 6) rfl (by decide) (by decide) rfl (fun ls hl => ?_)
  refine lv_goto (tgt := 11) hx hb dX13_bottleneck_308 (by decide) ?_
  refine lv_iload_n hx hb dX13_bottleneck_11 rfl (lv_at hl 0 rfl) ?_
  refine lv_iconst (v := 4) hx hb dX13_bottleneck_12 (by decide) ?_
  refine lv_icmp_ge (tgt := 311) hx hb dX13_bottleneck_13 (by decide) (fun c_28 => absurd c_28 (show ¬ (4 : Int32) ≤ (1 : Int32) from (by decide))) (fun c_28 => ?_)
  refine lv_iconst (v := 0) hx hb dX13_bottleneck_16 (by decide) ?_
  refine lv_istore (lv' := [(4, .int 0), (3, .int 1), (2, .int 0), (1, .int (-1)), (7, .int 0), (6, .int (-1)), (5, .int 0), (0, .ref mm)]) hx hb dX13_bottleneck_17 hl (by decide) rfl (fun ls hl => ?_)
  refine lv_aload_n hx hb dX13_bottleneck_19 rfl (lv_at hl 7 rfl) ?_
  refine va_get (D := D) (ci := 17) (v := .ref l3) (C := RX13) (T := TX13) (N := 13) hx hb hts (fun w h => List.mem_cons_of_mem _ (List.mem_append_left _ (List.mem_append_left _ (List.mem_append_left _ (List.mem_append_left _ (List.mem_append_left _ (List.mem_append_left _ (List.mem_append_right _ h)))))))) hown hK hP 0 rfl rfl 6 (by decide) (hts (.fieldLink RX13 26 "LastroomModel" "tickets" "Ljava/util/List;") (List.mem_of_getElem? (i := 2) rfl)) (fun _ h9 => h9) rfl dX13_bottleneck_20 ?_
  have hFc := va_free (wc := [(l3, .inr (3, [.int 0, .ref tE, .int 0]))]) hD hS hA [4] rfl
  refine va_callFr (va_runF (As := []) (rest := []) (hK.1 3 _ rfl).2 ⟨hx, hb, hml, hown, hts⟩ (c_iterator l D tC tE H.size l3) (va_cwF 0 hts gX13_bottleneck_Jx4a65c_iterator_32c93_f111Jx4a65c rfl rfl rfl (hG.2.2.2.2.2.2.2.2.1 _ (List.mem_of_getElem? (i := 2) rfl)) (by decide +kernel) ⟨(Nat.le_of_ble_eq_true rfl), (Nat.le_of_ble_eq_true rfl)⟩) ⟨pg_blind, (va_recv hK hP (ci := 3) (q0 := 4) rfl rfl), (pg_pre hP hD hK hG hS hFc [4] rfl (by decide) [] rfl _)⟩ rfl rfl hl.1 rfl (lv_room (Nat.le_of_ble_eq_true rfl)) dX13_bottleneck_23 ⟨(Nat.le_of_ble_eq_true rfl), (Nat.le_of_ble_eq_true rfl)⟩) hS (fun q _ h => hFc q h) hFc (fun u_30 r_29 t H locs ht hvm hw hB hz1 hk1 hS => ?_)
  obtain ⟨hra, hB⟩ := hB
  have hra := hra.symm
  subst hra
  obtain ⟨hP, hD, hK⟩ := jn (wr := [(mm, .inr (17, [.int 0, .int 0, .ref l0, .ref la, .ref l1, .ref l2, .ref l3, .ref sk, .ref ab, .ref bu, .ref cu, .ref sd, .ref l4])), (sk, .inl (kq, 32, .inl (fun _ => 0))), (ab, .inl (kb, 8, .inl (fun _ => 0))), (u_3, .inr (2, [.int 0, .int (-1), .int 0, .ref l3]))]) (w1 := [(u_30, .inr (2, [.int 0, .int (-1), .int 0, .ref l3])), (l3, .inr (3, [.int 0, .ref tE, .int 0]))]) (t1 := []) (tr := [(kq, .boolean), (kb, .boolean)]) hP hD hK [4] [0, 1, 2, 3] rfl rfl (by decide) (by decide) [0, 1] rfl hk1 hFc hB rfl rfl ht hvm
  have hP : va_P D vwCl [(mm, .inr (17, [.int 0, .int 0, .ref l0, .ref la, .ref l1, .ref l2, .ref l3, .ref sk, .ref ab, .ref bu, .ref cu, .ref sd, .ref l4])), (sk, .inl (kq, 32, .inl (fun _ => 0))), (ab, .inl (kb, 8, .inl (fun _ => 0))), (u_3, .inr (2, [.int 0, .int (-1), .int 0, .ref l3])), (u_30, .inr (2, [.int 0, .int (-1), .int 0, .ref l3])), (l3, .inr (3, [.int 0, .ref tE, .int 0]))] H := hP
  have hD : va_D A [(mm, .inr (17, [.int 0, .int 0, .ref l0, .ref la, .ref l1, .ref l2, .ref l3, .ref sk, .ref ab, .ref bu, .ref cu, .ref sd, .ref l4])), (sk, .inl (kq, 32, .inl (fun _ => 0))), (ab, .inl (kb, 8, .inl (fun _ => 0))), (u_3, .inr (2, [.int 0, .int (-1), .int 0, .ref l3])), (u_30, .inr (2, [.int 0, .int (-1), .int 0, .ref l3])), (l3, .inr (3, [.int 0, .ref tE, .int 0]))] := hD
  have hK : va_K D vwCl [(kq, .boolean), (kb, .boolean)] s := hK
  refine W.widen (k := 2) (n := 8) (Nat.le_of_ble_eq_true rfl) (Nat.le_of_ble_eq_true rfl) ?_
  refine lv_astore (lv' := [(5, .ref u_30), (4, .int 0), (3, .int 1), (2, .int 0), (1, .int (-1)), (7, .int 0), (6, .int (-1)), (0, .ref mm)]) hx hb dX13_bottleneck_28 hl (by decide) rfl (fun ls hl => ?_)
  refine lv_aload hx hb dX13_bottleneck_30 (lv_at hl 0 rfl) ?_
  have hFc := va_free (wc := [(u_30, .inr (2, [.int 0, .int (-1), .int 0, .ref l3])), (l3, .inr (3, [.int 0, .ref tE, .int 0]))]) hD hS hA [4, 5] rfl
  refine va_callFi (va_runF (As := []) (rest := []) (hK.1 2 _ rfl).2 ⟨hx, hb, hml, hown, hts⟩ (c_hasNext l D tC tE H.size u_30 l3) (va_cwF 0 hts gX13_bottleneck_Jx35411_hasNext_aae02_f115Jx35411 rfl rfl rfl (hG.2.2.2.2.2.2.2.2.1 _ (List.mem_of_getElem? (i := 3) rfl)) (by decide +kernel) ⟨(Nat.le_of_ble_eq_true rfl), (Nat.le_of_ble_eq_true rfl)⟩) ⟨pg_blind, (va_recv hK hP (ci := 2) (q0 := 4) rfl rfl), (pg_pre hP hD hK hG hS hFc [4, 5] rfl (by decide) [] rfl _)⟩ rfl rfl hl.1 rfl (lv_room (Nat.le_of_ble_eq_true rfl)) dX13_bottleneck_32 ⟨(Nat.le_of_ble_eq_true rfl), (Nat.le_of_ble_eq_true rfl)⟩) hS (fun q _ h => hFc q h) hFc (fun r_31 u_32 t H locs ht hvm hw hB hz1 hk1 hS => ?_)
  subst hw
  obtain ⟨hP, hD, hK⟩ := jn (wr := [(mm, .inr (17, [.int 0, .int 0, .ref l0, .ref la, .ref l1, .ref l2, .ref l3, .ref sk, .ref ab, .ref bu, .ref cu, .ref sd, .ref l4])), (sk, .inl (kq, 32, .inl (fun _ => 0))), (ab, .inl (kb, 8, .inl (fun _ => 0))), (u_3, .inr (2, [.int 0, .int (-1), .int 0, .ref l3]))]) (w1 := [(u_30, .inr (2, [.int 0, .int (-1), .int 0, .ref l3])), (l3, .inr (3, [.int 0, .ref tE, .int 0]))]) (t1 := []) (tr := [(kq, .boolean), (kb, .boolean)]) hP hD hK [4, 5] [0, 1, 2, 3] rfl rfl (by decide) (by decide) [0, 1] rfl hk1 hFc hB rfl rfl ht hvm
  have hP : va_P D vwCl [(mm, .inr (17, [.int 0, .int 0, .ref l0, .ref la, .ref l1, .ref l2, .ref l3, .ref sk, .ref ab, .ref bu, .ref cu, .ref sd, .ref l4])), (sk, .inl (kq, 32, .inl (fun _ => 0))), (ab, .inl (kb, 8, .inl (fun _ => 0))), (u_3, .inr (2, [.int 0, .int (-1), .int 0, .ref l3])), (u_30, .inr (2, [.int 0, .int (-1), .int 0, .ref l3])), (l3, .inr (3, [.int 0, .ref tE, .int 0]))] H := hP
  have hD : va_D A [(mm, .inr (17, [.int 0, .int 0, .ref l0, .ref la, .ref l1, .ref l2, .ref l3, .ref sk, .ref ab, .ref bu, .ref cu, .ref sd, .ref l4])), (sk, .inl (kq, 32, .inl (fun _ => 0))), (ab, .inl (kb, 8, .inl (fun _ => 0))), (u_3, .inr (2, [.int 0, .int (-1), .int 0, .ref l3])), (u_30, .inr (2, [.int 0, .int (-1), .int 0, .ref l3])), (l3, .inr (3, [.int 0, .ref tE, .int 0]))] := hD
  have hK : va_K D vwCl [(kq, .boolean), (kb, .boolean)] s := hK
  refine W.widen (k := 2) (n := 8) (Nat.le_of_ble_eq_true rfl) (Nat.le_of_ble_eq_true rfl) ?_
  refine lv_if_eq (tgt := 178) hx hb dX13_bottleneck_37 (by decide) (fun c_33 => ?_) (fun c_33 => absurd (show (0 : Int32) = 0 from (by decide)) c_33)
  refine lv_iconst (v := 0) hx hb dX13_bottleneck_178 (by decide) ?_
  refine lv_istore (lv' := [(5, .int 0), (4, .int 0), (3, .int 1), (2, .int 0), (1, .int (-1)), (7, .int 0), (6, .int (-1)), (0, .ref mm)]) hx hb dX13_bottleneck_179 hl (by decide) rfl (fun ls hl => ?_)
  refine lv_iconst (v := 0) hx hb dX13_bottleneck_181 (by decide) ?_
  refine lv_istore (lv' := [(6, .int 0), (5, .int 0), (4, .int 0), (3, .int 1), (2, .int 0), (1, .int (-1)), (7, .int 0), (0, .ref mm)]) hx hb dX13_bottleneck_182 hl (by decide) rfl (fun ls hl => ?_)
  refine lv_iload hx hb dX13_bottleneck_184 (lv_at hl 0 rfl) ?_
  refine lv_bipush (v := 8) hx hb dX13_bottleneck_186 (by decide) ?_
  refine lv_icmp_ge (tgt := 231) hx hb dX13_bottleneck_188 (by decide) (fun c_34 => absurd c_34 (show ¬ (8 : Int32) ≤ (0 : Int32) from (by decide))) (fun c_34 => ?_)
  refine lv_iload hx hb dX13_bottleneck_191 (lv_at hl 1 rfl) ?_
  refine lv_aload_n hx hb dX13_bottleneck_193 rfl (lv_at hl 7 rfl) ?_
  refine va_get (D := D) (ci := 17) (v := .ref sk) (C := RX13) (T := TX13) (N := 13) hx hb hts (fun w h => List.mem_cons_of_mem _ (List.mem_append_left _ (List.mem_append_left _ (List.mem_append_left _ (List.mem_append_left _ (List.mem_append_left _ (List.mem_append_left _ (List.mem_append_right _ h)))))))) hown hK hP 0 rfl rfl 7 (by decide) (hts (.fieldLink RX13 29 "LastroomModel" "skills" "[Z") (List.mem_of_getElem? (i := 6) rfl)) (fun _ h9 => h9) rfl dX13_bottleneck_194 ?_
  refine lv_iconst (v := 4) hx hb dX13_bottleneck_197 (by decide) ?_
  refine lv_iload hx hb dX13_bottleneck_198 (lv_at hl 0 rfl) ?_
  refine lv_imul hx hb dX13_bottleneck_200 ?_
  refine lv_topi (fun y hy => ?_)
  rw [show (4 : Int32) * (0 : Int32) = 0 by decide] at hy
  subst hy
  refine lv_iload_n hx hb dX13_bottleneck_201 rfl (lv_at hl 3 rfl) ?_
  refine lv_iadd hx hb dX13_bottleneck_202 ?_
  refine lv_topi (fun y hy => ?_)
  rw [show (0 : Int32) + (1 : Int32) = 1 by decide] at hy
  subst hy
  refine va_zald hx hb hK hP 1 0 rfl rfl (vp_in_iff.mpr (by decide)) dX13_bottleneck_203 ?_
  refine lv_if_eq (tgt := 221) hx hb dX13_bottleneck_204 (by decide) (fun c_35 => ?_) (fun c_35 => absurd (show (0 : Int32) = 0 from (by decide)) c_35)
  refine lv_iconst (v := 0) hx hb dX13_bottleneck_221 (by decide) ?_
  refine lv_iadd hx hb dX13_bottleneck_222 ?_
  refine lv_topi (fun y hy => ?_)
  rw [show (0 : Int32) + (0 : Int32) = 0 by decide] at hy
  subst hy
  refine lv_istore (lv' := [(5, .int 0), (6, .int 0), (4, .int 0), (3, .int 1), (2, .int 0), (1, .int (-1)), (7, .int 0), (0, .ref mm)]) hx hb dX13_bottleneck_223 hl (by decide) rfl (fun ls hl => ?_)
  refine lv_iinc (v := 1) (lv' := [(6, .int 1), (5, .int 0), (4, .int 0), (3, .int 1), (2, .int 0), (1, .int (-1)), (7, .int 0), (0, .ref mm)]) hx hb dX13_bottleneck_225 hl (k := 1) rfl (by decide) (by decide) rfl (fun ls hl => ?_)
  refine lv_goto (tgt := 184) hx hb dX13_bottleneck_228 (by decide) ?_
  refine lv_iload hx hb dX13_bottleneck_184 (lv_at hl 0 rfl) ?_
  refine lv_bipush (v := 8) hx hb dX13_bottleneck_186 (by decide) ?_
  refine lv_icmp_ge (tgt := 231) hx hb dX13_bottleneck_188 (by decide) (fun c_36 => absurd c_36 (show ¬ (8 : Int32) ≤ (1 : Int32) from (by decide))) (fun c_36 => ?_)
  refine lv_iload hx hb dX13_bottleneck_191 (lv_at hl 1 rfl) ?_
  refine lv_aload_n hx hb dX13_bottleneck_193 rfl (lv_at hl 7 rfl) ?_
  refine va_get (D := D) (ci := 17) (v := .ref sk) (C := RX13) (T := TX13) (N := 13) hx hb hts (fun w h => List.mem_cons_of_mem _ (List.mem_append_left _ (List.mem_append_left _ (List.mem_append_left _ (List.mem_append_left _ (List.mem_append_left _ (List.mem_append_left _ (List.mem_append_right _ h)))))))) hown hK hP 0 rfl rfl 7 (by decide) (hts (.fieldLink RX13 29 "LastroomModel" "skills" "[Z") (List.mem_of_getElem? (i := 6) rfl)) (fun _ h9 => h9) rfl dX13_bottleneck_194 ?_
  refine lv_iconst (v := 4) hx hb dX13_bottleneck_197 (by decide) ?_
  refine lv_iload hx hb dX13_bottleneck_198 (lv_at hl 0 rfl) ?_
  refine lv_imul hx hb dX13_bottleneck_200 ?_
  refine lv_topi (fun y hy => ?_)
  rw [show (4 : Int32) * (1 : Int32) = 4 by decide] at hy
  subst hy
  refine lv_iload_n hx hb dX13_bottleneck_201 rfl (lv_at hl 3 rfl) ?_
  refine lv_iadd hx hb dX13_bottleneck_202 ?_
  refine lv_topi (fun y hy => ?_)
  rw [show (4 : Int32) + (1 : Int32) = 5 by decide] at hy
  subst hy
  refine va_zald hx hb hK hP 1 0 rfl rfl (vp_in_iff.mpr (by decide)) dX13_bottleneck_203 ?_
  refine lv_if_eq (tgt := 221) hx hb dX13_bottleneck_204 (by decide) (fun c_37 => ?_) (fun c_37 => absurd (show (0 : Int32) = 0 from (by decide)) c_37)
  refine lv_iconst (v := 0) hx hb dX13_bottleneck_221 (by decide) ?_
  refine lv_iadd hx hb dX13_bottleneck_222 ?_
  refine lv_topi (fun y hy => ?_)
  rw [show (0 : Int32) + (0 : Int32) = 0 by decide] at hy
  subst hy
  refine lv_istore (lv' := [(5, .int 0), (6, .int 1), (4, .int 0), (3, .int 1), (2, .int 0), (1, .int (-1)), (7, .int 0), (0, .ref mm)]) hx hb dX13_bottleneck_223 hl (by decide) rfl (fun ls hl => ?_)
  refine lv_iinc (v := 2) (lv' := [(6, .int 2), (5, .int 0), (4, .int 0), (3, .int 1), (2, .int 0), (1, .int (-1)), (7, .int 0), (0, .ref mm)]) hx hb dX13_bottleneck_225 hl (k := 1) rfl (by decide) (by decide) rfl (fun ls hl => ?_)
  refine lv_goto (tgt := 184) hx hb dX13_bottleneck_228 (by decide) ?_
  refine lv_iload hx hb dX13_bottleneck_184 (lv_at hl 0 rfl) ?_
  refine lv_bipush (v := 8) hx hb dX13_bottleneck_186 (by decide) ?_
  refine lv_icmp_ge (tgt := 231) hx hb dX13_bottleneck_188 (by decide) (fun c_38 => absurd c_38 (show ¬ (8 : Int32) ≤ (2 : Int32) from (by decide))) (fun c_38 => ?_)
  refine lv_iload hx hb dX13_bottleneck_191 (lv_at hl 1 rfl) ?_
  refine lv_aload_n hx hb dX13_bottleneck_193 rfl (lv_at hl 7 rfl) ?_
  refine va_get (D := D) (ci := 17) (v := .ref sk) (C := RX13) (T := TX13) (N := 13) hx hb hts (fun w h => List.mem_cons_of_mem _ (List.mem_append_left _ (List.mem_append_left _ (List.mem_append_left _ (List.mem_append_left _ (List.mem_append_left _ (List.mem_append_left _ (List.mem_append_right _ h)))))))) hown hK hP 0 rfl rfl 7 (by decide) (hts (.fieldLink RX13 29 "LastroomModel" "skills" "[Z") (List.mem_of_getElem? (i := 6) rfl)) (fun _ h9 => h9) rfl dX13_bottleneck_194 ?_
  refine lv_iconst (v := 4) hx hb dX13_bottleneck_197 (by decide) ?_
  refine lv_iload hx hb dX13_bottleneck_198 (lv_at hl 0 rfl) ?_
  refine lv_imul hx hb dX13_bottleneck_200 ?_
  refine lv_topi (fun y hy => ?_)
  rw [show (4 : Int32) * (2 : Int32) = 8 by decide] at hy
  subst hy
  refine lv_iload_n hx hb dX13_bottleneck_201 rfl (lv_at hl 3 rfl) ?_
  refine lv_iadd hx hb dX13_bottleneck_202 ?_
  refine lv_topi (fun y hy => ?_)
  rw [show (8 : Int32) + (1 : Int32) = 9 by decide] at hy
  subst hy
  refine va_zald hx hb hK hP 1 0 rfl rfl (vp_in_iff.mpr (by decide)) dX13_bottleneck_203 ?_
  refine lv_if_eq (tgt := 221) hx hb dX13_bottleneck_204 (by decide) (fun c_39 => ?_) (fun c_39 => absurd (show (0 : Int32) = 0 from (by decide)) c_39)
  refine lv_iconst (v := 0) hx hb dX13_bottleneck_221 (by decide) ?_
  refine lv_iadd hx hb dX13_bottleneck_222 ?_
  refine lv_topi (fun y hy => ?_)
  rw [show (0 : Int32) + (0 : Int32) = 0 by decide] at hy
  subst hy
  refine lv_istore (lv' := [(5, .int 0), (6, .int 2), (4, .int 0), (3, .int 1), (2, .int 0), (1, .int (-1)), (7, .int 0), (0, .ref mm)]) hx hb dX13_bottleneck_223 hl (by decide) rfl (fun ls hl => ?_)
  refine lv_iinc (v := 3) (lv' := [(6, .int 3), (5, .int 0), (4, .int 0), (3, .int 1), (2, .int 0), (1, .int (-1)), (7, .int 0), (0, .ref mm)]) hx hb dX13_bottleneck_225 hl (k := 1) rfl (by decide) (by decide) rfl (fun ls hl => ?_)
  refine lv_goto (tgt := 184) hx hb dX13_bottleneck_228 (by decide) ?_
  refine lv_iload hx hb dX13_bottleneck_184 (lv_at hl 0 rfl) ?_
  refine lv_bipush (v := 8) hx hb dX13_bottleneck_186 (by decide) ?_
  refine lv_icmp_ge (tgt := 231) hx hb dX13_bottleneck_188 (by decide) (fun c_40 => absurd c_40 (show ¬ (8 : Int32) ≤ (3 : Int32) from (by decide))) (fun c_40 => ?_)
  refine lv_iload hx hb dX13_bottleneck_191 (lv_at hl 1 rfl) ?_
  refine lv_aload_n hx hb dX13_bottleneck_193 rfl (lv_at hl 7 rfl) ?_
  refine va_get (D := D) (ci := 17) (v := .ref sk) (C := RX13) (T := TX13) (N := 13) hx hb hts (fun w h => List.mem_cons_of_mem _ (List.mem_append_left _ (List.mem_append_left _ (List.mem_append_left _ (List.mem_append_left _ (List.mem_append_left _ (List.mem_append_left _ (List.mem_append_right _ h)))))))) hown hK hP 0 rfl rfl 7 (by decide) (hts (.fieldLink RX13 29 "LastroomModel" "skills" "[Z") (List.mem_of_getElem? (i := 6) rfl)) (fun _ h9 => h9) rfl dX13_bottleneck_194 ?_
  refine lv_iconst (v := 4) hx hb dX13_bottleneck_197 (by decide) ?_
  refine lv_iload hx hb dX13_bottleneck_198 (lv_at hl 0 rfl) ?_
  refine lv_imul hx hb dX13_bottleneck_200 ?_
  refine lv_topi (fun y hy => ?_)
  rw [show (4 : Int32) * (3 : Int32) = 12 by decide] at hy
  subst hy
  refine lv_iload_n hx hb dX13_bottleneck_201 rfl (lv_at hl 3 rfl) ?_
  refine lv_iadd hx hb dX13_bottleneck_202 ?_
  refine lv_topi (fun y hy => ?_)
  rw [show (12 : Int32) + (1 : Int32) = 13 by decide] at hy
  subst hy
  refine va_zald hx hb hK hP 1 0 rfl rfl (vp_in_iff.mpr (by decide)) dX13_bottleneck_203 ?_
  refine lv_if_eq (tgt := 221) hx hb dX13_bottleneck_204 (by decide) (fun c_41 => ?_) (fun c_41 => absurd (show (0 : Int32) = 0 from (by decide)) c_41)
  refine lv_iconst (v := 0) hx hb dX13_bottleneck_221 (by decide) ?_
  refine lv_iadd hx hb dX13_bottleneck_222 ?_
  refine lv_topi (fun y hy => ?_)
  rw [show (0 : Int32) + (0 : Int32) = 0 by decide] at hy
  subst hy
  refine lv_istore (lv' := [(5, .int 0), (6, .int 3), (4, .int 0), (3, .int 1), (2, .int 0), (1, .int (-1)), (7, .int 0), (0, .ref mm)]) hx hb dX13_bottleneck_223 hl (by decide) rfl (fun ls hl => ?_)
  refine lv_iinc (v := 4) (lv' := [(6, .int 4), (5, .int 0), (4, .int 0), (3, .int 1), (2, .int 0), (1, .int (-1)), (7, .int 0), (0, .ref mm)]) hx hb dX13_bottleneck_225 hl (k := 1) rfl (by decide) (by decide) rfl (fun ls hl => ?_)
  refine lv_goto (tgt := 184) hx hb dX13_bottleneck_228 (by decide) ?_
  refine lv_iload hx hb dX13_bottleneck_184 (lv_at hl 0 rfl) ?_
  refine lv_bipush (v := 8) hx hb dX13_bottleneck_186 (by decide) ?_
  refine lv_icmp_ge (tgt := 231) hx hb dX13_bottleneck_188 (by decide) (fun c_42 => absurd c_42 (show ¬ (8 : Int32) ≤ (4 : Int32) from (by decide))) (fun c_42 => ?_)
  refine lv_iload hx hb dX13_bottleneck_191 (lv_at hl 1 rfl) ?_
  refine lv_aload_n hx hb dX13_bottleneck_193 rfl (lv_at hl 7 rfl) ?_
  refine va_get (D := D) (ci := 17) (v := .ref sk) (C := RX13) (T := TX13) (N := 13) hx hb hts (fun w h => List.mem_cons_of_mem _ (List.mem_append_left _ (List.mem_append_left _ (List.mem_append_left _ (List.mem_append_left _ (List.mem_append_left _ (List.mem_append_left _ (List.mem_append_right _ h)))))))) hown hK hP 0 rfl rfl 7 (by decide) (hts (.fieldLink RX13 29 "LastroomModel" "skills" "[Z") (List.mem_of_getElem? (i := 6) rfl)) (fun _ h9 => h9) rfl dX13_bottleneck_194 ?_
  refine lv_iconst (v := 4) hx hb dX13_bottleneck_197 (by decide) ?_
  refine lv_iload hx hb dX13_bottleneck_198 (lv_at hl 0 rfl) ?_
  refine lv_imul hx hb dX13_bottleneck_200 ?_
  refine lv_topi (fun y hy => ?_)
  rw [show (4 : Int32) * (4 : Int32) = 16 by decide] at hy
  subst hy
  refine lv_iload_n hx hb dX13_bottleneck_201 rfl (lv_at hl 3 rfl) ?_
  refine lv_iadd hx hb dX13_bottleneck_202 ?_
  refine lv_topi (fun y hy => ?_)
  rw [show (16 : Int32) + (1 : Int32) = 17 by decide] at hy
  subst hy
  refine va_zald hx hb hK hP 1 0 rfl rfl (vp_in_iff.mpr (by decide)) dX13_bottleneck_203 ?_
  refine lv_if_eq (tgt := 221) hx hb dX13_bottleneck_204 (by decide) (fun c_43 => ?_) (fun c_43 => absurd (show (0 : Int32) = 0 from (by decide)) c_43)
  refine lv_iconst (v := 0) hx hb dX13_bottleneck_221 (by decide) ?_
  refine lv_iadd hx hb dX13_bottleneck_222 ?_
  refine lv_topi (fun y hy => ?_)
  rw [show (0 : Int32) + (0 : Int32) = 0 by decide] at hy
  subst hy
  refine lv_istore (lv' := [(5, .int 0), (6, .int 4), (4, .int 0), (3, .int 1), (2, .int 0), (1, .int (-1)), (7, .int 0), (0, .ref mm)]) hx hb dX13_bottleneck_223 hl (by decide) rfl (fun ls hl => ?_)
  refine lv_iinc (v := 5) (lv' := [(6, .int 5), (5, .int 0), (4, .int 0), (3, .int 1), (2, .int 0), (1, .int (-1)), (7, .int 0), (0, .ref mm)]) hx hb dX13_bottleneck_225 hl (k := 1) rfl (by decide) (by decide) rfl (fun ls hl => ?_)
  refine lv_goto (tgt := 184) hx hb dX13_bottleneck_228 (by decide) ?_
  refine lv_iload hx hb dX13_bottleneck_184 (lv_at hl 0 rfl) ?_
  refine lv_bipush (v := 8) hx hb dX13_bottleneck_186 (by decide) ?_
  refine lv_icmp_ge (tgt := 231) hx hb dX13_bottleneck_188 (by decide) (fun c_44 => absurd c_44 (show ¬ (8 : Int32) ≤ (5 : Int32) from (by decide))) (fun c_44 => ?_)
  refine lv_iload hx hb dX13_bottleneck_191 (lv_at hl 1 rfl) ?_
  refine lv_aload_n hx hb dX13_bottleneck_193 rfl (lv_at hl 7 rfl) ?_
  refine va_get (D := D) (ci := 17) (v := .ref sk) (C := RX13) (T := TX13) (N := 13) hx hb hts (fun w h => List.mem_cons_of_mem _ (List.mem_append_left _ (List.mem_append_left _ (List.mem_append_left _ (List.mem_append_left _ (List.mem_append_left _ (List.mem_append_left _ (List.mem_append_right _ h)))))))) hown hK hP 0 rfl rfl 7 (by decide) (hts (.fieldLink RX13 29 "LastroomModel" "skills" "[Z") (List.mem_of_getElem? (i := 6) rfl)) (fun _ h9 => h9) rfl dX13_bottleneck_194 ?_
  refine lv_iconst (v := 4) hx hb dX13_bottleneck_197 (by decide) ?_
  refine lv_iload hx hb dX13_bottleneck_198 (lv_at hl 0 rfl) ?_
  refine lv_imul hx hb dX13_bottleneck_200 ?_
  refine lv_topi (fun y hy => ?_)
  rw [show (4 : Int32) * (5 : Int32) = 20 by decide] at hy
  subst hy
  refine lv_iload_n hx hb dX13_bottleneck_201 rfl (lv_at hl 3 rfl) ?_
  refine lv_iadd hx hb dX13_bottleneck_202 ?_
  refine lv_topi (fun y hy => ?_)
  rw [show (20 : Int32) + (1 : Int32) = 21 by decide] at hy
  subst hy
  refine va_zald hx hb hK hP 1 0 rfl rfl (vp_in_iff.mpr (by decide)) dX13_bottleneck_203 ?_
  refine lv_if_eq (tgt := 221) hx hb dX13_bottleneck_204 (by decide) (fun c_45 => ?_) (fun c_45 => absurd (show (0 : Int32) = 0 from (by decide)) c_45)
  refine lv_iconst (v := 0) hx hb dX13_bottleneck_221 (by decide) ?_
  refine lv_iadd hx hb dX13_bottleneck_222 ?_
  refine lv_topi (fun y hy => ?_)
  rw [show (0 : Int32) + (0 : Int32) = 0 by decide] at hy
  subst hy
  refine lv_istore (lv' := [(5, .int 0), (6, .int 5), (4, .int 0), (3, .int 1), (2, .int 0), (1, .int (-1)), (7, .int 0), (0, .ref mm)]) hx hb dX13_bottleneck_223 hl (by decide) rfl (fun ls hl => ?_)
  refine lv_iinc (v := 6) (lv' := [(6, .int 6), (5, .int 0), (4, .int 0), (3, .int 1), (2, .int 0), (1, .int (-1)), (7, .int 0), (0, .ref mm)]) hx hb dX13_bottleneck_225 hl (k := 1) rfl (by decide) (by decide) rfl (fun ls hl => ?_)
  refine lv_goto (tgt := 184) hx hb dX13_bottleneck_228 (by decide) ?_
  refine lv_iload hx hb dX13_bottleneck_184 (lv_at hl 0 rfl) ?_
  refine lv_bipush (v := 8) hx hb dX13_bottleneck_186 (by decide) ?_
  refine lv_icmp_ge (tgt := 231) hx hb dX13_bottleneck_188 (by decide) (fun c_46 => absurd c_46 (show ¬ (8 : Int32) ≤ (6 : Int32) from (by decide))) (fun c_46 => ?_)
  refine lv_iload hx hb dX13_bottleneck_191 (lv_at hl 1 rfl) ?_
  refine lv_aload_n hx hb dX13_bottleneck_193 rfl (lv_at hl 7 rfl) ?_
  refine va_get (D := D) (ci := 17) (v := .ref sk) (C := RX13) (T := TX13) (N := 13) hx hb hts (fun w h => List.mem_cons_of_mem _ (List.mem_append_left _ (List.mem_append_left _ (List.mem_append_left _ (List.mem_append_left _ (List.mem_append_left _ (List.mem_append_left _ (List.mem_append_right _ h)))))))) hown hK hP 0 rfl rfl 7 (by decide) (hts (.fieldLink RX13 29 "LastroomModel" "skills" "[Z") (List.mem_of_getElem? (i := 6) rfl)) (fun _ h9 => h9) rfl dX13_bottleneck_194 ?_
  refine lv_iconst (v := 4) hx hb dX13_bottleneck_197 (by decide) ?_
  refine lv_iload hx hb dX13_bottleneck_198 (lv_at hl 0 rfl) ?_
  refine lv_imul hx hb dX13_bottleneck_200 ?_
  refine lv_topi (fun y hy => ?_)
  rw [show (4 : Int32) * (6 : Int32) = 24 by decide] at hy
  subst hy
  refine lv_iload_n hx hb dX13_bottleneck_201 rfl (lv_at hl 3 rfl) ?_
  refine lv_iadd hx hb dX13_bottleneck_202 ?_
  refine lv_topi (fun y hy => ?_)
  rw [show (24 : Int32) + (1 : Int32) = 25 by decide] at hy
  subst hy
  refine va_zald hx hb hK hP 1 0 rfl rfl (vp_in_iff.mpr (by decide)) dX13_bottleneck_203 ?_
  refine lv_if_eq (tgt := 221) hx hb dX13_bottleneck_204 (by decide) (fun c_47 => ?_) (fun c_47 => absurd (show (0 : Int32) = 0 from (by decide)) c_47)
  refine lv_iconst (v := 0) hx hb dX13_bottleneck_221 (by decide) ?_
  refine lv_iadd hx hb dX13_bottleneck_222 ?_
  refine lv_topi (fun y hy => ?_)
  rw [show (0 : Int32) + (0 : Int32) = 0 by decide] at hy
  subst hy
  refine lv_istore (lv' := [(5, .int 0), (6, .int 6), (4, .int 0), (3, .int 1), (2, .int 0), (1, .int (-1)), (7, .int 0), (0, .ref mm)]) hx hb dX13_bottleneck_223 hl (by decide) rfl (fun ls hl => ?_)
  refine lv_iinc (v := 7) (lv' := [(6, .int 7), (5, .int 0), (4, .int 0), (3, .int 1), (2, .int 0), (1, .int (-1)), (7, .int 0), (0, .ref mm)]) hx hb dX13_bottleneck_225 hl (k := 1) rfl (by decide) (by decide) rfl (fun ls hl => ?_)
  refine lv_goto (tgt := 184) hx hb dX13_bottleneck_228 (by decide) ?_
  refine lv_iload hx hb dX13_bottleneck_184 (lv_at hl 0 rfl) ?_
  refine lv_bipush (v := 8) hx hb dX13_bottleneck_186 (by decide) ?_
  refine lv_icmp_ge (tgt := 231) hx hb dX13_bottleneck_188 (by decide) (fun c_48 => absurd c_48 (show ¬ (8 : Int32) ≤ (7 : Int32) from (by decide))) (fun c_48 => ?_)
  refine lv_iload hx hb dX13_bottleneck_191 (lv_at hl 1 rfl) ?_
  refine lv_aload_n hx hb dX13_bottleneck_193 rfl (lv_at hl 7 rfl) ?_
  refine va_get (D := D) (ci := 17) (v := .ref sk) (C := RX13) (T := TX13) (N := 13) hx hb hts (fun w h => List.mem_cons_of_mem _ (List.mem_append_left _ (List.mem_append_left _ (List.mem_append_left _ (List.mem_append_left _ (List.mem_append_left _ (List.mem_append_left _ (List.mem_append_right _ h)))))))) hown hK hP 0 rfl rfl 7 (by decide) (hts (.fieldLink RX13 29 "LastroomModel" "skills" "[Z") (List.mem_of_getElem? (i := 6) rfl)) (fun _ h9 => h9) rfl dX13_bottleneck_194 ?_
  refine lv_iconst (v := 4) hx hb dX13_bottleneck_197 (by decide) ?_
  refine lv_iload hx hb dX13_bottleneck_198 (lv_at hl 0 rfl) ?_
  refine lv_imul hx hb dX13_bottleneck_200 ?_
  refine lv_topi (fun y hy => ?_)
  rw [show (4 : Int32) * (7 : Int32) = 28 by decide] at hy
  subst hy
  refine lv_iload_n hx hb dX13_bottleneck_201 rfl (lv_at hl 3 rfl) ?_
  refine lv_iadd hx hb dX13_bottleneck_202 ?_
  refine lv_topi (fun y hy => ?_)
  rw [show (28 : Int32) + (1 : Int32) = 29 by decide] at hy
  subst hy
  refine va_zald hx hb hK hP 1 0 rfl rfl (vp_in_iff.mpr (by decide)) dX13_bottleneck_203 ?_
  refine lv_if_eq (tgt := 221) hx hb dX13_bottleneck_204 (by decide) (fun c_49 => ?_) (fun c_49 => absurd (show (0 : Int32) = 0 from (by decide)) c_49)
  refine lv_iconst (v := 0) hx hb dX13_bottleneck_221 (by decide) ?_
  refine lv_iadd hx hb dX13_bottleneck_222 ?_
  refine lv_topi (fun y hy => ?_)
  rw [show (0 : Int32) + (0 : Int32) = 0 by decide] at hy
  subst hy
  refine lv_istore (lv' := [(5, .int 0), (6, .int 7), (4, .int 0), (3, .int 1), (2, .int 0), (1, .int (-1)), (7, .int 0), (0, .ref mm)]) hx hb dX13_bottleneck_223 hl (by decide) rfl (fun ls hl => ?_)
  refine lv_iinc (v := 8) (lv' := [(6, .int 8), (5, .int 0), (4, .int 0), (3, .int 1), (2, .int 0), (1, .int (-1)), (7, .int 0), (0, .ref mm)]) hx hb dX13_bottleneck_225 hl (k := 1) rfl (by decide) (by decide) rfl (fun ls hl => ?_)
  refine lv_goto (tgt := 184) hx hb dX13_bottleneck_228 (by decide) ?_
  refine lv_iload hx hb dX13_bottleneck_184 (lv_at hl 0 rfl) ?_
  refine lv_bipush (v := 8) hx hb dX13_bottleneck_186 (by decide) ?_
  refine lv_icmp_ge (tgt := 231) hx hb dX13_bottleneck_188 (by decide) (fun c_50 => ?_) (fun c_50 => absurd (show (8 : Int32) ≤ (8 : Int32) from (by decide)) c_50)
  refine lv_iload hx hb dX13_bottleneck_231 (lv_at hl 2 rfl) ?_
  refine lv_if_ne (tgt := 240) hx hb dX13_bottleneck_233 (by decide) (fun c_51 => absurd (by decide) c_51) (fun c_51 => ?_)
  refine lv_iconst (v := (-1)) hx hb dX13_bottleneck_236 (by decide) ?_
  refine lv_goto (tgt := 256) hx hb dX13_bottleneck_237 (by decide) ?_
  refine lv_istore (lv' := [(6, .int (-1)), (5, .int 0), (4, .int 0), (3, .int 1), (2, .int 0), (1, .int (-1)), (7, .int 0), (0, .ref mm)]) hx hb dX13_bottleneck_256 hl (by decide) rfl (fun ls hl => ?_)
  refine lv_iload hx hb dX13_bottleneck_258 (lv_at hl 0 rfl) ?_
  refine lv_iconst (v := (-1)) hx hb dX13_bottleneck_260 (by decide) ?_
  refine lv_icmp_eq (tgt := 279) hx hb dX13_bottleneck_261 (by decide) (fun c_52 => ?_) (fun c_52 => absurd (show ((-1) : Int32) = (-1) from (by decide)) c_52)
  refine lv_iconst (v := 0) hx hb dX13_bottleneck_279 (by decide) ?_
  refine lv_istore (lv' := [(7, .int 0), (6, .int (-1)), (5, .int 0), (4, .int 0), (3, .int 1), (2, .int 0), (1, .int (-1)), (0, .ref mm)]) hx hb dX13_bottleneck_280 hl (by decide) rfl (fun ls hl => ?_)
  refine lv_iload hx hb dX13_bottleneck_282 (lv_at hl 0 rfl) ?_
  refine lv_if_eq (tgt := 291) hx hb dX13_bottleneck_284 (by decide) (fun c_53 => ?_) (fun c_53 => absurd (show (0 : Int32) = 0 from (by decide)) c_53)
  refine lv_iload_n hx hb dX13_bottleneck_291 rfl (lv_at hl 6 rfl) ?_
  refine lv_istore_n (lv' := [(1, .int (-1)), (7, .int 0), (6, .int (-1)), (5, .int 0), (4, .int 0), (3, .int 1), (2, .int 0), (0, .ref mm)]) hx hb dX13_bottleneck_292 rfl hl (by decide) rfl (fun ls hl => ?_)
  refine lv_iload hx hb dX13_bottleneck_293 (lv_at hl 1 rfl) ?_
  refine lv_if_eq (tgt := 303) hx hb dX13_bottleneck_295 (by decide) (fun c_54 => ?_) (fun c_54 => absurd (show (0 : Int32) = 0 from (by decide)) c_54)
  refine lv_iload_n hx hb dX13_bottleneck_303 rfl (lv_at hl 6 rfl) ?_
  refine lv_istore_n (lv' := [(2, .int 0), (1, .int (-1)), (7, .int 0), (6, .int (-1)), (5, .int 0), (4, .int 0), (3, .int 1), (0, .ref mm)]) hx hb dX13_bottleneck_304 rfl hl (by decide) rfl (fun ls hl => ?_)
  refine lv_iinc (v := 2) (lv' := [(3, .int 2), (2, .int 0), (1, .int (-1)), (7, .int 0), (6, .int (-1)), (5, .int 0), (4, .int 0), (0, .ref mm)]) hx hb dX13_bottleneck_305 hl (k := 6) rfl (by decide) (by decide) rfl (fun ls hl => ?_)
  refine lv_goto (tgt := 11) hx hb dX13_bottleneck_308 (by decide) ?_
  refine lv_iload_n hx hb dX13_bottleneck_11 rfl (lv_at hl 0 rfl) ?_
  refine lv_iconst (v := 4) hx hb dX13_bottleneck_12 (by decide) ?_
  refine lv_icmp_ge (tgt := 311) hx hb dX13_bottleneck_13 (by decide) (fun c_55 => absurd c_55 (show ¬ (4 : Int32) ≤ (2 : Int32) from (by decide))) (fun c_55 => ?_)
  refine lv_iconst (v := 0) hx hb dX13_bottleneck_16 (by decide) ?_
  refine lv_istore (lv' := [(4, .int 0), (3, .int 2), (2, .int 0), (1, .int (-1)), (7, .int 0), (6, .int (-1)), (5, .int 0), (0, .ref mm)]) hx hb dX13_bottleneck_17 hl (by decide) rfl (fun ls hl => ?_)
  refine lv_aload_n hx hb dX13_bottleneck_19 rfl (lv_at hl 7 rfl) ?_
  refine va_get (D := D) (ci := 17) (v := .ref l3) (C := RX13) (T := TX13) (N := 13) hx hb hts (fun w h => List.mem_cons_of_mem _ (List.mem_append_left _ (List.mem_append_left _ (List.mem_append_left _ (List.mem_append_left _ (List.mem_append_left _ (List.mem_append_left _ (List.mem_append_right _ h)))))))) hown hK hP 0 rfl rfl 6 (by decide) (hts (.fieldLink RX13 26 "LastroomModel" "tickets" "Ljava/util/List;") (List.mem_of_getElem? (i := 2) rfl)) (fun _ h9 => h9) rfl dX13_bottleneck_20 ?_
  have hFc := va_free (wc := [(l3, .inr (3, [.int 0, .ref tE, .int 0]))]) hD hS hA [5] rfl
  refine va_callFr (va_runF (As := []) (rest := []) (hK.1 3 _ rfl).2 ⟨hx, hb, hml, hown, hts⟩ (c_iterator l D tC tE H.size l3) (va_cwF 0 hts gX13_bottleneck_Jx4a65c_iterator_32c93_f111Jx4a65c rfl rfl rfl (hG.2.2.2.2.2.2.2.2.1 _ (List.mem_of_getElem? (i := 2) rfl)) (by decide +kernel) ⟨(Nat.le_of_ble_eq_true rfl), (Nat.le_of_ble_eq_true rfl)⟩) ⟨pg_blind, (va_recv hK hP (ci := 3) (q0 := 5) rfl rfl), (pg_pre hP hD hK hG hS hFc [5] rfl (by decide) [] rfl _)⟩ rfl rfl hl.1 rfl (lv_room (Nat.le_of_ble_eq_true rfl)) dX13_bottleneck_23 ⟨(Nat.le_of_ble_eq_true rfl), (Nat.le_of_ble_eq_true rfl)⟩) hS (fun q _ h => hFc q h) hFc (fun u_57 r_56 t H locs ht hvm hw hB hz1 hk1 hS => ?_)
  obtain ⟨hra, hB⟩ := hB
  have hra := hra.symm
  subst hra
  obtain ⟨hP, hD, hK⟩ := jn (wr := [(mm, .inr (17, [.int 0, .int 0, .ref l0, .ref la, .ref l1, .ref l2, .ref l3, .ref sk, .ref ab, .ref bu, .ref cu, .ref sd, .ref l4])), (sk, .inl (kq, 32, .inl (fun _ => 0))), (ab, .inl (kb, 8, .inl (fun _ => 0))), (u_3, .inr (2, [.int 0, .int (-1), .int 0, .ref l3])), (u_30, .inr (2, [.int 0, .int (-1), .int 0, .ref l3]))]) (w1 := [(u_57, .inr (2, [.int 0, .int (-1), .int 0, .ref l3])), (l3, .inr (3, [.int 0, .ref tE, .int 0]))]) (t1 := []) (tr := [(kq, .boolean), (kb, .boolean)]) hP hD hK [5] [0, 1, 2, 3, 4] rfl rfl (by decide) (by decide) [0, 1] rfl hk1 hFc hB rfl rfl ht hvm
  have hP : va_P D vwCl [(mm, .inr (17, [.int 0, .int 0, .ref l0, .ref la, .ref l1, .ref l2, .ref l3, .ref sk, .ref ab, .ref bu, .ref cu, .ref sd, .ref l4])), (sk, .inl (kq, 32, .inl (fun _ => 0))), (ab, .inl (kb, 8, .inl (fun _ => 0))), (u_3, .inr (2, [.int 0, .int (-1), .int 0, .ref l3])), (u_30, .inr (2, [.int 0, .int (-1), .int 0, .ref l3])), (u_57, .inr (2, [.int 0, .int (-1), .int 0, .ref l3])), (l3, .inr (3, [.int 0, .ref tE, .int 0]))] H := hP
  have hD : va_D A [(mm, .inr (17, [.int 0, .int 0, .ref l0, .ref la, .ref l1, .ref l2, .ref l3, .ref sk, .ref ab, .ref bu, .ref cu, .ref sd, .ref l4])), (sk, .inl (kq, 32, .inl (fun _ => 0))), (ab, .inl (kb, 8, .inl (fun _ => 0))), (u_3, .inr (2, [.int 0, .int (-1), .int 0, .ref l3])), (u_30, .inr (2, [.int 0, .int (-1), .int 0, .ref l3])), (u_57, .inr (2, [.int 0, .int (-1), .int 0, .ref l3])), (l3, .inr (3, [.int 0, .ref tE, .int 0]))] := hD
  have hK : va_K D vwCl [(kq, .boolean), (kb, .boolean)] s := hK
  refine W.widen (k := 3) (n := 12) (Nat.le_of_ble_eq_true rfl) (Nat.le_of_ble_eq_true rfl) ?_
  refine lv_astore (lv' := [(5, .ref u_57), (4, .int 0), (3, .int 2), (2, .int 0), (1, .int (-1)), (7, .int 0), (6, .int (-1)), (0, .ref mm)]) hx hb dX13_bottleneck_28 hl (by decide) rfl (fun ls hl => ?_)
  refine lv_aload hx hb dX13_bottleneck_30 (lv_at hl 0 rfl) ?_
  have hFc := va_free (wc := [(u_57, .inr (2, [.int 0, .int (-1), .int 0, .ref l3])), (l3, .inr (3, [.int 0, .ref tE, .int 0]))]) hD hS hA [5, 6] rfl
  refine va_callFi (va_runF (As := []) (rest := []) (hK.1 2 _ rfl).2 ⟨hx, hb, hml, hown, hts⟩ (c_hasNext l D tC tE H.size u_57 l3) (va_cwF 0 hts gX13_bottleneck_Jx35411_hasNext_aae02_f115Jx35411 rfl rfl rfl (hG.2.2.2.2.2.2.2.2.1 _ (List.mem_of_getElem? (i := 3) rfl)) (by decide +kernel) ⟨(Nat.le_of_ble_eq_true rfl), (Nat.le_of_ble_eq_true rfl)⟩) ⟨pg_blind, (va_recv hK hP (ci := 2) (q0 := 5) rfl rfl), (pg_pre hP hD hK hG hS hFc [5, 6] rfl (by decide) [] rfl _)⟩ rfl rfl hl.1 rfl (lv_room (Nat.le_of_ble_eq_true rfl)) dX13_bottleneck_32 ⟨(Nat.le_of_ble_eq_true rfl), (Nat.le_of_ble_eq_true rfl)⟩) hS (fun q _ h => hFc q h) hFc (fun r_58 u_59 t H locs ht hvm hw hB hz1 hk1 hS => ?_)
  subst hw
  obtain ⟨hP, hD, hK⟩ := jn (wr := [(mm, .inr (17, [.int 0, .int 0, .ref l0, .ref la, .ref l1, .ref l2, .ref l3, .ref sk, .ref ab, .ref bu, .ref cu, .ref sd, .ref l4])), (sk, .inl (kq, 32, .inl (fun _ => 0))), (ab, .inl (kb, 8, .inl (fun _ => 0))), (u_3, .inr (2, [.int 0, .int (-1), .int 0, .ref l3])), (u_30, .inr (2, [.int 0, .int (-1), .int 0, .ref l3]))]) (w1 := [(u_57, .inr (2, [.int 0, .int (-1), .int 0, .ref l3])), (l3, .inr (3, [.int 0, .ref tE, .int 0]))]) (t1 := []) (tr := [(kq, .boolean), (kb, .boolean)]) hP hD hK [5, 6] [0, 1, 2, 3, 4] rfl rfl (by decide) (by decide) [0, 1] rfl hk1 hFc hB rfl rfl ht hvm
  have hP : va_P D vwCl [(mm, .inr (17, [.int 0, .int 0, .ref l0, .ref la, .ref l1, .ref l2, .ref l3, .ref sk, .ref ab, .ref bu, .ref cu, .ref sd, .ref l4])), (sk, .inl (kq, 32, .inl (fun _ => 0))), (ab, .inl (kb, 8, .inl (fun _ => 0))), (u_3, .inr (2, [.int 0, .int (-1), .int 0, .ref l3])), (u_30, .inr (2, [.int 0, .int (-1), .int 0, .ref l3])), (u_57, .inr (2, [.int 0, .int (-1), .int 0, .ref l3])), (l3, .inr (3, [.int 0, .ref tE, .int 0]))] H := hP
  have hD : va_D A [(mm, .inr (17, [.int 0, .int 0, .ref l0, .ref la, .ref l1, .ref l2, .ref l3, .ref sk, .ref ab, .ref bu, .ref cu, .ref sd, .ref l4])), (sk, .inl (kq, 32, .inl (fun _ => 0))), (ab, .inl (kb, 8, .inl (fun _ => 0))), (u_3, .inr (2, [.int 0, .int (-1), .int 0, .ref l3])), (u_30, .inr (2, [.int 0, .int (-1), .int 0, .ref l3])), (u_57, .inr (2, [.int 0, .int (-1), .int 0, .ref l3])), (l3, .inr (3, [.int 0, .ref tE, .int 0]))] := hD
  have hK : va_K D vwCl [(kq, .boolean), (kb, .boolean)] s := hK
  refine W.widen (k := 3) (n := 12) (Nat.le_of_ble_eq_true rfl) (Nat.le_of_ble_eq_true rfl) ?_
  refine lv_if_eq (tgt := 178) hx hb dX13_bottleneck_37 (by decide) (fun c_60 => ?_) (fun c_60 => absurd (show (0 : Int32) = 0 from (by decide)) c_60)
  refine lv_iconst (v := 0) hx hb dX13_bottleneck_178 (by decide) ?_
  refine lv_istore (lv' := [(5, .int 0), (4, .int 0), (3, .int 2), (2, .int 0), (1, .int (-1)), (7, .int 0), (6, .int (-1)), (0, .ref mm)]) hx hb dX13_bottleneck_179 hl (by decide) rfl (fun ls hl => ?_)
  refine lv_iconst (v := 0) hx hb dX13_bottleneck_181 (by decide) ?_
  refine lv_istore (lv' := [(6, .int 0), (5, .int 0), (4, .int 0), (3, .int 2), (2, .int 0), (1, .int (-1)), (7, .int 0), (0, .ref mm)]) hx hb dX13_bottleneck_182 hl (by decide) rfl (fun ls hl => ?_)
  refine lv_iload hx hb dX13_bottleneck_184 (lv_at hl 0 rfl) ?_
  refine lv_bipush (v := 8) hx hb dX13_bottleneck_186 (by decide) ?_
  refine lv_icmp_ge (tgt := 231) hx hb dX13_bottleneck_188 (by decide) (fun c_61 => absurd c_61 (show ¬ (8 : Int32) ≤ (0 : Int32) from (by decide))) (fun c_61 => ?_)
  refine lv_iload hx hb dX13_bottleneck_191 (lv_at hl 1 rfl) ?_
  refine lv_aload_n hx hb dX13_bottleneck_193 rfl (lv_at hl 7 rfl) ?_
  refine va_get (D := D) (ci := 17) (v := .ref sk) (C := RX13) (T := TX13) (N := 13) hx hb hts (fun w h => List.mem_cons_of_mem _ (List.mem_append_left _ (List.mem_append_left _ (List.mem_append_left _ (List.mem_append_left _ (List.mem_append_left _ (List.mem_append_left _ (List.mem_append_right _ h)))))))) hown hK hP 0 rfl rfl 7 (by decide) (hts (.fieldLink RX13 29 "LastroomModel" "skills" "[Z") (List.mem_of_getElem? (i := 6) rfl)) (fun _ h9 => h9) rfl dX13_bottleneck_194 ?_
  refine lv_iconst (v := 4) hx hb dX13_bottleneck_197 (by decide) ?_
  refine lv_iload hx hb dX13_bottleneck_198 (lv_at hl 0 rfl) ?_
  refine lv_imul hx hb dX13_bottleneck_200 ?_
  refine lv_topi (fun y hy => ?_)
  rw [show (4 : Int32) * (0 : Int32) = 0 by decide] at hy
  subst hy
  refine lv_iload_n hx hb dX13_bottleneck_201 rfl (lv_at hl 3 rfl) ?_
  refine lv_iadd hx hb dX13_bottleneck_202 ?_
  refine lv_topi (fun y hy => ?_)
  rw [show (0 : Int32) + (2 : Int32) = 2 by decide] at hy
  subst hy
  refine va_zald hx hb hK hP 1 0 rfl rfl (vp_in_iff.mpr (by decide)) dX13_bottleneck_203 ?_
  refine lv_if_eq (tgt := 221) hx hb dX13_bottleneck_204 (by decide) (fun c_62 => ?_) (fun c_62 => absurd (show (0 : Int32) = 0 from (by decide)) c_62)
  refine lv_iconst (v := 0) hx hb dX13_bottleneck_221 (by decide) ?_
  refine lv_iadd hx hb dX13_bottleneck_222 ?_
  refine lv_topi (fun y hy => ?_)
  rw [show (0 : Int32) + (0 : Int32) = 0 by decide] at hy
  subst hy
  refine lv_istore (lv' := [(5, .int 0), (6, .int 0), (4, .int 0), (3, .int 2), (2, .int 0), (1, .int (-1)), (7, .int 0), (0, .ref mm)]) hx hb dX13_bottleneck_223 hl (by decide) rfl (fun ls hl => ?_)
  refine lv_iinc (v := 1) (lv' := [(6, .int 1), (5, .int 0), (4, .int 0), (3, .int 2), (2, .int 0), (1, .int (-1)), (7, .int 0), (0, .ref mm)]) hx hb dX13_bottleneck_225 hl (k := 1) rfl (by decide) (by decide) rfl (fun ls hl => ?_)
  refine lv_goto (tgt := 184) hx hb dX13_bottleneck_228 (by decide) ?_
  refine lv_iload hx hb dX13_bottleneck_184 (lv_at hl 0 rfl) ?_
  refine lv_bipush (v := 8) hx hb dX13_bottleneck_186 (by decide) ?_
  refine lv_icmp_ge (tgt := 231) hx hb dX13_bottleneck_188 (by decide) (fun c_63 => absurd c_63 (show ¬ (8 : Int32) ≤ (1 : Int32) from (by decide))) (fun c_63 => ?_)
  refine lv_iload hx hb dX13_bottleneck_191 (lv_at hl 1 rfl) ?_
  refine lv_aload_n hx hb dX13_bottleneck_193 rfl (lv_at hl 7 rfl) ?_
  refine va_get (D := D) (ci := 17) (v := .ref sk) (C := RX13) (T := TX13) (N := 13) hx hb hts (fun w h => List.mem_cons_of_mem _ (List.mem_append_left _ (List.mem_append_left _ (List.mem_append_left _ (List.mem_append_left _ (List.mem_append_left _ (List.mem_append_left _ (List.mem_append_right _ h)))))))) hown hK hP 0 rfl rfl 7 (by decide) (hts (.fieldLink RX13 29 "LastroomModel" "skills" "[Z") (List.mem_of_getElem? (i := 6) rfl)) (fun _ h9 => h9) rfl dX13_bottleneck_194 ?_
  refine lv_iconst (v := 4) hx hb dX13_bottleneck_197 (by decide) ?_
  refine lv_iload hx hb dX13_bottleneck_198 (lv_at hl 0 rfl) ?_
  refine lv_imul hx hb dX13_bottleneck_200 ?_
  refine lv_topi (fun y hy => ?_)
  rw [show (4 : Int32) * (1 : Int32) = 4 by decide] at hy
  subst hy
  refine lv_iload_n hx hb dX13_bottleneck_201 rfl (lv_at hl 3 rfl) ?_
  refine lv_iadd hx hb dX13_bottleneck_202 ?_
  refine lv_topi (fun y hy => ?_)
  rw [show (4 : Int32) + (2 : Int32) = 6 by decide] at hy
  subst hy
  refine va_zald hx hb hK hP 1 0 rfl rfl (vp_in_iff.mpr (by decide)) dX13_bottleneck_203 ?_
  refine lv_if_eq (tgt := 221) hx hb dX13_bottleneck_204 (by decide) (fun c_64 => ?_) (fun c_64 => absurd (show (0 : Int32) = 0 from (by decide)) c_64)
  refine lv_iconst (v := 0) hx hb dX13_bottleneck_221 (by decide) ?_
  refine lv_iadd hx hb dX13_bottleneck_222 ?_
  refine lv_topi (fun y hy => ?_)
  rw [show (0 : Int32) + (0 : Int32) = 0 by decide] at hy
  subst hy
  refine lv_istore (lv' := [(5, .int 0), (6, .int 1), (4, .int 0), (3, .int 2), (2, .int 0), (1, .int (-1)), (7, .int 0), (0, .ref mm)]) hx hb dX13_bottleneck_223 hl (by decide) rfl (fun ls hl => ?_)
  refine lv_iinc (v := 2) (lv' := [(6, .int 2), (5, .int 0), (4, .int 0), (3, .int 2), (2, .int 0), (1, .int (-1)), (7, .int 0), (0, .ref mm)]) hx hb dX13_bottleneck_225 hl (k := 1) rfl (by decide) (by decide) rfl (fun ls hl => ?_)
  refine lv_goto (tgt := 184) hx hb dX13_bottleneck_228 (by decide) ?_
  refine lv_iload hx hb dX13_bottleneck_184 (lv_at hl 0 rfl) ?_
  refine lv_bipush (v := 8) hx hb dX13_bottleneck_186 (by decide) ?_
  refine lv_icmp_ge (tgt := 231) hx hb dX13_bottleneck_188 (by decide) (fun c_65 => absurd c_65 (show ¬ (8 : Int32) ≤ (2 : Int32) from (by decide))) (fun c_65 => ?_)
  refine lv_iload hx hb dX13_bottleneck_191 (lv_at hl 1 rfl) ?_
  refine lv_aload_n hx hb dX13_bottleneck_193 rfl (lv_at hl 7 rfl) ?_
  refine va_get (D := D) (ci := 17) (v := .ref sk) (C := RX13) (T := TX13) (N := 13) hx hb hts (fun w h => List.mem_cons_of_mem _ (List.mem_append_left _ (List.mem_append_left _ (List.mem_append_left _ (List.mem_append_left _ (List.mem_append_left _ (List.mem_append_left _ (List.mem_append_right _ h)))))))) hown hK hP 0 rfl rfl 7 (by decide) (hts (.fieldLink RX13 29 "LastroomModel" "skills" "[Z") (List.mem_of_getElem? (i := 6) rfl)) (fun _ h9 => h9) rfl dX13_bottleneck_194 ?_
  refine lv_iconst (v := 4) hx hb dX13_bottleneck_197 (by decide) ?_
  refine lv_iload hx hb dX13_bottleneck_198 (lv_at hl 0 rfl) ?_
  refine lv_imul hx hb dX13_bottleneck_200 ?_
  refine lv_topi (fun y hy => ?_)
  rw [show (4 : Int32) * (2 : Int32) = 8 by decide] at hy
  subst hy
  refine lv_iload_n hx hb dX13_bottleneck_201 rfl (lv_at hl 3 rfl) ?_
  refine lv_iadd hx hb dX13_bottleneck_202 ?_
  refine lv_topi (fun y hy => ?_)
  rw [show (8 : Int32) + (2 : Int32) = 10 by decide] at hy
  subst hy
  refine va_zald hx hb hK hP 1 0 rfl rfl (vp_in_iff.mpr (by decide)) dX13_bottleneck_203 ?_
  refine lv_if_eq (tgt := 221) hx hb dX13_bottleneck_204 (by decide) (fun c_66 => ?_) (fun c_66 => absurd (show (0 : Int32) = 0 from (by decide)) c_66)
  refine lv_iconst (v := 0) hx hb dX13_bottleneck_221 (by decide) ?_
  refine lv_iadd hx hb dX13_bottleneck_222 ?_
  refine lv_topi (fun y hy => ?_)
  rw [show (0 : Int32) + (0 : Int32) = 0 by decide] at hy
  subst hy
  refine lv_istore (lv' := [(5, .int 0), (6, .int 2), (4, .int 0), (3, .int 2), (2, .int 0), (1, .int (-1)), (7, .int 0), (0, .ref mm)]) hx hb dX13_bottleneck_223 hl (by decide) rfl (fun ls hl => ?_)
  refine lv_iinc (v := 3) (lv' := [(6, .int 3), (5, .int 0), (4, .int 0), (3, .int 2), (2, .int 0), (1, .int (-1)), (7, .int 0), (0, .ref mm)]) hx hb dX13_bottleneck_225 hl (k := 1) rfl (by decide) (by decide) rfl (fun ls hl => ?_)
  refine lv_goto (tgt := 184) hx hb dX13_bottleneck_228 (by decide) ?_
  refine lv_iload hx hb dX13_bottleneck_184 (lv_at hl 0 rfl) ?_
  refine lv_bipush (v := 8) hx hb dX13_bottleneck_186 (by decide) ?_
  refine lv_icmp_ge (tgt := 231) hx hb dX13_bottleneck_188 (by decide) (fun c_67 => absurd c_67 (show ¬ (8 : Int32) ≤ (3 : Int32) from (by decide))) (fun c_67 => ?_)
  refine lv_iload hx hb dX13_bottleneck_191 (lv_at hl 1 rfl) ?_
  refine lv_aload_n hx hb dX13_bottleneck_193 rfl (lv_at hl 7 rfl) ?_
  refine va_get (D := D) (ci := 17) (v := .ref sk) (C := RX13) (T := TX13) (N := 13) hx hb hts (fun w h => List.mem_cons_of_mem _ (List.mem_append_left _ (List.mem_append_left _ (List.mem_append_left _ (List.mem_append_left _ (List.mem_append_left _ (List.mem_append_left _ (List.mem_append_right _ h)))))))) hown hK hP 0 rfl rfl 7 (by decide) (hts (.fieldLink RX13 29 "LastroomModel" "skills" "[Z") (List.mem_of_getElem? (i := 6) rfl)) (fun _ h9 => h9) rfl dX13_bottleneck_194 ?_
  refine lv_iconst (v := 4) hx hb dX13_bottleneck_197 (by decide) ?_
  refine lv_iload hx hb dX13_bottleneck_198 (lv_at hl 0 rfl) ?_
  refine lv_imul hx hb dX13_bottleneck_200 ?_
  refine lv_topi (fun y hy => ?_)
  rw [show (4 : Int32) * (3 : Int32) = 12 by decide] at hy
  subst hy
  refine lv_iload_n hx hb dX13_bottleneck_201 rfl (lv_at hl 3 rfl) ?_
  refine lv_iadd hx hb dX13_bottleneck_202 ?_
  refine lv_topi (fun y hy => ?_)
  rw [show (12 : Int32) + (2 : Int32) = 14 by decide] at hy
  subst hy
  refine va_zald hx hb hK hP 1 0 rfl rfl (vp_in_iff.mpr (by decide)) dX13_bottleneck_203 ?_
  refine lv_if_eq (tgt := 221) hx hb dX13_bottleneck_204 (by decide) (fun c_68 => ?_) (fun c_68 => absurd (show (0 : Int32) = 0 from (by decide)) c_68)
  refine lv_iconst (v := 0) hx hb dX13_bottleneck_221 (by decide) ?_
  refine lv_iadd hx hb dX13_bottleneck_222 ?_
  refine lv_topi (fun y hy => ?_)
  rw [show (0 : Int32) + (0 : Int32) = 0 by decide] at hy
  subst hy
  refine lv_istore (lv' := [(5, .int 0), (6, .int 3), (4, .int 0), (3, .int 2), (2, .int 0), (1, .int (-1)), (7, .int 0), (0, .ref mm)]) hx hb dX13_bottleneck_223 hl (by decide) rfl (fun ls hl => ?_)
  refine lv_iinc (v := 4) (lv' := [(6, .int 4), (5, .int 0), (4, .int 0), (3, .int 2), (2, .int 0), (1, .int (-1)), (7, .int 0), (0, .ref mm)]) hx hb dX13_bottleneck_225 hl (k := 1) rfl (by decide) (by decide) rfl (fun ls hl => ?_)
  refine lv_goto (tgt := 184) hx hb dX13_bottleneck_228 (by decide) ?_
  refine lv_iload hx hb dX13_bottleneck_184 (lv_at hl 0 rfl) ?_
  refine lv_bipush (v := 8) hx hb dX13_bottleneck_186 (by decide) ?_
  refine lv_icmp_ge (tgt := 231) hx hb dX13_bottleneck_188 (by decide) (fun c_69 => absurd c_69 (show ¬ (8 : Int32) ≤ (4 : Int32) from (by decide))) (fun c_69 => ?_)
  refine lv_iload hx hb dX13_bottleneck_191 (lv_at hl 1 rfl) ?_
  refine lv_aload_n hx hb dX13_bottleneck_193 rfl (lv_at hl 7 rfl) ?_
  refine va_get (D := D) (ci := 17) (v := .ref sk) (C := RX13) (T := TX13) (N := 13) hx hb hts (fun w h => List.mem_cons_of_mem _ (List.mem_append_left _ (List.mem_append_left _ (List.mem_append_left _ (List.mem_append_left _ (List.mem_append_left _ (List.mem_append_left _ (List.mem_append_right _ h)))))))) hown hK hP 0 rfl rfl 7 (by decide) (hts (.fieldLink RX13 29 "LastroomModel" "skills" "[Z") (List.mem_of_getElem? (i := 6) rfl)) (fun _ h9 => h9) rfl dX13_bottleneck_194 ?_
  refine lv_iconst (v := 4) hx hb dX13_bottleneck_197 (by decide) ?_
  refine lv_iload hx hb dX13_bottleneck_198 (lv_at hl 0 rfl) ?_
  refine lv_imul hx hb dX13_bottleneck_200 ?_
  refine lv_topi (fun y hy => ?_)
  rw [show (4 : Int32) * (4 : Int32) = 16 by decide] at hy
  subst hy
  refine lv_iload_n hx hb dX13_bottleneck_201 rfl (lv_at hl 3 rfl) ?_
  refine lv_iadd hx hb dX13_bottleneck_202 ?_
  refine lv_topi (fun y hy => ?_)
  rw [show (16 : Int32) + (2 : Int32) = 18 by decide] at hy
  subst hy
  refine va_zald hx hb hK hP 1 0 rfl rfl (vp_in_iff.mpr (by decide)) dX13_bottleneck_203 ?_
  refine lv_if_eq (tgt := 221) hx hb dX13_bottleneck_204 (by decide) (fun c_70 => ?_) (fun c_70 => absurd (show (0 : Int32) = 0 from (by decide)) c_70)
  refine lv_iconst (v := 0) hx hb dX13_bottleneck_221 (by decide) ?_
  refine lv_iadd hx hb dX13_bottleneck_222 ?_
  refine lv_topi (fun y hy => ?_)
  rw [show (0 : Int32) + (0 : Int32) = 0 by decide] at hy
  subst hy
  refine lv_istore (lv' := [(5, .int 0), (6, .int 4), (4, .int 0), (3, .int 2), (2, .int 0), (1, .int (-1)), (7, .int 0), (0, .ref mm)]) hx hb dX13_bottleneck_223 hl (by decide) rfl (fun ls hl => ?_)
  refine lv_iinc (v := 5) (lv' := [(6, .int 5), (5, .int 0), (4, .int 0), (3, .int 2), (2, .int 0), (1, .int (-1)), (7, .int 0), (0, .ref mm)]) hx hb dX13_bottleneck_225 hl (k := 1) rfl (by decide) (by decide) rfl (fun ls hl => ?_)
  refine lv_goto (tgt := 184) hx hb dX13_bottleneck_228 (by decide) ?_
  refine lv_iload hx hb dX13_bottleneck_184 (lv_at hl 0 rfl) ?_
  refine lv_bipush (v := 8) hx hb dX13_bottleneck_186 (by decide) ?_
  refine lv_icmp_ge (tgt := 231) hx hb dX13_bottleneck_188 (by decide) (fun c_71 => absurd c_71 (show ¬ (8 : Int32) ≤ (5 : Int32) from (by decide))) (fun c_71 => ?_)
  refine lv_iload hx hb dX13_bottleneck_191 (lv_at hl 1 rfl) ?_
  refine lv_aload_n hx hb dX13_bottleneck_193 rfl (lv_at hl 7 rfl) ?_
  refine va_get (D := D) (ci := 17) (v := .ref sk) (C := RX13) (T := TX13) (N := 13) hx hb hts (fun w h => List.mem_cons_of_mem _ (List.mem_append_left _ (List.mem_append_left _ (List.mem_append_left _ (List.mem_append_left _ (List.mem_append_left _ (List.mem_append_left _ (List.mem_append_right _ h)))))))) hown hK hP 0 rfl rfl 7 (by decide) (hts (.fieldLink RX13 29 "LastroomModel" "skills" "[Z") (List.mem_of_getElem? (i := 6) rfl)) (fun _ h9 => h9) rfl dX13_bottleneck_194 ?_
  refine lv_iconst (v := 4) hx hb dX13_bottleneck_197 (by decide) ?_
  refine lv_iload hx hb dX13_bottleneck_198 (lv_at hl 0 rfl) ?_
  refine lv_imul hx hb dX13_bottleneck_200 ?_
  refine lv_topi (fun y hy => ?_)
  rw [show (4 : Int32) * (5 : Int32) = 20 by decide] at hy
  subst hy
  refine lv_iload_n hx hb dX13_bottleneck_201 rfl (lv_at hl 3 rfl) ?_
  refine lv_iadd hx hb dX13_bottleneck_202 ?_
  refine lv_topi (fun y hy => ?_)
  rw [show (20 : Int32) + (2 : Int32) = 22 by decide] at hy
  subst hy
  refine va_zald hx hb hK hP 1 0 rfl rfl (vp_in_iff.mpr (by decide)) dX13_bottleneck_203 ?_
  refine lv_if_eq (tgt := 221) hx hb dX13_bottleneck_204 (by decide) (fun c_72 => ?_) (fun c_72 => absurd (show (0 : Int32) = 0 from (by decide)) c_72)
  refine lv_iconst (v := 0) hx hb dX13_bottleneck_221 (by decide) ?_
  refine lv_iadd hx hb dX13_bottleneck_222 ?_
  refine lv_topi (fun y hy => ?_)
  rw [show (0 : Int32) + (0 : Int32) = 0 by decide] at hy
  subst hy
  refine lv_istore (lv' := [(5, .int 0), (6, .int 5), (4, .int 0), (3, .int 2), (2, .int 0), (1, .int (-1)), (7, .int 0), (0, .ref mm)]) hx hb dX13_bottleneck_223 hl (by decide) rfl (fun ls hl => ?_)
  refine lv_iinc (v := 6) (lv' := [(6, .int 6), (5, .int 0), (4, .int 0), (3, .int 2), (2, .int 0), (1, .int (-1)), (7, .int 0), (0, .ref mm)]) hx hb dX13_bottleneck_225 hl (k := 1) rfl (by decide) (by decide) rfl (fun ls hl => ?_)
  refine lv_goto (tgt := 184) hx hb dX13_bottleneck_228 (by decide) ?_
  refine lv_iload hx hb dX13_bottleneck_184 (lv_at hl 0 rfl) ?_
  refine lv_bipush (v := 8) hx hb dX13_bottleneck_186 (by decide) ?_
  refine lv_icmp_ge (tgt := 231) hx hb dX13_bottleneck_188 (by decide) (fun c_73 => absurd c_73 (show ¬ (8 : Int32) ≤ (6 : Int32) from (by decide))) (fun c_73 => ?_)
  refine lv_iload hx hb dX13_bottleneck_191 (lv_at hl 1 rfl) ?_
  refine lv_aload_n hx hb dX13_bottleneck_193 rfl (lv_at hl 7 rfl) ?_
  refine va_get (D := D) (ci := 17) (v := .ref sk) (C := RX13) (T := TX13) (N := 13) hx hb hts (fun w h => List.mem_cons_of_mem _ (List.mem_append_left _ (List.mem_append_left _ (List.mem_append_left _ (List.mem_append_left _ (List.mem_append_left _ (List.mem_append_left _ (List.mem_append_right _ h)))))))) hown hK hP 0 rfl rfl 7 (by decide) (hts (.fieldLink RX13 29 "LastroomModel" "skills" "[Z") (List.mem_of_getElem? (i := 6) rfl)) (fun _ h9 => h9) rfl dX13_bottleneck_194 ?_
  refine lv_iconst (v := 4) hx hb dX13_bottleneck_197 (by decide) ?_
  refine lv_iload hx hb dX13_bottleneck_198 (lv_at hl 0 rfl) ?_
  refine lv_imul hx hb dX13_bottleneck_200 ?_
  refine lv_topi (fun y hy => ?_)
  rw [show (4 : Int32) * (6 : Int32) = 24 by decide] at hy
  subst hy
  refine lv_iload_n hx hb dX13_bottleneck_201 rfl (lv_at hl 3 rfl) ?_
  refine lv_iadd hx hb dX13_bottleneck_202 ?_
  refine lv_topi (fun y hy => ?_)
  rw [show (24 : Int32) + (2 : Int32) = 26 by decide] at hy
  subst hy
  refine va_zald hx hb hK hP 1 0 rfl rfl (vp_in_iff.mpr (by decide)) dX13_bottleneck_203 ?_
  refine lv_if_eq (tgt := 221) hx hb dX13_bottleneck_204 (by decide) (fun c_74 => ?_) (fun c_74 => absurd (show (0 : Int32) = 0 from (by decide)) c_74)
  refine lv_iconst (v := 0) hx hb dX13_bottleneck_221 (by decide) ?_
  refine lv_iadd hx hb dX13_bottleneck_222 ?_
  refine lv_topi (fun y hy => ?_)
  rw [show (0 : Int32) + (0 : Int32) = 0 by decide] at hy
  subst hy
  refine lv_istore (lv' := [(5, .int 0), (6, .int 6), (4, .int 0), (3, .int 2), (2, .int 0), (1, .int (-1)), (7, .int 0), (0, .ref mm)]) hx hb dX13_bottleneck_223 hl (by decide) rfl (fun ls hl => ?_)
  refine lv_iinc (v := 7) (lv' := [(6, .int 7), (5, .int 0), (4, .int 0), (3, .int 2), (2, .int 0), (1, .int (-1)), (7, .int 0), (0, .ref mm)]) hx hb dX13_bottleneck_225 hl (k := 1) rfl (by decide) (by decide) rfl (fun ls hl => ?_)
  refine lv_goto (tgt := 184) hx hb dX13_bottleneck_228 (by decide) ?_
  refine lv_iload hx hb dX13_bottleneck_184 (lv_at hl 0 rfl) ?_
  refine lv_bipush (v := 8) hx hb dX13_bottleneck_186 (by decide) ?_
  refine lv_icmp_ge (tgt := 231) hx hb dX13_bottleneck_188 (by decide) (fun c_75 => absurd c_75 (show ¬ (8 : Int32) ≤ (7 : Int32) from (by decide))) (fun c_75 => ?_)
  refine lv_iload hx hb dX13_bottleneck_191 (lv_at hl 1 rfl) ?_
  refine lv_aload_n hx hb dX13_bottleneck_193 rfl (lv_at hl 7 rfl) ?_
  refine va_get (D := D) (ci := 17) (v := .ref sk) (C := RX13) (T := TX13) (N := 13) hx hb hts (fun w h => List.mem_cons_of_mem _ (List.mem_append_left _ (List.mem_append_left _ (List.mem_append_left _ (List.mem_append_left _ (List.mem_append_left _ (List.mem_append_left _ (List.mem_append_right _ h)))))))) hown hK hP 0 rfl rfl 7 (by decide) (hts (.fieldLink RX13 29 "LastroomModel" "skills" "[Z") (List.mem_of_getElem? (i := 6) rfl)) (fun _ h9 => h9) rfl dX13_bottleneck_194 ?_
  refine lv_iconst (v := 4) hx hb dX13_bottleneck_197 (by decide) ?_
  refine lv_iload hx hb dX13_bottleneck_198 (lv_at hl 0 rfl) ?_
  refine lv_imul hx hb dX13_bottleneck_200 ?_
  refine lv_topi (fun y hy => ?_)
  rw [show (4 : Int32) * (7 : Int32) = 28 by decide] at hy
  subst hy
  refine lv_iload_n hx hb dX13_bottleneck_201 rfl (lv_at hl 3 rfl) ?_
  refine lv_iadd hx hb dX13_bottleneck_202 ?_
  refine lv_topi (fun y hy => ?_)
  rw [show (28 : Int32) + (2 : Int32) = 30 by decide] at hy
  subst hy
  refine va_zald hx hb hK hP 1 0 rfl rfl (vp_in_iff.mpr (by decide)) dX13_bottleneck_203 ?_
  refine lv_if_eq (tgt := 221) hx hb dX13_bottleneck_204 (by decide) (fun c_76 => ?_) (fun c_76 => absurd (show (0 : Int32) = 0 from (by decide)) c_76)
  refine lv_iconst (v := 0) hx hb dX13_bottleneck_221 (by decide) ?_
  refine lv_iadd hx hb dX13_bottleneck_222 ?_
  refine lv_topi (fun y hy => ?_)
  rw [show (0 : Int32) + (0 : Int32) = 0 by decide] at hy
  subst hy
  refine lv_istore (lv' := [(5, .int 0), (6, .int 7), (4, .int 0), (3, .int 2), (2, .int 0), (1, .int (-1)), (7, .int 0), (0, .ref mm)]) hx hb dX13_bottleneck_223 hl (by decide) rfl (fun ls hl => ?_)
  refine lv_iinc (v := 8) (lv' := [(6, .int 8), (5, .int 0), (4, .int 0), (3, .int 2), (2, .int 0), (1, .int (-1)), (7, .int 0), (0, .ref mm)]) hx hb dX13_bottleneck_225 hl (k := 1) rfl (by decide) (by decide) rfl (fun ls hl => ?_)
  refine lv_goto (tgt := 184) hx hb dX13_bottleneck_228 (by decide) ?_
  refine lv_iload hx hb dX13_bottleneck_184 (lv_at hl 0 rfl) ?_
  refine lv_bipush (v := 8) hx hb dX13_bottleneck_186 (by decide) ?_
  refine lv_icmp_ge (tgt := 231) hx hb dX13_bottleneck_188 (by decide) (fun c_77 => ?_) (fun c_77 => absurd (show (8 : Int32) ≤ (8 : Int32) from (by decide)) c_77)
  refine lv_iload hx hb dX13_bottleneck_231 (lv_at hl 2 rfl) ?_
  refine lv_if_ne (tgt := 240) hx hb dX13_bottleneck_233 (by decide) (fun c_78 => absurd (by decide) c_78) (fun c_78 => ?_)
  refine lv_iconst (v := (-1)) hx hb dX13_bottleneck_236 (by decide) ?_
  refine lv_goto (tgt := 256) hx hb dX13_bottleneck_237 (by decide) ?_
  refine lv_istore (lv' := [(6, .int (-1)), (5, .int 0), (4, .int 0), (3, .int 2), (2, .int 0), (1, .int (-1)), (7, .int 0), (0, .ref mm)]) hx hb dX13_bottleneck_256 hl (by decide) rfl (fun ls hl => ?_)
  refine lv_iload hx hb dX13_bottleneck_258 (lv_at hl 0 rfl) ?_
  refine lv_iconst (v := (-1)) hx hb dX13_bottleneck_260 (by decide) ?_
  refine lv_icmp_eq (tgt := 279) hx hb dX13_bottleneck_261 (by decide) (fun c_79 => ?_) (fun c_79 => absurd (show ((-1) : Int32) = (-1) from (by decide)) c_79)
  refine lv_iconst (v := 0) hx hb dX13_bottleneck_279 (by decide) ?_
  refine lv_istore (lv' := [(7, .int 0), (6, .int (-1)), (5, .int 0), (4, .int 0), (3, .int 2), (2, .int 0), (1, .int (-1)), (0, .ref mm)]) hx hb dX13_bottleneck_280 hl (by decide) rfl (fun ls hl => ?_)
  refine lv_iload hx hb dX13_bottleneck_282 (lv_at hl 0 rfl) ?_
  refine lv_if_eq (tgt := 291) hx hb dX13_bottleneck_284 (by decide) (fun c_80 => ?_) (fun c_80 => absurd (show (0 : Int32) = 0 from (by decide)) c_80)
  refine lv_iload_n hx hb dX13_bottleneck_291 rfl (lv_at hl 6 rfl) ?_
  refine lv_istore_n (lv' := [(1, .int (-1)), (7, .int 0), (6, .int (-1)), (5, .int 0), (4, .int 0), (3, .int 2), (2, .int 0), (0, .ref mm)]) hx hb dX13_bottleneck_292 rfl hl (by decide) rfl (fun ls hl => ?_)
  refine lv_iload hx hb dX13_bottleneck_293 (lv_at hl 1 rfl) ?_
  refine lv_if_eq (tgt := 303) hx hb dX13_bottleneck_295 (by decide) (fun c_81 => ?_) (fun c_81 => absurd (show (0 : Int32) = 0 from (by decide)) c_81)
  refine lv_iload_n hx hb dX13_bottleneck_303 rfl (lv_at hl 6 rfl) ?_
  refine lv_istore_n (lv' := [(2, .int 0), (1, .int (-1)), (7, .int 0), (6, .int (-1)), (5, .int 0), (4, .int 0), (3, .int 2), (0, .ref mm)]) hx hb dX13_bottleneck_304 rfl hl (by decide) rfl (fun ls hl => ?_)
  refine lv_iinc (v := 3) (lv' := [(3, .int 3), (2, .int 0), (1, .int (-1)), (7, .int 0), (6, .int (-1)), (5, .int 0), (4, .int 0), (0, .ref mm)]) hx hb dX13_bottleneck_305 hl (k := 6) rfl (by decide) (by decide) rfl (fun ls hl => ?_)
  refine lv_goto (tgt := 11) hx hb dX13_bottleneck_308 (by decide) ?_
  refine lv_iload_n hx hb dX13_bottleneck_11 rfl (lv_at hl 0 rfl) ?_
  refine lv_iconst (v := 4) hx hb dX13_bottleneck_12 (by decide) ?_
  refine lv_icmp_ge (tgt := 311) hx hb dX13_bottleneck_13 (by decide) (fun c_82 => absurd c_82 (show ¬ (4 : Int32) ≤ (3 : Int32) from (by decide))) (fun c_82 => ?_)
  refine lv_iconst (v := 0) hx hb dX13_bottleneck_16 (by decide) ?_
  refine lv_istore (lv' := [(4, .int 0), (3, .int 3), (2, .int 0), (1, .int (-1)), (7, .int 0), (6, .int (-1)), (5, .int 0), (0, .ref mm)]) hx hb dX13_bottleneck_17 hl (by decide) rfl (fun ls hl => ?_)
  refine lv_aload_n hx hb dX13_bottleneck_19 rfl (lv_at hl 7 rfl) ?_
  refine va_get (D := D) (ci := 17) (v := .ref l3) (C := RX13) (T := TX13) (N := 13) hx hb hts (fun w h => List.mem_cons_of_mem _ (List.mem_append_left _ (List.mem_append_left _ (List.mem_append_left _ (List.mem_append_left _ (List.mem_append_left _ (List.mem_append_left _ (List.mem_append_right _ h)))))))) hown hK hP 0 rfl rfl 6 (by decide) (hts (.fieldLink RX13 26 "LastroomModel" "tickets" "Ljava/util/List;") (List.mem_of_getElem? (i := 2) rfl)) (fun _ h9 => h9) rfl dX13_bottleneck_20 ?_
  have hFc := va_free (wc := [(l3, .inr (3, [.int 0, .ref tE, .int 0]))]) hD hS hA [6] rfl
  refine va_callFr (va_runF (As := []) (rest := []) (hK.1 3 _ rfl).2 ⟨hx, hb, hml, hown, hts⟩ (c_iterator l D tC tE H.size l3) (va_cwF 0 hts gX13_bottleneck_Jx4a65c_iterator_32c93_f111Jx4a65c rfl rfl rfl (hG.2.2.2.2.2.2.2.2.1 _ (List.mem_of_getElem? (i := 2) rfl)) (by decide +kernel) ⟨(Nat.le_of_ble_eq_true rfl), (Nat.le_of_ble_eq_true rfl)⟩) ⟨pg_blind, (va_recv hK hP (ci := 3) (q0 := 6) rfl rfl), (pg_pre hP hD hK hG hS hFc [6] rfl (by decide) [] rfl _)⟩ rfl rfl hl.1 rfl (lv_room (Nat.le_of_ble_eq_true rfl)) dX13_bottleneck_23 ⟨(Nat.le_of_ble_eq_true rfl), (Nat.le_of_ble_eq_true rfl)⟩) hS (fun q _ h => hFc q h) hFc (fun u_84 r_83 t H locs ht hvm hw hB hz1 hk1 hS => ?_)
  obtain ⟨hra, hB⟩ := hB
  have hra := hra.symm
  subst hra
  obtain ⟨hP, hD, hK⟩ := jn (wr := [(mm, .inr (17, [.int 0, .int 0, .ref l0, .ref la, .ref l1, .ref l2, .ref l3, .ref sk, .ref ab, .ref bu, .ref cu, .ref sd, .ref l4])), (sk, .inl (kq, 32, .inl (fun _ => 0))), (ab, .inl (kb, 8, .inl (fun _ => 0))), (u_3, .inr (2, [.int 0, .int (-1), .int 0, .ref l3])), (u_30, .inr (2, [.int 0, .int (-1), .int 0, .ref l3])), (u_57, .inr (2, [.int 0, .int (-1), .int 0, .ref l3]))]) (w1 := [(u_84, .inr (2, [.int 0, .int (-1), .int 0, .ref l3])), (l3, .inr (3, [.int 0, .ref tE, .int 0]))]) (t1 := []) (tr := [(kq, .boolean), (kb, .boolean)]) hP hD hK [6] [0, 1, 2, 3, 4, 5] rfl rfl (by decide) (by decide) [0, 1] rfl hk1 hFc hB rfl rfl ht hvm
  have hP : va_P D vwCl [(mm, .inr (17, [.int 0, .int 0, .ref l0, .ref la, .ref l1, .ref l2, .ref l3, .ref sk, .ref ab, .ref bu, .ref cu, .ref sd, .ref l4])), (sk, .inl (kq, 32, .inl (fun _ => 0))), (ab, .inl (kb, 8, .inl (fun _ => 0))), (u_3, .inr (2, [.int 0, .int (-1), .int 0, .ref l3])), (u_30, .inr (2, [.int 0, .int (-1), .int 0, .ref l3])), (u_57, .inr (2, [.int 0, .int (-1), .int 0, .ref l3])), (u_84, .inr (2, [.int 0, .int (-1), .int 0, .ref l3])), (l3, .inr (3, [.int 0, .ref tE, .int 0]))] H := hP
  have hD : va_D A [(mm, .inr (17, [.int 0, .int 0, .ref l0, .ref la, .ref l1, .ref l2, .ref l3, .ref sk, .ref ab, .ref bu, .ref cu, .ref sd, .ref l4])), (sk, .inl (kq, 32, .inl (fun _ => 0))), (ab, .inl (kb, 8, .inl (fun _ => 0))), (u_3, .inr (2, [.int 0, .int (-1), .int 0, .ref l3])), (u_30, .inr (2, [.int 0, .int (-1), .int 0, .ref l3])), (u_57, .inr (2, [.int 0, .int (-1), .int 0, .ref l3])), (u_84, .inr (2, [.int 0, .int (-1), .int 0, .ref l3])), (l3, .inr (3, [.int 0, .ref tE, .int 0]))] := hD
  have hK : va_K D vwCl [(kq, .boolean), (kb, .boolean)] s := hK
  refine W.widen (k := 4) (n := 16) (Nat.le_of_ble_eq_true rfl) (Nat.le_of_ble_eq_true rfl) ?_
  refine lv_astore (lv' := [(5, .ref u_84), (4, .int 0), (3, .int 3), (2, .int 0), (1, .int (-1)), (7, .int 0), (6, .int (-1)), (0, .ref mm)]) hx hb dX13_bottleneck_28 hl (by decide) rfl (fun ls hl => ?_)
  refine lv_aload hx hb dX13_bottleneck_30 (lv_at hl 0 rfl) ?_
  have hFc := va_free (wc := [(u_84, .inr (2, [.int 0, .int (-1), .int 0, .ref l3])), (l3, .inr (3, [.int 0, .ref tE, .int 0]))]) hD hS hA [6, 7] rfl
  refine va_callFi (va_runF (As := []) (rest := []) (hK.1 2 _ rfl).2 ⟨hx, hb, hml, hown, hts⟩ (c_hasNext l D tC tE H.size u_84 l3) (va_cwF 0 hts gX13_bottleneck_Jx35411_hasNext_aae02_f115Jx35411 rfl rfl rfl (hG.2.2.2.2.2.2.2.2.1 _ (List.mem_of_getElem? (i := 3) rfl)) (by decide +kernel) ⟨(Nat.le_of_ble_eq_true rfl), (Nat.le_of_ble_eq_true rfl)⟩) ⟨pg_blind, (va_recv hK hP (ci := 2) (q0 := 6) rfl rfl), (pg_pre hP hD hK hG hS hFc [6, 7] rfl (by decide) [] rfl _)⟩ rfl rfl hl.1 rfl (lv_room (Nat.le_of_ble_eq_true rfl)) dX13_bottleneck_32 ⟨(Nat.le_of_ble_eq_true rfl), (Nat.le_of_ble_eq_true rfl)⟩) hS (fun q _ h => hFc q h) hFc (fun r_85 u_86 t H locs ht hvm hw hB hz1 hk1 hS => ?_)
  subst hw
  obtain ⟨hP, hD, hK⟩ := jn (wr := [(mm, .inr (17, [.int 0, .int 0, .ref l0, .ref la, .ref l1, .ref l2, .ref l3, .ref sk, .ref ab, .ref bu, .ref cu, .ref sd, .ref l4])), (sk, .inl (kq, 32, .inl (fun _ => 0))), (ab, .inl (kb, 8, .inl (fun _ => 0))), (u_3, .inr (2, [.int 0, .int (-1), .int 0, .ref l3])), (u_30, .inr (2, [.int 0, .int (-1), .int 0, .ref l3])), (u_57, .inr (2, [.int 0, .int (-1), .int 0, .ref l3]))]) (w1 := [(u_84, .inr (2, [.int 0, .int (-1), .int 0, .ref l3])), (l3, .inr (3, [.int 0, .ref tE, .int 0]))]) (t1 := []) (tr := [(kq, .boolean), (kb, .boolean)]) hP hD hK [6, 7] [0, 1, 2, 3, 4, 5] rfl rfl (by decide) (by decide) [0, 1] rfl hk1 hFc hB rfl rfl ht hvm
  have hP : va_P D vwCl [(mm, .inr (17, [.int 0, .int 0, .ref l0, .ref la, .ref l1, .ref l2, .ref l3, .ref sk, .ref ab, .ref bu, .ref cu, .ref sd, .ref l4])), (sk, .inl (kq, 32, .inl (fun _ => 0))), (ab, .inl (kb, 8, .inl (fun _ => 0))), (u_3, .inr (2, [.int 0, .int (-1), .int 0, .ref l3])), (u_30, .inr (2, [.int 0, .int (-1), .int 0, .ref l3])), (u_57, .inr (2, [.int 0, .int (-1), .int 0, .ref l3])), (u_84, .inr (2, [.int 0, .int (-1), .int 0, .ref l3])), (l3, .inr (3, [.int 0, .ref tE, .int 0]))] H := hP
  have hD : va_D A [(mm, .inr (17, [.int 0, .int 0, .ref l0, .ref la, .ref l1, .ref l2, .ref l3, .ref sk, .ref ab, .ref bu, .ref cu, .ref sd, .ref l4])), (sk, .inl (kq, 32, .inl (fun _ => 0))), (ab, .inl (kb, 8, .inl (fun _ => 0))), (u_3, .inr (2, [.int 0, .int (-1), .int 0, .ref l3])), (u_30, .inr (2, [.int 0, .int (-1), .int 0, .ref l3])), (u_57, .inr (2, [.int 0, .int (-1), .int 0, .ref l3])), (u_84, .inr (2, [.int 0, .int (-1), .int 0, .ref l3])), (l3, .inr (3, [.int 0, .ref tE, .int 0]))] := hD
  have hK : va_K D vwCl [(kq, .boolean), (kb, .boolean)] s := hK
  refine W.widen (k := 4) (n := 16) (Nat.le_of_ble_eq_true rfl) (Nat.le_of_ble_eq_true rfl) ?_
  refine lv_if_eq (tgt := 178) hx hb dX13_bottleneck_37 (by decide) (fun c_87 => ?_) (fun c_87 => absurd (show (0 : Int32) = 0 from (by decide)) c_87)
  refine lv_iconst (v := 0) hx hb dX13_bottleneck_178 (by decide) ?_
  refine lv_istore (lv' := [(5, .int 0), (4, .int 0), (3, .int 3), (2, .int 0), (1, .int (-1)), (7, .int 0), (6, .int (-1)), (0, .ref mm)]) hx hb dX13_bottleneck_179 hl (by decide) rfl (fun ls hl => ?_)
  refine lv_iconst (v := 0) hx hb dX13_bottleneck_181 (by decide) ?_
  refine lv_istore (lv' := [(6, .int 0), (5, .int 0), (4, .int 0), (3, .int 3), (2, .int 0), (1, .int (-1)), (7, .int 0), (0, .ref mm)]) hx hb dX13_bottleneck_182 hl (by decide) rfl (fun ls hl => ?_)
  refine lv_iload hx hb dX13_bottleneck_184 (lv_at hl 0 rfl) ?_
  refine lv_bipush (v := 8) hx hb dX13_bottleneck_186 (by decide) ?_
  refine lv_icmp_ge (tgt := 231) hx hb dX13_bottleneck_188 (by decide) (fun c_88 => absurd c_88 (show ¬ (8 : Int32) ≤ (0 : Int32) from (by decide))) (fun c_88 => ?_)
  refine lv_iload hx hb dX13_bottleneck_191 (lv_at hl 1 rfl) ?_
  refine lv_aload_n hx hb dX13_bottleneck_193 rfl (lv_at hl 7 rfl) ?_
  refine va_get (D := D) (ci := 17) (v := .ref sk) (C := RX13) (T := TX13) (N := 13) hx hb hts (fun w h => List.mem_cons_of_mem _ (List.mem_append_left _ (List.mem_append_left _ (List.mem_append_left _ (List.mem_append_left _ (List.mem_append_left _ (List.mem_append_left _ (List.mem_append_right _ h)))))))) hown hK hP 0 rfl rfl 7 (by decide) (hts (.fieldLink RX13 29 "LastroomModel" "skills" "[Z") (List.mem_of_getElem? (i := 6) rfl)) (fun _ h9 => h9) rfl dX13_bottleneck_194 ?_
  refine lv_iconst (v := 4) hx hb dX13_bottleneck_197 (by decide) ?_
  refine lv_iload hx hb dX13_bottleneck_198 (lv_at hl 0 rfl) ?_
  refine lv_imul hx hb dX13_bottleneck_200 ?_
  refine lv_topi (fun y hy => ?_)
  rw [show (4 : Int32) * (0 : Int32) = 0 by decide] at hy
  subst hy
  refine lv_iload_n hx hb dX13_bottleneck_201 rfl (lv_at hl 3 rfl) ?_
  refine lv_iadd hx hb dX13_bottleneck_202 ?_
  refine lv_topi (fun y hy => ?_)
  rw [show (0 : Int32) + (3 : Int32) = 3 by decide] at hy
  subst hy
  refine va_zald hx hb hK hP 1 0 rfl rfl (vp_in_iff.mpr (by decide)) dX13_bottleneck_203 ?_
  refine lv_if_eq (tgt := 221) hx hb dX13_bottleneck_204 (by decide) (fun c_89 => ?_) (fun c_89 => absurd (show (0 : Int32) = 0 from (by decide)) c_89)
  refine lv_iconst (v := 0) hx hb dX13_bottleneck_221 (by decide) ?_
  refine lv_iadd hx hb dX13_bottleneck_222 ?_
  refine lv_topi (fun y hy => ?_)
  rw [show (0 : Int32) + (0 : Int32) = 0 by decide] at hy
  subst hy
  refine lv_istore (lv' := [(5, .int 0), (6, .int 0), (4, .int 0), (3, .int 3), (2, .int 0), (1, .int (-1)), (7, .int 0), (0, .ref mm)]) hx hb dX13_bottleneck_223 hl (by decide) rfl (fun ls hl => ?_)
  refine lv_iinc (v := 1) (lv' := [(6, .int 1), (5, .int 0), (4, .int 0), (3, .int 3), (2, .int 0), (1, .int (-1)), (7, .int 0), (0, .ref mm)]) hx hb dX13_bottleneck_225 hl (k := 1) rfl (by decide) (by decide) rfl (fun ls hl => ?_)
  refine lv_goto (tgt := 184) hx hb dX13_bottleneck_228 (by decide) ?_
  refine lv_iload hx hb dX13_bottleneck_184 (lv_at hl 0 rfl) ?_
  refine lv_bipush (v := 8) hx hb dX13_bottleneck_186 (by decide) ?_
  refine lv_icmp_ge (tgt := 231) hx hb dX13_bottleneck_188 (by decide) (fun c_90 => absurd c_90 (show ¬ (8 : Int32) ≤ (1 : Int32) from (by decide))) (fun c_90 => ?_)
  refine lv_iload hx hb dX13_bottleneck_191 (lv_at hl 1 rfl) ?_
  refine lv_aload_n hx hb dX13_bottleneck_193 rfl (lv_at hl 7 rfl) ?_
  refine va_get (D := D) (ci := 17) (v := .ref sk) (C := RX13) (T := TX13) (N := 13) hx hb hts (fun w h => List.mem_cons_of_mem _ (List.mem_append_left _ (List.mem_append_left _ (List.mem_append_left _ (List.mem_append_left _ (List.mem_append_left _ (List.mem_append_left _ (List.mem_append_right _ h)))))))) hown hK hP 0 rfl rfl 7 (by decide) (hts (.fieldLink RX13 29 "LastroomModel" "skills" "[Z") (List.mem_of_getElem? (i := 6) rfl)) (fun _ h9 => h9) rfl dX13_bottleneck_194 ?_
  refine lv_iconst (v := 4) hx hb dX13_bottleneck_197 (by decide) ?_
  refine lv_iload hx hb dX13_bottleneck_198 (lv_at hl 0 rfl) ?_
  refine lv_imul hx hb dX13_bottleneck_200 ?_
  refine lv_topi (fun y hy => ?_)
  rw [show (4 : Int32) * (1 : Int32) = 4 by decide] at hy
  subst hy
  refine lv_iload_n hx hb dX13_bottleneck_201 rfl (lv_at hl 3 rfl) ?_
  refine lv_iadd hx hb dX13_bottleneck_202 ?_
  refine lv_topi (fun y hy => ?_)
  rw [show (4 : Int32) + (3 : Int32) = 7 by decide] at hy
  subst hy
  refine va_zald hx hb hK hP 1 0 rfl rfl (vp_in_iff.mpr (by decide)) dX13_bottleneck_203 ?_
  refine lv_if_eq (tgt := 221) hx hb dX13_bottleneck_204 (by decide) (fun c_91 => ?_) (fun c_91 => absurd (show (0 : Int32) = 0 from (by decide)) c_91)
  refine lv_iconst (v := 0) hx hb dX13_bottleneck_221 (by decide) ?_
  refine lv_iadd hx hb dX13_bottleneck_222 ?_
  refine lv_topi (fun y hy => ?_)
  rw [show (0 : Int32) + (0 : Int32) = 0 by decide] at hy
  subst hy
  refine lv_istore (lv' := [(5, .int 0), (6, .int 1), (4, .int 0), (3, .int 3), (2, .int 0), (1, .int (-1)), (7, .int 0), (0, .ref mm)]) hx hb dX13_bottleneck_223 hl (by decide) rfl (fun ls hl => ?_)
  refine lv_iinc (v := 2) (lv' := [(6, .int 2), (5, .int 0), (4, .int 0), (3, .int 3), (2, .int 0), (1, .int (-1)), (7, .int 0), (0, .ref mm)]) hx hb dX13_bottleneck_225 hl (k := 1) rfl (by decide) (by decide) rfl (fun ls hl => ?_)
  refine lv_goto (tgt := 184) hx hb dX13_bottleneck_228 (by decide) ?_
  refine lv_iload hx hb dX13_bottleneck_184 (lv_at hl 0 rfl) ?_
  refine lv_bipush (v := 8) hx hb dX13_bottleneck_186 (by decide) ?_
  refine lv_icmp_ge (tgt := 231) hx hb dX13_bottleneck_188 (by decide) (fun c_92 => absurd c_92 (show ¬ (8 : Int32) ≤ (2 : Int32) from (by decide))) (fun c_92 => ?_)
  refine lv_iload hx hb dX13_bottleneck_191 (lv_at hl 1 rfl) ?_
  refine lv_aload_n hx hb dX13_bottleneck_193 rfl (lv_at hl 7 rfl) ?_
  refine va_get (D := D) (ci := 17) (v := .ref sk) (C := RX13) (T := TX13) (N := 13) hx hb hts (fun w h => List.mem_cons_of_mem _ (List.mem_append_left _ (List.mem_append_left _ (List.mem_append_left _ (List.mem_append_left _ (List.mem_append_left _ (List.mem_append_left _ (List.mem_append_right _ h)))))))) hown hK hP 0 rfl rfl 7 (by decide) (hts (.fieldLink RX13 29 "LastroomModel" "skills" "[Z") (List.mem_of_getElem? (i := 6) rfl)) (fun _ h9 => h9) rfl dX13_bottleneck_194 ?_
  refine lv_iconst (v := 4) hx hb dX13_bottleneck_197 (by decide) ?_
  refine lv_iload hx hb dX13_bottleneck_198 (lv_at hl 0 rfl) ?_
  refine lv_imul hx hb dX13_bottleneck_200 ?_
  refine lv_topi (fun y hy => ?_)
  rw [show (4 : Int32) * (2 : Int32) = 8 by decide] at hy
  subst hy
  refine lv_iload_n hx hb dX13_bottleneck_201 rfl (lv_at hl 3 rfl) ?_
  refine lv_iadd hx hb dX13_bottleneck_202 ?_
  refine lv_topi (fun y hy => ?_)
  rw [show (8 : Int32) + (3 : Int32) = 11 by decide] at hy
  subst hy
  refine va_zald hx hb hK hP 1 0 rfl rfl (vp_in_iff.mpr (by decide)) dX13_bottleneck_203 ?_
  refine lv_if_eq (tgt := 221) hx hb dX13_bottleneck_204 (by decide) (fun c_93 => ?_) (fun c_93 => absurd (show (0 : Int32) = 0 from (by decide)) c_93)
  refine lv_iconst (v := 0) hx hb dX13_bottleneck_221 (by decide) ?_
  refine lv_iadd hx hb dX13_bottleneck_222 ?_
  refine lv_topi (fun y hy => ?_)
  rw [show (0 : Int32) + (0 : Int32) = 0 by decide] at hy
  subst hy
  refine lv_istore (lv' := [(5, .int 0), (6, .int 2), (4, .int 0), (3, .int 3), (2, .int 0), (1, .int (-1)), (7, .int 0), (0, .ref mm)]) hx hb dX13_bottleneck_223 hl (by decide) rfl (fun ls hl => ?_)
  refine lv_iinc (v := 3) (lv' := [(6, .int 3), (5, .int 0), (4, .int 0), (3, .int 3), (2, .int 0), (1, .int (-1)), (7, .int 0), (0, .ref mm)]) hx hb dX13_bottleneck_225 hl (k := 1) rfl (by decide) (by decide) rfl (fun ls hl => ?_)
  refine lv_goto (tgt := 184) hx hb dX13_bottleneck_228 (by decide) ?_
  refine lv_iload hx hb dX13_bottleneck_184 (lv_at hl 0 rfl) ?_
  refine lv_bipush (v := 8) hx hb dX13_bottleneck_186 (by decide) ?_
  refine lv_icmp_ge (tgt := 231) hx hb dX13_bottleneck_188 (by decide) (fun c_94 => absurd c_94 (show ¬ (8 : Int32) ≤ (3 : Int32) from (by decide))) (fun c_94 => ?_)
  refine lv_iload hx hb dX13_bottleneck_191 (lv_at hl 1 rfl) ?_
  refine lv_aload_n hx hb dX13_bottleneck_193 rfl (lv_at hl 7 rfl) ?_
  refine va_get (D := D) (ci := 17) (v := .ref sk) (C := RX13) (T := TX13) (N := 13) hx hb hts (fun w h => List.mem_cons_of_mem _ (List.mem_append_left _ (List.mem_append_left _ (List.mem_append_left _ (List.mem_append_left _ (List.mem_append_left _ (List.mem_append_left _ (List.mem_append_right _ h)))))))) hown hK hP 0 rfl rfl 7 (by decide) (hts (.fieldLink RX13 29 "LastroomModel" "skills" "[Z") (List.mem_of_getElem? (i := 6) rfl)) (fun _ h9 => h9) rfl dX13_bottleneck_194 ?_
  refine lv_iconst (v := 4) hx hb dX13_bottleneck_197 (by decide) ?_
  refine lv_iload hx hb dX13_bottleneck_198 (lv_at hl 0 rfl) ?_
  refine lv_imul hx hb dX13_bottleneck_200 ?_
  refine lv_topi (fun y hy => ?_)
  rw [show (4 : Int32) * (3 : Int32) = 12 by decide] at hy
  subst hy
  refine lv_iload_n hx hb dX13_bottleneck_201 rfl (lv_at hl 3 rfl) ?_
  refine lv_iadd hx hb dX13_bottleneck_202 ?_
  refine lv_topi (fun y hy => ?_)
  rw [show (12 : Int32) + (3 : Int32) = 15 by decide] at hy
  subst hy
  refine va_zald hx hb hK hP 1 0 rfl rfl (vp_in_iff.mpr (by decide)) dX13_bottleneck_203 ?_
  refine lv_if_eq (tgt := 221) hx hb dX13_bottleneck_204 (by decide) (fun c_95 => ?_) (fun c_95 => absurd (show (0 : Int32) = 0 from (by decide)) c_95)
  refine lv_iconst (v := 0) hx hb dX13_bottleneck_221 (by decide) ?_
  refine lv_iadd hx hb dX13_bottleneck_222 ?_
  refine lv_topi (fun y hy => ?_)
  rw [show (0 : Int32) + (0 : Int32) = 0 by decide] at hy
  subst hy
  refine lv_istore (lv' := [(5, .int 0), (6, .int 3), (4, .int 0), (3, .int 3), (2, .int 0), (1, .int (-1)), (7, .int 0), (0, .ref mm)]) hx hb dX13_bottleneck_223 hl (by decide) rfl (fun ls hl => ?_)
  refine lv_iinc (v := 4) (lv' := [(6, .int 4), (5, .int 0), (4, .int 0), (3, .int 3), (2, .int 0), (1, .int (-1)), (7, .int 0), (0, .ref mm)]) hx hb dX13_bottleneck_225 hl (k := 1) rfl (by decide) (by decide) rfl (fun ls hl => ?_)
  refine lv_goto (tgt := 184) hx hb dX13_bottleneck_228 (by decide) ?_
  refine lv_iload hx hb dX13_bottleneck_184 (lv_at hl 0 rfl) ?_
  refine lv_bipush (v := 8) hx hb dX13_bottleneck_186 (by decide) ?_
  refine lv_icmp_ge (tgt := 231) hx hb dX13_bottleneck_188 (by decide) (fun c_96 => absurd c_96 (show ¬ (8 : Int32) ≤ (4 : Int32) from (by decide))) (fun c_96 => ?_)
  refine lv_iload hx hb dX13_bottleneck_191 (lv_at hl 1 rfl) ?_
  refine lv_aload_n hx hb dX13_bottleneck_193 rfl (lv_at hl 7 rfl) ?_
  refine va_get (D := D) (ci := 17) (v := .ref sk) (C := RX13) (T := TX13) (N := 13) hx hb hts (fun w h => List.mem_cons_of_mem _ (List.mem_append_left _ (List.mem_append_left _ (List.mem_append_left _ (List.mem_append_left _ (List.mem_append_left _ (List.mem_append_left _ (List.mem_append_right _ h)))))))) hown hK hP 0 rfl rfl 7 (by decide) (hts (.fieldLink RX13 29 "LastroomModel" "skills" "[Z") (List.mem_of_getElem? (i := 6) rfl)) (fun _ h9 => h9) rfl dX13_bottleneck_194 ?_
  refine lv_iconst (v := 4) hx hb dX13_bottleneck_197 (by decide) ?_
  refine lv_iload hx hb dX13_bottleneck_198 (lv_at hl 0 rfl) ?_
  refine lv_imul hx hb dX13_bottleneck_200 ?_
  refine lv_topi (fun y hy => ?_)
  rw [show (4 : Int32) * (4 : Int32) = 16 by decide] at hy
  subst hy
  refine lv_iload_n hx hb dX13_bottleneck_201 rfl (lv_at hl 3 rfl) ?_
  refine lv_iadd hx hb dX13_bottleneck_202 ?_
  refine lv_topi (fun y hy => ?_)
  rw [show (16 : Int32) + (3 : Int32) = 19 by decide] at hy
  subst hy
  refine va_zald hx hb hK hP 1 0 rfl rfl (vp_in_iff.mpr (by decide)) dX13_bottleneck_203 ?_
  refine lv_if_eq (tgt := 221) hx hb dX13_bottleneck_204 (by decide) (fun c_97 => ?_) (fun c_97 => absurd (show (0 : Int32) = 0 from (by decide)) c_97)
  refine lv_iconst (v := 0) hx hb dX13_bottleneck_221 (by decide) ?_
  refine lv_iadd hx hb dX13_bottleneck_222 ?_
  refine lv_topi (fun y hy => ?_)
  rw [show (0 : Int32) + (0 : Int32) = 0 by decide] at hy
  subst hy
  refine lv_istore (lv' := [(5, .int 0), (6, .int 4), (4, .int 0), (3, .int 3), (2, .int 0), (1, .int (-1)), (7, .int 0), (0, .ref mm)]) hx hb dX13_bottleneck_223 hl (by decide) rfl (fun ls hl => ?_)
  refine lv_iinc (v := 5) (lv' := [(6, .int 5), (5, .int 0), (4, .int 0), (3, .int 3), (2, .int 0), (1, .int (-1)), (7, .int 0), (0, .ref mm)]) hx hb dX13_bottleneck_225 hl (k := 1) rfl (by decide) (by decide) rfl (fun ls hl => ?_)
  refine lv_goto (tgt := 184) hx hb dX13_bottleneck_228 (by decide) ?_
  refine lv_iload hx hb dX13_bottleneck_184 (lv_at hl 0 rfl) ?_
  refine lv_bipush (v := 8) hx hb dX13_bottleneck_186 (by decide) ?_
  refine lv_icmp_ge (tgt := 231) hx hb dX13_bottleneck_188 (by decide) (fun c_98 => absurd c_98 (show ¬ (8 : Int32) ≤ (5 : Int32) from (by decide))) (fun c_98 => ?_)
  refine lv_iload hx hb dX13_bottleneck_191 (lv_at hl 1 rfl) ?_
  refine lv_aload_n hx hb dX13_bottleneck_193 rfl (lv_at hl 7 rfl) ?_
  refine va_get (D := D) (ci := 17) (v := .ref sk) (C := RX13) (T := TX13) (N := 13) hx hb hts (fun w h => List.mem_cons_of_mem _ (List.mem_append_left _ (List.mem_append_left _ (List.mem_append_left _ (List.mem_append_left _ (List.mem_append_left _ (List.mem_append_left _ (List.mem_append_right _ h)))))))) hown hK hP 0 rfl rfl 7 (by decide) (hts (.fieldLink RX13 29 "LastroomModel" "skills" "[Z") (List.mem_of_getElem? (i := 6) rfl)) (fun _ h9 => h9) rfl dX13_bottleneck_194 ?_
  refine lv_iconst (v := 4) hx hb dX13_bottleneck_197 (by decide) ?_
  refine lv_iload hx hb dX13_bottleneck_198 (lv_at hl 0 rfl) ?_
  refine lv_imul hx hb dX13_bottleneck_200 ?_
  refine lv_topi (fun y hy => ?_)
  rw [show (4 : Int32) * (5 : Int32) = 20 by decide] at hy
  subst hy
  refine lv_iload_n hx hb dX13_bottleneck_201 rfl (lv_at hl 3 rfl) ?_
  refine lv_iadd hx hb dX13_bottleneck_202 ?_
  refine lv_topi (fun y hy => ?_)
  rw [show (20 : Int32) + (3 : Int32) = 23 by decide] at hy
  subst hy
  refine va_zald hx hb hK hP 1 0 rfl rfl (vp_in_iff.mpr (by decide)) dX13_bottleneck_203 ?_
  refine lv_if_eq (tgt := 221) hx hb dX13_bottleneck_204 (by decide) (fun c_99 => ?_) (fun c_99 => absurd (show (0 : Int32) = 0 from (by decide)) c_99)
  refine lv_iconst (v := 0) hx hb dX13_bottleneck_221 (by decide) ?_
  refine lv_iadd hx hb dX13_bottleneck_222 ?_
  refine lv_topi (fun y hy => ?_)
  rw [show (0 : Int32) + (0 : Int32) = 0 by decide] at hy
  subst hy
  refine lv_istore (lv' := [(5, .int 0), (6, .int 5), (4, .int 0), (3, .int 3), (2, .int 0), (1, .int (-1)), (7, .int 0), (0, .ref mm)]) hx hb dX13_bottleneck_223 hl (by decide) rfl (fun ls hl => ?_)
  refine lv_iinc (v := 6) (lv' := [(6, .int 6), (5, .int 0), (4, .int 0), (3, .int 3), (2, .int 0), (1, .int (-1)), (7, .int 0), (0, .ref mm)]) hx hb dX13_bottleneck_225 hl (k := 1) rfl (by decide) (by decide) rfl (fun ls hl => ?_)
  refine lv_goto (tgt := 184) hx hb dX13_bottleneck_228 (by decide) ?_
  refine lv_iload hx hb dX13_bottleneck_184 (lv_at hl 0 rfl) ?_
  refine lv_bipush (v := 8) hx hb dX13_bottleneck_186 (by decide) ?_
  refine lv_icmp_ge (tgt := 231) hx hb dX13_bottleneck_188 (by decide) (fun c_100 => absurd c_100 (show ¬ (8 : Int32) ≤ (6 : Int32) from (by decide))) (fun c_100 => ?_)
  refine lv_iload hx hb dX13_bottleneck_191 (lv_at hl 1 rfl) ?_
  refine lv_aload_n hx hb dX13_bottleneck_193 rfl (lv_at hl 7 rfl) ?_
  refine va_get (D := D) (ci := 17) (v := .ref sk) (C := RX13) (T := TX13) (N := 13) hx hb hts (fun w h => List.mem_cons_of_mem _ (List.mem_append_left _ (List.mem_append_left _ (List.mem_append_left _ (List.mem_append_left _ (List.mem_append_left _ (List.mem_append_left _ (List.mem_append_right _ h)))))))) hown hK hP 0 rfl rfl 7 (by decide) (hts (.fieldLink RX13 29 "LastroomModel" "skills" "[Z") (List.mem_of_getElem? (i := 6) rfl)) (fun _ h9 => h9) rfl dX13_bottleneck_194 ?_
  refine lv_iconst (v := 4) hx hb dX13_bottleneck_197 (by decide) ?_
  refine lv_iload hx hb dX13_bottleneck_198 (lv_at hl 0 rfl) ?_
  refine lv_imul hx hb dX13_bottleneck_200 ?_
  refine lv_topi (fun y hy => ?_)
  rw [show (4 : Int32) * (6 : Int32) = 24 by decide] at hy
  subst hy
  refine lv_iload_n hx hb dX13_bottleneck_201 rfl (lv_at hl 3 rfl) ?_
  refine lv_iadd hx hb dX13_bottleneck_202 ?_
  refine lv_topi (fun y hy => ?_)
  rw [show (24 : Int32) + (3 : Int32) = 27 by decide] at hy
  subst hy
  refine va_zald hx hb hK hP 1 0 rfl rfl (vp_in_iff.mpr (by decide)) dX13_bottleneck_203 ?_
  refine lv_if_eq (tgt := 221) hx hb dX13_bottleneck_204 (by decide) (fun c_101 => ?_) (fun c_101 => absurd (show (0 : Int32) = 0 from (by decide)) c_101)
  refine lv_iconst (v := 0) hx hb dX13_bottleneck_221 (by decide) ?_
  refine lv_iadd hx hb dX13_bottleneck_222 ?_
  refine lv_topi (fun y hy => ?_)
  rw [show (0 : Int32) + (0 : Int32) = 0 by decide] at hy
  subst hy
  refine lv_istore (lv' := [(5, .int 0), (6, .int 6), (4, .int 0), (3, .int 3), (2, .int 0), (1, .int (-1)), (7, .int 0), (0, .ref mm)]) hx hb dX13_bottleneck_223 hl (by decide) rfl (fun ls hl => ?_)
  refine lv_iinc (v := 7) (lv' := [(6, .int 7), (5, .int 0), (4, .int 0), (3, .int 3), (2, .int 0), (1, .int (-1)), (7, .int 0), (0, .ref mm)]) hx hb dX13_bottleneck_225 hl (k := 1) rfl (by decide) (by decide) rfl (fun ls hl => ?_)
  refine lv_goto (tgt := 184) hx hb dX13_bottleneck_228 (by decide) ?_
  refine lv_iload hx hb dX13_bottleneck_184 (lv_at hl 0 rfl) ?_
  refine lv_bipush (v := 8) hx hb dX13_bottleneck_186 (by decide) ?_
  refine lv_icmp_ge (tgt := 231) hx hb dX13_bottleneck_188 (by decide) (fun c_102 => absurd c_102 (show ¬ (8 : Int32) ≤ (7 : Int32) from (by decide))) (fun c_102 => ?_)
  refine lv_iload hx hb dX13_bottleneck_191 (lv_at hl 1 rfl) ?_
  refine lv_aload_n hx hb dX13_bottleneck_193 rfl (lv_at hl 7 rfl) ?_
  refine va_get (D := D) (ci := 17) (v := .ref sk) (C := RX13) (T := TX13) (N := 13) hx hb hts (fun w h => List.mem_cons_of_mem _ (List.mem_append_left _ (List.mem_append_left _ (List.mem_append_left _ (List.mem_append_left _ (List.mem_append_left _ (List.mem_append_left _ (List.mem_append_right _ h)))))))) hown hK hP 0 rfl rfl 7 (by decide) (hts (.fieldLink RX13 29 "LastroomModel" "skills" "[Z") (List.mem_of_getElem? (i := 6) rfl)) (fun _ h9 => h9) rfl dX13_bottleneck_194 ?_
  refine lv_iconst (v := 4) hx hb dX13_bottleneck_197 (by decide) ?_
  refine lv_iload hx hb dX13_bottleneck_198 (lv_at hl 0 rfl) ?_
  refine lv_imul hx hb dX13_bottleneck_200 ?_
  refine lv_topi (fun y hy => ?_)
  rw [show (4 : Int32) * (7 : Int32) = 28 by decide] at hy
  subst hy
  refine lv_iload_n hx hb dX13_bottleneck_201 rfl (lv_at hl 3 rfl) ?_
  refine lv_iadd hx hb dX13_bottleneck_202 ?_
  refine lv_topi (fun y hy => ?_)
  rw [show (28 : Int32) + (3 : Int32) = 31 by decide] at hy
  subst hy
  refine va_zald hx hb hK hP 1 0 rfl rfl (vp_in_iff.mpr (by decide)) dX13_bottleneck_203 ?_
  refine lv_if_eq (tgt := 221) hx hb dX13_bottleneck_204 (by decide) (fun c_103 => ?_) (fun c_103 => absurd (show (0 : Int32) = 0 from (by decide)) c_103)
  refine lv_iconst (v := 0) hx hb dX13_bottleneck_221 (by decide) ?_
  refine lv_iadd hx hb dX13_bottleneck_222 ?_
  refine lv_topi (fun y hy => ?_)
  rw [show (0 : Int32) + (0 : Int32) = 0 by decide] at hy
  subst hy
  refine lv_istore (lv' := [(5, .int 0), (6, .int 7), (4, .int 0), (3, .int 3), (2, .int 0), (1, .int (-1)), (7, .int 0), (0, .ref mm)]) hx hb dX13_bottleneck_223 hl (by decide) rfl (fun ls hl => ?_)
  refine lv_iinc (v := 8) (lv' := [(6, .int 8), (5, .int 0), (4, .int 0), (3, .int 3), (2, .int 0), (1, .int (-1)), (7, .int 0), (0, .ref mm)]) hx hb dX13_bottleneck_225 hl (k := 1) rfl (by decide) (by decide) rfl (fun ls hl => ?_)
  refine lv_goto (tgt := 184) hx hb dX13_bottleneck_228 (by decide) ?_
  refine lv_iload hx hb dX13_bottleneck_184 (lv_at hl 0 rfl) ?_
  refine lv_bipush (v := 8) hx hb dX13_bottleneck_186 (by decide) ?_
  refine lv_icmp_ge (tgt := 231) hx hb dX13_bottleneck_188 (by decide) (fun c_104 => ?_) (fun c_104 => absurd (show (8 : Int32) ≤ (8 : Int32) from (by decide)) c_104)
  refine lv_iload hx hb dX13_bottleneck_231 (lv_at hl 2 rfl) ?_
  refine lv_if_ne (tgt := 240) hx hb dX13_bottleneck_233 (by decide) (fun c_105 => absurd (by decide) c_105) (fun c_105 => ?_)
  refine lv_iconst (v := (-1)) hx hb dX13_bottleneck_236 (by decide) ?_
  refine lv_goto (tgt := 256) hx hb dX13_bottleneck_237 (by decide) ?_
  refine lv_istore (lv' := [(6, .int (-1)), (5, .int 0), (4, .int 0), (3, .int 3), (2, .int 0), (1, .int (-1)), (7, .int 0), (0, .ref mm)]) hx hb dX13_bottleneck_256 hl (by decide) rfl (fun ls hl => ?_)
  refine lv_iload hx hb dX13_bottleneck_258 (lv_at hl 0 rfl) ?_
  refine lv_iconst (v := (-1)) hx hb dX13_bottleneck_260 (by decide) ?_
  refine lv_icmp_eq (tgt := 279) hx hb dX13_bottleneck_261 (by decide) (fun c_106 => ?_) (fun c_106 => absurd (show ((-1) : Int32) = (-1) from (by decide)) c_106)
  refine lv_iconst (v := 0) hx hb dX13_bottleneck_279 (by decide) ?_
  refine lv_istore (lv' := [(7, .int 0), (6, .int (-1)), (5, .int 0), (4, .int 0), (3, .int 3), (2, .int 0), (1, .int (-1)), (0, .ref mm)]) hx hb dX13_bottleneck_280 hl (by decide) rfl (fun ls hl => ?_)
  refine lv_iload hx hb dX13_bottleneck_282 (lv_at hl 0 rfl) ?_
  refine lv_if_eq (tgt := 291) hx hb dX13_bottleneck_284 (by decide) (fun c_107 => ?_) (fun c_107 => absurd (show (0 : Int32) = 0 from (by decide)) c_107)
  refine lv_iload_n hx hb dX13_bottleneck_291 rfl (lv_at hl 6 rfl) ?_
  refine lv_istore_n (lv' := [(1, .int (-1)), (7, .int 0), (6, .int (-1)), (5, .int 0), (4, .int 0), (3, .int 3), (2, .int 0), (0, .ref mm)]) hx hb dX13_bottleneck_292 rfl hl (by decide) rfl (fun ls hl => ?_)
  refine lv_iload hx hb dX13_bottleneck_293 (lv_at hl 1 rfl) ?_
  refine lv_if_eq (tgt := 303) hx hb dX13_bottleneck_295 (by decide) (fun c_108 => ?_) (fun c_108 => absurd (show (0 : Int32) = 0 from (by decide)) c_108)
  refine lv_iload_n hx hb dX13_bottleneck_303 rfl (lv_at hl 6 rfl) ?_
  refine lv_istore_n (lv' := [(2, .int 0), (1, .int (-1)), (7, .int 0), (6, .int (-1)), (5, .int 0), (4, .int 0), (3, .int 3), (0, .ref mm)]) hx hb dX13_bottleneck_304 rfl hl (by decide) rfl (fun ls hl => ?_)
  refine lv_iinc (v := 4) (lv' := [(3, .int 4), (2, .int 0), (1, .int (-1)), (7, .int 0), (6, .int (-1)), (5, .int 0), (4, .int 0), (0, .ref mm)]) hx hb dX13_bottleneck_305 hl (k := 6) rfl (by decide) (by decide) rfl (fun ls hl => ?_)
  refine lv_goto (tgt := 11) hx hb dX13_bottleneck_308 (by decide) ?_
  refine lv_iload_n hx hb dX13_bottleneck_11 rfl (lv_at hl 0 rfl) ?_
  refine lv_iconst (v := 4) hx hb dX13_bottleneck_12 (by decide) ?_
  refine lv_icmp_ge (tgt := 311) hx hb dX13_bottleneck_13 (by decide) (fun c_109 => ?_) (fun c_109 => absurd (show (4 : Int32) ≤ (4 : Int32) from (by decide)) c_109)
  refine lv_iload_n hx hb dX13_bottleneck_311 rfl (lv_at hl 2 rfl) ?_
  refine lv_iconst (v := (-1)) hx hb dX13_bottleneck_312 (by decide) ?_
  refine lv_icmp_ne (tgt := 324) hx hb dX13_bottleneck_313 (by decide) (fun c_110 => absurd (by decide) c_110) (fun c_110 => ?_)
  refine lv_aload_n hx hb dX13_bottleneck_316 rfl (lv_at hl 7 rfl) ?_
  refine lv_iconst (v := 1) hx hb dX13_bottleneck_317 (by decide) ?_
  have hFc := va_free (wc := [(mm, .inr (17, [.int 0, .int 0, .ref l0, .ref la, .ref l1, .ref l2, .ref l3, .ref sk, .ref ab, .ref bu, .ref cu, .ref sd, .ref l4]))]) hD hS hA [0] rfl
  refine va_calli (va_runV (As := [.int 1]) (rest := []) ⟨hx, hb, hml, hown, hts⟩ (m_fails l D tC tE H.size mm l0 l1 l2 l3 l4 la sk ab bu cu sd 0 0 1) (cwV 1 hts gX13_bottleneck_X13_fails rfl rfl rfl (by decide +kernel) ⟨(Nat.le_of_ble_eq_true rfl), (Nat.le_of_ble_eq_true rfl)⟩) ⟨pg_blind, (va_recv hK hP (ci := 17) (q0 := 0) rfl rfl), (pg_pre hP hD hK hG hS hFc [0] rfl (by decide) [] rfl _)⟩ rfl rfl hl.1 rfl (lv_room (Nat.le_of_ble_eq_true rfl)) dX13_bottleneck_318 ⟨(Nat.le_of_ble_eq_true rfl), (Nat.le_of_ble_eq_true rfl)⟩) hS (fun q _ h => hFc q h) hFc (fun r_111 u_112 t H locs ht hvm hw hB hz1 hk1 hS => ?_)
  subst hw
  obtain ⟨hP, hD, hK⟩ := jn (wr := [(sk, .inl (kq, 32, .inl (fun _ => 0))), (ab, .inl (kb, 8, .inl (fun _ => 0))), (u_3, .inr (2, [.int 0, .int (-1), .int 0, .ref l3])), (u_30, .inr (2, [.int 0, .int (-1), .int 0, .ref l3])), (u_57, .inr (2, [.int 0, .int (-1), .int 0, .ref l3])), (u_84, .inr (2, [.int 0, .int (-1), .int 0, .ref l3])), (l3, .inr (3, [.int 0, .ref tE, .int 0]))]) (w1 := [(mm, .inr (17, [.int 1, .int 0, .ref l0, .ref la, .ref l1, .ref l2, .ref l3, .ref sk, .ref ab, .ref bu, .ref cu, .ref sd, .ref l4]))]) (t1 := []) (tr := [(kq, .boolean), (kb, .boolean)]) hP hD hK [0] [1, 2, 3, 4, 5, 6, 7] rfl rfl (by decide) (by decide) [0, 1] rfl hk1 hFc hB rfl rfl ht hvm
  have hP : va_P D vwCl [(sk, .inl (kq, 32, .inl (fun _ => 0))), (ab, .inl (kb, 8, .inl (fun _ => 0))), (u_3, .inr (2, [.int 0, .int (-1), .int 0, .ref l3])), (u_30, .inr (2, [.int 0, .int (-1), .int 0, .ref l3])), (u_57, .inr (2, [.int 0, .int (-1), .int 0, .ref l3])), (u_84, .inr (2, [.int 0, .int (-1), .int 0, .ref l3])), (l3, .inr (3, [.int 0, .ref tE, .int 0])), (mm, .inr (17, [.int 1, .int 0, .ref l0, .ref la, .ref l1, .ref l2, .ref l3, .ref sk, .ref ab, .ref bu, .ref cu, .ref sd, .ref l4]))] H := hP
  have hD : va_D A [(sk, .inl (kq, 32, .inl (fun _ => 0))), (ab, .inl (kb, 8, .inl (fun _ => 0))), (u_3, .inr (2, [.int 0, .int (-1), .int 0, .ref l3])), (u_30, .inr (2, [.int 0, .int (-1), .int 0, .ref l3])), (u_57, .inr (2, [.int 0, .int (-1), .int 0, .ref l3])), (u_84, .inr (2, [.int 0, .int (-1), .int 0, .ref l3])), (l3, .inr (3, [.int 0, .ref tE, .int 0])), (mm, .inr (17, [.int 1, .int 0, .ref l0, .ref la, .ref l1, .ref l2, .ref l3, .ref sk, .ref ab, .ref bu, .ref cu, .ref sd, .ref l4]))] := hD
  have hK : va_K D vwCl [(kq, .boolean), (kb, .boolean)] s := hK
  refine W.widen (k := 4) (n := 16) (Nat.le_of_ble_eq_true rfl) (Nat.le_of_ble_eq_true rfl) ?_
  refine lv_goto (tgt := 325) hx hb dX13_bottleneck_321 (by decide) ?_
  have hP9 := hP.sub (ws' := [(mm, .inr (17, [.int 1, .int 0, .ref l0, .ref la, .ref l1, .ref l2, .ref l3, .ref sk, .ref ab, .ref bu, .ref cu, .ref sd, .ref l4]))]) [7] rfl
  have hD9 := hD.sub (ws' := [(mm, .inr (17, [.int 1, .int 0, .ref l0, .ref la, .ref l1, .ref l2, .ref l3, .ref sk, .ref ab, .ref bu, .ref cu, .ref sd, .ref l4]))]) [7] (by decide) rfl
  have hK9 := hK.sub (tys' := []) [] rfl
  exact end_i hx hb hr hlocks hP9 hD9 hK9 hS (1, 0) rfl rfl rfl (Nat.le_of_ble_eq_true rfl) (Nat.le_of_ble_eq_true rfl) dX13_bottleneck_325
