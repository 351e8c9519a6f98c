-- ===== PART A: goes FIRST, ahead of the names: the tables' words, and 'selects' of the private methods out of them =====
theorem tqq_1 {w : Cond} {j : Nat} (h : tables_1_1[j]? = some w) : w ∈ tables_1 := List.mem_append_left _ (List.mem_of_getElem? h)
theorem tqq_2 {w : Cond} {j : Nat} (h : tables_1_2[j]? = some w) : w ∈ tables_1 := List.mem_append_right _ (List.mem_append_left _ (List.mem_of_getElem? h))
theorem tqq_3 {w : Cond} {j : Nat} (h : tables_1_3[j]? = some w) : w ∈ tables_1 := List.mem_append_right _ (List.mem_append_right _ (List.mem_append_left _ (List.mem_of_getElem? h)))
theorem tqq_4 {w : Cond} {j : Nat} (h : tables_1_4[j]? = some w) : w ∈ tables_1 := List.mem_append_right _ (List.mem_append_right _ (List.mem_append_right _ (List.mem_append_left _ (List.mem_of_getElem? h))))
theorem tqq_5 {w : Cond} {j : Nat} (h : tables_1_5[j]? = some w) : w ∈ tables_1 := List.mem_append_right _ (List.mem_append_right _ (List.mem_append_right _ (List.mem_append_right _ (List.mem_append_left _ (List.mem_of_getElem? h)))))
theorem tqq_6 {w : Cond} {j : Nat} (h : tables_1_6[j]? = some w) : w ∈ tables_1 := List.mem_append_right _ (List.mem_append_right _ (List.mem_append_right _ (List.mem_append_right _ (List.mem_append_right _ (List.mem_append_left _ (List.mem_of_getElem? h))))))
theorem tqq_7 {w : Cond} {j : Nat} (h : tables_1_7[j]? = some w) : w ∈ tables_1 := List.mem_append_right _ (List.mem_append_right _ (List.mem_append_right _ (List.mem_append_right _ (List.mem_append_right _ (List.mem_append_right _ (List.mem_append_left _ (List.mem_of_getElem? h)))))))
theorem tqq_8 {w : Cond} {j : Nat} (h : tables_1_8[j]? = some w) : w ∈ tables_1 := List.mem_append_right _ (List.mem_append_right _ (List.mem_append_right _ (List.mem_append_right _ (List.mem_append_right _ (List.mem_append_right _ (List.mem_append_right _ (List.mem_append_left _ (List.mem_of_getElem? h))))))))
theorem tqq_9 {w : Cond} {j : Nat} (h : tables_1_9[j]? = some w) : w ∈ tables_1 := List.mem_append_right _ (List.mem_append_right _ (List.mem_append_right _ (List.mem_append_right _ (List.mem_append_right _ (List.mem_append_right _ (List.mem_append_right _ (List.mem_append_right _ (List.mem_of_getElem? h))))))))
/-- a private method of a class that the tables say can be made, by its rows of tables_1 -/
def lw_okq (q : MethodName × Nat) : Prop := (q.1.cls ≠ "java/lang/invoke/MethodHandle" ∧ q.1.cls ≠ "java/lang/invoke/VarHandle") ∧ Cond.instantiable q.1.cls q.2 ∈ tables_1 ∧ Cond.privateMethod q.1 ∈ tables_1 ∧ Cond.instanceMethod q.1 ∈ tables_1
set_option maxRecDepth 20000 in
theorem lw_p0 : lw_okq (⟨"NotAtOnce", "put", "(I)V"⟩, 14) := ⟨⟨by decide +kernel, by decide +kernel⟩, tqq_1 (j := 25) rfl, tqq_2 (j := 232) rfl, tqq_2 (j := 233) rfl⟩
set_option maxRecDepth 20000 in
theorem lw_p1 : lw_okq (⟨"NotAtOnce", "refused", "(I)I"⟩, 14) := ⟨⟨by decide +kernel, by decide +kernel⟩, tqq_1 (j := 25) rfl, tqq_3 (j := 0) rfl, tqq_3 (j := 1) rfl⟩
set_option maxRecDepth 20000 in
theorem lw_p2 : lw_okq (⟨"NotAtOnce$Reader", "next", "()V"⟩, 12) := ⟨⟨by decide +kernel, by decide +kernel⟩, tqq_1 (j := 33) rfl, tqq_3 (j := 15) rfl, tqq_3 (j := 16) rfl⟩
set_option maxRecDepth 20000 in
theorem lw_p3 : lw_okq (⟨"NotAtOnce$Reader", "takeSign", "()V"⟩, 12) := ⟨⟨by decide +kernel, by decide +kernel⟩, tqq_1 (j := 33) rfl, tqq_3 (j := 25) rfl, tqq_3 (j := 26) rfl⟩
set_option maxRecDepth 20000 in
theorem lw_p4 : lw_okq (⟨"NotAtOnce$Reader", "readLine", "()Z"⟩, 12) := ⟨⟨by decide +kernel, by decide +kernel⟩, tqq_1 (j := 33) rfl, tqq_3 (j := 29) rfl, tqq_3 (j := 30) rfl⟩
set_option maxRecDepth 20000 in
theorem lw_p5 : lw_okq (⟨"NotAtOnce$Reader", "says", "(Ljava/lang/String;)Z"⟩, 12) := ⟨⟨by decide +kernel, by decide +kernel⟩, tqq_1 (j := 33) rfl, tqq_3 (j := 34) rfl, tqq_3 (j := 35) rfl⟩
set_option maxRecDepth 20000 in
theorem lw_p6 : lw_okq (⟨"NotAtOnce$Reader", "readLaw", "()Z"⟩, 12) := ⟨⟨by decide +kernel, by decide +kernel⟩, tqq_1 (j := 33) rfl, tqq_3 (j := 86) rfl, tqq_3 (j := 87) rfl⟩
set_option maxRecDepth 20000 in
theorem lw_p7 : lw_okq (⟨"NotAtOnce$Reader", "refuse", "(I)Z"⟩, 12) := ⟨⟨by decide +kernel, by decide +kernel⟩, tqq_1 (j := 33) rfl, tqq_3 (j := 90) rfl, tqq_3 (j := 91) rfl⟩
set_option maxRecDepth 20000 in
theorem lw_p8 : lw_okq (⟨"NotAtOnce$Reader", "passWord", "(Ljava/lang/String;)Z"⟩, 12) := ⟨⟨by decide +kernel, by decide +kernel⟩, tqq_1 (j := 33) rfl, tqq_3 (j := 95) rfl, tqq_3 (j := 96) rfl⟩
set_option maxRecDepth 20000 in
theorem lw_p9 : lw_okq (⟨"NotAtOnce$Reader", "needWhole", "(II)Z"⟩, 12) := ⟨⟨by decide +kernel, by decide +kernel⟩, tqq_1 (j := 33) rfl, tqq_3 (j := 99) rfl, tqq_3 (j := 100) rfl⟩
set_option maxRecDepth 20000 in
theorem lw_p10 : lw_okq (⟨"NotAtOnce$Reader", "readNames", "([JZ)Z"⟩, 12) := ⟨⟨by decide +kernel, by decide +kernel⟩, tqq_1 (j := 33) rfl, tqq_3 (j := 104) rfl, tqq_3 (j := 105) rfl⟩
set_option maxRecDepth 20000 in
theorem lw_p11 : lw_okq (⟨"NotAtOnce$Reader", "needNewName", "()Z"⟩, 12) := ⟨⟨by decide +kernel, by decide +kernel⟩, tqq_1 (j := 33) rfl, tqq_3 (j := 108) rfl, tqq_3 (j := 109) rfl⟩
set_option maxRecDepth 20000 in
theorem lw_p12 : lw_okq (⟨"NotAtOnce$Reader", "isName", "()Z"⟩, 12) := ⟨⟨by decide +kernel, by decide +kernel⟩, tqq_1 (j := 33) rfl, tqq_3 (j := 112) rfl, tqq_3 (j := 113) rfl⟩
set_option maxRecDepth 20000 in
theorem lw_p13 : lw_okq (⟨"NotAtOnce$Reader", "indexOf", "([JI)I"⟩, 12) := ⟨⟨by decide +kernel, by decide +kernel⟩, tqq_1 (j := 33) rfl, tqq_3 (j := 121) rfl, tqq_3 (j := 122) rfl⟩
set_option maxRecDepth 20000 in
theorem lw_p14 : lw_okq (⟨"NotAtOnce$Reader", "readSet", "()Z"⟩, 12) := ⟨⟨by decide +kernel, by decide +kernel⟩, tqq_1 (j := 33) rfl, tqq_3 (j := 125) rfl, tqq_3 (j := 126) rfl⟩
set_option maxRecDepth 20000 in
theorem lw_p15 : lw_okq (⟨"NotAtOnce$Reader", "nameAmong", "([JI)I"⟩, 12) := ⟨⟨by decide +kernel, by decide +kernel⟩, tqq_1 (j := 33) rfl, tqq_3 (j := 129) rfl, tqq_3 (j := 130) rfl⟩
def lw_privs_1 : List (MethodName × Nat) := [(⟨"NotAtOnce", "put", "(I)V"⟩, 14), (⟨"NotAtOnce", "refused", "(I)I"⟩, 14), (⟨"NotAtOnce$Reader", "next", "()V"⟩, 12), (⟨"NotAtOnce$Reader", "takeSign", "()V"⟩, 12), (⟨"NotAtOnce$Reader", "readLine", "()Z"⟩, 12), (⟨"NotAtOnce$Reader", "says", "(Ljava/lang/String;)Z"⟩, 12), (⟨"NotAtOnce$Reader", "readLaw", "()Z"⟩, 12), (⟨"NotAtOnce$Reader", "refuse", "(I)Z"⟩, 12), (⟨"NotAtOnce$Reader", "passWord", "(Ljava/lang/String;)Z"⟩, 12), (⟨"NotAtOnce$Reader", "needWhole", "(II)Z"⟩, 12), (⟨"NotAtOnce$Reader", "readNames", "([JZ)Z"⟩, 12), (⟨"NotAtOnce$Reader", "needNewName", "()Z"⟩, 12), (⟨"NotAtOnce$Reader", "isName", "()Z"⟩, 12), (⟨"NotAtOnce$Reader", "indexOf", "([JI)I"⟩, 12), (⟨"NotAtOnce$Reader", "readSet", "()Z"⟩, 12), (⟨"NotAtOnce$Reader", "nameAmong", "([JI)I"⟩, 12)]
theorem lw_r1 : ∀ q ∈ lw_privs_1, lw_okq q := List.forall_mem_cons.mpr ⟨lw_p0, List.forall_mem_cons.mpr ⟨lw_p1, List.forall_mem_cons.mpr ⟨lw_p2, List.forall_mem_cons.mpr ⟨lw_p3, List.forall_mem_cons.mpr ⟨lw_p4, List.forall_mem_cons.mpr ⟨lw_p5, List.forall_mem_cons.mpr ⟨lw_p6, List.forall_mem_cons.mpr ⟨lw_p7, List.forall_mem_cons.mpr ⟨lw_p8, List.forall_mem_cons.mpr ⟨lw_p9, List.forall_mem_cons.mpr ⟨lw_p10, List.forall_mem_cons.mpr ⟨lw_p11, List.forall_mem_cons.mpr ⟨lw_p12, List.forall_mem_cons.mpr ⟨lw_p13, List.forall_mem_cons.mpr ⟨lw_p14, List.forall_mem_cons.mpr ⟨lw_p15, fun _ h => absurd h List.not_mem_nil⟩⟩⟩⟩⟩⟩⟩⟩⟩⟩⟩⟩⟩⟩⟩⟩
set_option maxRecDepth 20000 in
theorem lw_p16 : lw_okq (⟨"NotAtOnce$Reader", "readTimes", "(I)Z"⟩, 12) := ⟨⟨by decide +kernel, by decide +kernel⟩, tqq_1 (j := 33) rfl, tqq_3 (j := 134) rfl, tqq_3 (j := 135) rfl⟩
set_option maxRecDepth 20000 in
theorem lw_p17 : lw_okq (⟨"NotAtOnce$Reader", "pass", "(I)Z"⟩, 12) := ⟨⟨by decide +kernel, by decide +kernel⟩, tqq_1 (j := 33) rfl, tqq_3 (j := 138) rfl, tqq_3 (j := 139) rfl⟩
set_option maxRecDepth 20000 in
theorem lw_p18 : lw_okq (⟨"NotAtOnce$Reader", "readParity", "()Z"⟩, 12) := ⟨⟨by decide +kernel, by decide +kernel⟩, tqq_1 (j := 33) rfl, tqq_3 (j := 142) rfl, tqq_3 (j := 143) rfl⟩
set_option maxRecDepth 20000 in
theorem lw_p19 : lw_okq (⟨"NotAtOnce$Reader", "readRay", "()Z"⟩, 12) := ⟨⟨by decide +kernel, by decide +kernel⟩, tqq_1 (j := 33) rfl, tqq_3 (j := 149) rfl, tqq_3 (j := 150) rfl⟩
set_option maxRecDepth 20000 in
theorem lw_p20 : lw_okq (⟨"NotAtOnce$Reader", "readRun", "()Z"⟩, 12) := ⟨⟨by decide +kernel, by decide +kernel⟩, tqq_1 (j := 33) rfl, tqq_3 (j := 153) rfl, tqq_3 (j := 154) rfl⟩
set_option maxRecDepth 20000 in
theorem lw_p21 : lw_okq (⟨"NotAtOnce$Reader", "goesOn", "()Z"⟩, 12) := ⟨⟨by decide +kernel, by decide +kernel⟩, tqq_1 (j := 33) rfl, tqq_3 (j := 157) rfl, tqq_3 (j := 158) rfl⟩
set_option maxRecDepth 20000 in
theorem lw_p22 : lw_okq (⟨"NotAtOnce$Table", "clearCoins", "()V"⟩, 8) := ⟨⟨by decide +kernel, by decide +kernel⟩, tqq_1 (j := 168) rfl, tqq_3 (j := 168) rfl, tqq_3 (j := 169) rfl⟩
set_option maxRecDepth 20000 in
theorem lw_p23 : lw_okq (⟨"NotAtOnce$Parities", "soLines", "(LNotAtOnce$Draft;I)I"⟩, 6) := ⟨⟨by decide +kernel, by decide +kernel⟩, tqq_2 (j := 33) rfl, tqq_3 (j := 176) rfl, tqq_3 (j := 177) rfl⟩
set_option maxRecDepth 20000 in
theorem lw_p24 : lw_okq (⟨"NotAtOnce$Parities", "spread", "()V"⟩, 6) := ⟨⟨by decide +kernel, by decide +kernel⟩, tqq_2 (j := 33) rfl, tqq_3 (j := 186) rfl, tqq_3 (j := 187) rfl⟩
set_option maxRecDepth 20000 in
theorem lw_p25 : lw_okq (⟨"NotAtOnce$Frames", "findCorners", "()V"⟩, 12) := ⟨⟨by decide +kernel, by decide +kernel⟩, tqq_2 (j := 62) rfl, tqq_3 (j := 197) rfl, tqq_3 (j := 198) rfl⟩
set_option maxRecDepth 20000 in
theorem lw_p26 : lw_okq (⟨"NotAtOnce$Frames", "findCornersOf", "(II)V"⟩, 12) := ⟨⟨by decide +kernel, by decide +kernel⟩, tqq_2 (j := 62) rfl, tqq_3 (j := 201) rfl, tqq_3 (j := 202) rfl⟩
set_option maxRecDepth 20000 in
theorem lw_p27 : lw_okq (⟨"NotAtOnce", "told", "(I)I"⟩, 14) := ⟨⟨by decide +kernel, by decide +kernel⟩, tqq_1 (j := 25) rfl, tqq_3 (j := 213) rfl, tqq_3 (j := 214) rfl⟩
set_option maxRecDepth 20000 in
theorem lw_p28 : lw_okq (⟨"NotAtOnce", "noBook", "()Z"⟩, 14) := ⟨⟨by decide +kernel, by decide +kernel⟩, tqq_1 (j := 25) rfl, tqq_3 (j := 230) rfl, tqq_3 (j := 231) rfl⟩
set_option maxRecDepth 20000 in
theorem lw_p29 : lw_okq (⟨"NotAtOnce$Blend", "solve", "()V"⟩, 9) := ⟨⟨by decide +kernel, by decide +kernel⟩, tqq_1 (j := 237) rfl, tqq_4 (j := 5) rfl, tqq_4 (j := 6) rfl⟩
set_option maxRecDepth 20000 in
theorem lw_p30 : lw_okq (⟨"NotAtOnce$Blend", "nameColumns", "()V"⟩, 9) := ⟨⟨by decide +kernel, by decide +kernel⟩, tqq_1 (j := 237) rfl, tqq_4 (j := 9) rfl, tqq_4 (j := 10) rfl⟩
set_option maxRecDepth 20000 in
theorem lw_p31 : lw_okq (⟨"NotAtOnce$Blend", "fillRows", "()V"⟩, 9) := ⟨⟨by decide +kernel, by decide +kernel⟩, tqq_1 (j := 237) rfl, tqq_4 (j := 25) rfl, tqq_4 (j := 26) rfl⟩
def lw_privs_2 : List (MethodName × Nat) := [(⟨"NotAtOnce$Reader", "readTimes", "(I)Z"⟩, 12), (⟨"NotAtOnce$Reader", "pass", "(I)Z"⟩, 12), (⟨"NotAtOnce$Reader", "readParity", "()Z"⟩, 12), (⟨"NotAtOnce$Reader", "readRay", "()Z"⟩, 12), (⟨"NotAtOnce$Reader", "readRun", "()Z"⟩, 12), (⟨"NotAtOnce$Reader", "goesOn", "()Z"⟩, 12), (⟨"NotAtOnce$Table", "clearCoins", "()V"⟩, 8), (⟨"NotAtOnce$Parities", "soLines", "(LNotAtOnce$Draft;I)I"⟩, 6), (⟨"NotAtOnce$Parities", "spread", "()V"⟩, 6), (⟨"NotAtOnce$Frames", "findCorners", "()V"⟩, 12), (⟨"NotAtOnce$Frames", "findCornersOf", "(II)V"⟩, 12), (⟨"NotAtOnce", "told", "(I)I"⟩, 14), (⟨"NotAtOnce", "noBook", "()Z"⟩, 14), (⟨"NotAtOnce$Blend", "solve", "()V"⟩, 9), (⟨"NotAtOnce$Blend", "nameColumns", "()V"⟩, 9), (⟨"NotAtOnce$Blend", "fillRows", "()V"⟩, 9)]
theorem lw_r2 : ∀ q ∈ lw_privs_2, lw_okq q := List.forall_mem_cons.mpr ⟨lw_p16, List.forall_mem_cons.mpr ⟨lw_p17, List.forall_mem_cons.mpr ⟨lw_p18, List.forall_mem_cons.mpr ⟨lw_p19, List.forall_mem_cons.mpr ⟨lw_p20, List.forall_mem_cons.mpr ⟨lw_p21, List.forall_mem_cons.mpr ⟨lw_p22, List.forall_mem_cons.mpr ⟨lw_p23, List.forall_mem_cons.mpr ⟨lw_p24, List.forall_mem_cons.mpr ⟨lw_p25, List.forall_mem_cons.mpr ⟨lw_p26, List.forall_mem_cons.mpr ⟨lw_p27, List.forall_mem_cons.mpr ⟨lw_p28, List.forall_mem_cons.mpr ⟨lw_p29, List.forall_mem_cons.mpr ⟨lw_p30, List.forall_mem_cons.mpr ⟨lw_p31, fun _ h => absurd h List.not_mem_nil⟩⟩⟩⟩⟩⟩⟩⟩⟩⟩⟩⟩⟩⟩⟩⟩
set_option maxRecDepth 20000 in
theorem lw_p32 : lw_okq (⟨"NotAtOnce$Blend", "climb", "(I)V"⟩, 9) := ⟨⟨by decide +kernel, by decide +kernel⟩, tqq_1 (j := 237) rfl, tqq_4 (j := 31) rfl, tqq_4 (j := 32) rfl⟩
set_option maxRecDepth 20000 in
theorem lw_p33 : lw_okq (⟨"NotAtOnce$Blend", "entering", "(I)I"⟩, 9) := ⟨⟨by decide +kernel, by decide +kernel⟩, tqq_1 (j := 237) rfl, tqq_4 (j := 36) rfl, tqq_4 (j := 37) rfl⟩
set_option maxRecDepth 20000 in
theorem lw_p34 : lw_okq (⟨"NotAtOnce$Blend", "leaving", "(I)I"⟩, 9) := ⟨⟨by decide +kernel, by decide +kernel⟩, tqq_1 (j := 237) rfl, tqq_4 (j := 40) rfl, tqq_4 (j := 41) rfl⟩
set_option maxRecDepth 20000 in
theorem lw_p35 : lw_okq (⟨"NotAtOnce$Blend", "comesFirst", "(III)Z"⟩, 9) := ⟨⟨by decide +kernel, by decide +kernel⟩, tqq_1 (j := 237) rfl, tqq_4 (j := 44) rfl, tqq_4 (j := 45) rfl⟩
set_option maxRecDepth 20000 in
theorem lw_p36 : lw_okq (⟨"NotAtOnce$Blend", "pivot", "(III)V"⟩, 9) := ⟨⟨by decide +kernel, by decide +kernel⟩, tqq_1 (j := 237) rfl, tqq_4 (j := 48) rfl, tqq_4 (j := 49) rfl⟩
set_option maxRecDepth 20000 in
theorem lw_p37 : lw_okq (⟨"NotAtOnce$Blend", "clearFrom", "(III)V"⟩, 9) := ⟨⟨by decide +kernel, by decide +kernel⟩, tqq_1 (j := 237) rfl, tqq_4 (j := 52) rfl, tqq_4 (j := 53) rfl⟩
set_option maxRecDepth 20000 in
theorem lw_p38 : lw_okq (⟨"NotAtOnce$Blend", "aim", "(III)V"⟩, 9) := ⟨⟨by decide +kernel, by decide +kernel⟩, tqq_1 (j := 237) rfl, tqq_4 (j := 79) rfl, tqq_4 (j := 80) rfl⟩
set_option maxRecDepth 20000 in
theorem lw_p39 : lw_okq (⟨"NotAtOnce$Table", "onesOf", "(II)I"⟩, 8) := ⟨⟨by decide +kernel, by decide +kernel⟩, tqq_1 (j := 168) rfl, tqq_4 (j := 140) rfl, tqq_4 (j := 141) rfl⟩
set_option maxRecDepth 20000 in
theorem lw_p40 : lw_okq (⟨"NotAtOnce$Rings", "looksOf", "(I)I"⟩, 1) := ⟨⟨by decide +kernel, by decide +kernel⟩, tqq_1 (j := 214) rfl, tqq_4 (j := 170) rfl, tqq_4 (j := 171) rfl⟩
set_option maxRecDepth 20000 in
theorem lw_p41 : lw_okq (⟨"NotAtOnce$Rings", "hangsTogether", "(II)Z"⟩, 1) := ⟨⟨by decide +kernel, by decide +kernel⟩, tqq_1 (j := 214) rfl, tqq_4 (j := 174) rfl, tqq_4 (j := 175) rfl⟩
set_option maxRecDepth 20000 in
theorem lw_p42 : lw_okq (⟨"NotAtOnce", "denied", "(I)Z"⟩, 14) := ⟨⟨by decide +kernel, by decide +kernel⟩, tqq_1 (j := 25) rfl, tqq_4 (j := 213) rfl, tqq_4 (j := 214) rfl⟩
set_option maxRecDepth 20000 in
theorem lw_p43 : lw_okq (⟨"NotAtOnce", "done", "()Z"⟩, 14) := ⟨⟨by decide +kernel, by decide +kernel⟩, tqq_1 (j := 25) rfl, tqq_4 (j := 217) rfl, tqq_4 (j := 218) rfl⟩
set_option maxRecDepth 20000 in
theorem lw_p44 : lw_okq (⟨"NotAtOnce$Frames", "countColours", "(I)I"⟩, 12) := ⟨⟨by decide +kernel, by decide +kernel⟩, tqq_2 (j := 62) rfl, tqq_5 (j := 74) rfl, tqq_5 (j := 75) rfl⟩
set_option maxRecDepth 20000 in
theorem lw_p45 : lw_okq (⟨"NotAtOnce$Frames", "colour", "(III)V"⟩, 12) := ⟨⟨by decide +kernel, by decide +kernel⟩, tqq_2 (j := 62) rfl, tqq_5 (j := 78) rfl, tqq_5 (j := 79) rfl⟩
set_option maxRecDepth 20000 in
theorem lw_p46 : lw_okq (⟨"NotAtOnce$Frames", "mostMet", "(I)I"⟩, 12) := ⟨⟨by decide +kernel, by decide +kernel⟩, tqq_2 (j := 62) rfl, tqq_5 (j := 82) rfl, tqq_5 (j := 83) rfl⟩
set_option maxRecDepth 20000 in
theorem lw_p47 : lw_okq (⟨"NotAtOnce$Telling", "tell", "(IIII)I"⟩, 10) := ⟨⟨by decide +kernel, by decide +kernel⟩, tqq_2 (j := 112) rfl, tqq_5 (j := 111) rfl, tqq_5 (j := 112) rfl⟩
def lw_privs_3 : List (MethodName × Nat) := [(⟨"NotAtOnce$Blend", "climb", "(I)V"⟩, 9), (⟨"NotAtOnce$Blend", "entering", "(I)I"⟩, 9), (⟨"NotAtOnce$Blend", "leaving", "(I)I"⟩, 9), (⟨"NotAtOnce$Blend", "comesFirst", "(III)Z"⟩, 9), (⟨"NotAtOnce$Blend", "pivot", "(III)V"⟩, 9), (⟨"NotAtOnce$Blend", "clearFrom", "(III)V"⟩, 9), (⟨"NotAtOnce$Blend", "aim", "(III)V"⟩, 9), (⟨"NotAtOnce$Table", "onesOf", "(II)I"⟩, 8), (⟨"NotAtOnce$Rings", "looksOf", "(I)I"⟩, 1), (⟨"NotAtOnce$Rings", "hangsTogether", "(II)Z"⟩, 1), (⟨"NotAtOnce", "denied", "(I)Z"⟩, 14), (⟨"NotAtOnce", "done", "()Z"⟩, 14), (⟨"NotAtOnce$Frames", "countColours", "(I)I"⟩, 12), (⟨"NotAtOnce$Frames", "colour", "(III)V"⟩, 12), (⟨"NotAtOnce$Frames", "mostMet", "(I)I"⟩, 12), (⟨"NotAtOnce$Telling", "tell", "(IIII)I"⟩, 10)]
theorem lw_r3 : ∀ q ∈ lw_privs_3, lw_okq q := List.forall_mem_cons.mpr ⟨lw_p32, List.forall_mem_cons.mpr ⟨lw_p33, List.forall_mem_cons.mpr ⟨lw_p34, List.forall_mem_cons.mpr ⟨lw_p35, List.forall_mem_cons.mpr ⟨lw_p36, List.forall_mem_cons.mpr ⟨lw_p37, List.forall_mem_cons.mpr ⟨lw_p38, List.forall_mem_cons.mpr ⟨lw_p39, List.forall_mem_cons.mpr ⟨lw_p40, List.forall_mem_cons.mpr ⟨lw_p41, List.forall_mem_cons.mpr ⟨lw_p42, List.forall_mem_cons.mpr ⟨lw_p43, List.forall_mem_cons.mpr ⟨lw_p44, List.forall_mem_cons.mpr ⟨lw_p45, List.forall_mem_cons.mpr ⟨lw_p46, List.forall_mem_cons.mpr ⟨lw_p47, fun _ h => absurd h List.not_mem_nil⟩⟩⟩⟩⟩⟩⟩⟩⟩⟩⟩⟩⟩⟩⟩⟩
set_option maxRecDepth 20000 in
theorem lw_p48 : lw_okq (⟨"NotAtOnce$Telling", "tellOn", "(IIII)I"⟩, 10) := ⟨⟨by decide +kernel, by decide +kernel⟩, tqq_2 (j := 112) rfl, tqq_5 (j := 115) rfl, tqq_5 (j := 116) rfl⟩
set_option maxRecDepth 20000 in
theorem lw_p49 : lw_okq (⟨"NotAtOnce$History", "leaveOldest", "()V"⟩, 7) := ⟨⟨by decide +kernel, by decide +kernel⟩, tqq_2 (j := 151) rfl, tqq_5 (j := 137) rfl, tqq_5 (j := 138) rfl⟩
set_option maxRecDepth 20000 in
theorem lw_p50 : lw_okq (⟨"NotAtOnce$Table", "swap", "(II)V"⟩, 8) := ⟨⟨by decide +kernel, by decide +kernel⟩, tqq_1 (j := 168) rfl, tqq_5 (j := 149) rfl, tqq_5 (j := 150) rfl⟩
set_option maxRecDepth 20000 in
theorem lw_p51 : lw_okq (⟨"NotAtOnce$Table", "putTogether", "(III)V"⟩, 8) := ⟨⟨by decide +kernel, by decide +kernel⟩, tqq_1 (j := 168) rfl, tqq_5 (j := 175) rfl, tqq_5 (j := 176) rfl⟩
set_option maxRecDepth 20000 in
theorem lw_p52 : lw_okq (⟨"java/lang/Throwable", "fillInStackTrace", "(I)Ljava/lang/Throwable;"⟩, 6) := ⟨⟨by decide +kernel, by decide +kernel⟩, tqq_6 (j := 56) rfl, tqq_6 (j := 54) rfl, tqq_6 (j := 55) rfl⟩
set_option maxRecDepth 20000 in
theorem lw_p53 : lw_okq (⟨"NotAtOnceModel", "good", "()V"⟩, 40) := ⟨⟨by decide +kernel, by decide +kernel⟩, tqq_6 (j := 86) rfl, tqq_6 (j := 221) rfl, tqq_6 (j := 222) rfl⟩
set_option maxRecDepth 20000 in
theorem lw_p54 : lw_okq (⟨"NotAtOnceModel", "no", "(I)I"⟩, 40) := ⟨⟨by decide +kernel, by decide +kernel⟩, tqq_6 (j := 86) rfl, tqq_6 (j := 228) rfl, tqq_6 (j := 229) rfl⟩
set_option maxRecDepth 20000 in
theorem lw_p55 : lw_okq (⟨"NotAtOnceModel", "next", "()V"⟩, 40) := ⟨⟨by decide +kernel, by decide +kernel⟩, tqq_6 (j := 86) rfl, tqq_6 (j := 232) rfl, tqq_6 (j := 233) rfl⟩
set_option maxRecDepth 20000 in
theorem lw_p56 : lw_okq (⟨"NotAtOnceModel", "see", "(I)I"⟩, 40) := ⟨⟨by decide +kernel, by decide +kernel⟩, tqq_6 (j := 86) rfl, tqq_6 (j := 236) rfl, tqq_6 (j := 237) rfl⟩
set_option maxRecDepth 20000 in
theorem lw_p57 : lw_okq (⟨"NotAtOnceModel", "readLine", "()V"⟩, 40) := ⟨⟨by decide +kernel, by decide +kernel⟩, tqq_6 (j := 86) rfl, tqq_7 (j := 6) rfl, tqq_7 (j := 7) rfl⟩
set_option maxRecDepth 20000 in
theorem lw_p58 : lw_okq (⟨"NotAtOnceModel", "begins", "(Ljava/lang/String;ZI)Z"⟩, 40) := ⟨⟨by decide +kernel, by decide +kernel⟩, tqq_6 (j := 86) rfl, tqq_7 (j := 11) rfl, tqq_7 (j := 12) rfl⟩
set_option maxRecDepth 20000 in
theorem lw_p59 : lw_okq (⟨"NotAtOnceModel", "isWord", "(Ljava/lang/String;)Z"⟩, 40) := ⟨⟨by decide +kernel, by decide +kernel⟩, tqq_6 (j := 86) rfl, tqq_7 (j := 15) rfl, tqq_7 (j := 16) rfl⟩
set_option maxRecDepth 20000 in
theorem lw_p60 : lw_okq (⟨"NotAtOnceModel", "wrong", "(II)V"⟩, 40) := ⟨⟨by decide +kernel, by decide +kernel⟩, tqq_6 (j := 86) rfl, tqq_7 (j := 21) rfl, tqq_7 (j := 22) rfl⟩
set_option maxRecDepth 20000 in
theorem lw_p61 : lw_okq (⟨"NotAtOnceModel", "lawLine", "()V"⟩, 40) := ⟨⟨by decide +kernel, by decide +kernel⟩, tqq_6 (j := 86) rfl, tqq_7 (j := 25) rfl, tqq_7 (j := 26) rfl⟩
set_option maxRecDepth 20000 in
theorem lw_p62 : lw_okq (⟨"NotAtOnceModel", "pass", "(Ljava/lang/String;)V"⟩, 40) := ⟨⟨by decide +kernel, by decide +kernel⟩, tqq_6 (j := 86) rfl, tqq_7 (j := 30) rfl, tqq_7 (j := 31) rfl⟩
set_option maxRecDepth 20000 in
theorem lw_p63 : lw_okq (⟨"NotAtOnceModel", "takes", "(Ljava/lang/String;)Z"⟩, 40) := ⟨⟨by decide +kernel, by decide +kernel⟩, tqq_6 (j := 86) rfl, tqq_7 (j := 34) rfl, tqq_7 (j := 35) rfl⟩
def lw_privs_4 : List (MethodName × Nat) := [(⟨"NotAtOnce$Telling", "tellOn", "(IIII)I"⟩, 10), (⟨"NotAtOnce$History", "leaveOldest", "()V"⟩, 7), (⟨"NotAtOnce$Table", "swap", "(II)V"⟩, 8), (⟨"NotAtOnce$Table", "putTogether", "(III)V"⟩, 8), (⟨"java/lang/Throwable", "fillInStackTrace", "(I)Ljava/lang/Throwable;"⟩, 6), (⟨"NotAtOnceModel", "good", "()V"⟩, 40), (⟨"NotAtOnceModel", "no", "(I)I"⟩, 40), (⟨"NotAtOnceModel", "next", "()V"⟩, 40), (⟨"NotAtOnceModel", "see", "(I)I"⟩, 40), (⟨"NotAtOnceModel", "readLine", "()V"⟩, 40), (⟨"NotAtOnceModel", "begins", "(Ljava/lang/String;ZI)Z"⟩, 40), (⟨"NotAtOnceModel", "isWord", "(Ljava/lang/String;)Z"⟩, 40), (⟨"NotAtOnceModel", "wrong", "(II)V"⟩, 40), (⟨"NotAtOnceModel", "lawLine", "()V"⟩, 40), (⟨"NotAtOnceModel", "pass", "(Ljava/lang/String;)V"⟩, 40), (⟨"NotAtOnceModel", "takes", "(Ljava/lang/String;)Z"⟩, 40)]
theorem lw_r4 : ∀ q ∈ lw_privs_4, lw_okq q := List.forall_mem_cons.mpr ⟨lw_p48, List.forall_mem_cons.mpr ⟨lw_p49, List.forall_mem_cons.mpr ⟨lw_p50, List.forall_mem_cons.mpr ⟨lw_p51, List.forall_mem_cons.mpr ⟨lw_p52, List.forall_mem_cons.mpr ⟨lw_p53, List.forall_mem_cons.mpr ⟨lw_p54, List.forall_mem_cons.mpr ⟨lw_p55, List.forall_mem_cons.mpr ⟨lw_p56, List.forall_mem_cons.mpr ⟨lw_p57, List.forall_mem_cons.mpr ⟨lw_p58, List.forall_mem_cons.mpr ⟨lw_p59, List.forall_mem_cons.mpr ⟨lw_p60, List.forall_mem_cons.mpr ⟨lw_p61, List.forall_mem_cons.mpr ⟨lw_p62, List.forall_mem_cons.mpr ⟨lw_p63, fun _ h => absurd h List.not_mem_nil⟩⟩⟩⟩⟩⟩⟩⟩⟩⟩⟩⟩⟩⟩⟩⟩
set_option maxRecDepth 20000 in
theorem lw_p64 : lw_okq (⟨"NotAtOnceModel", "number", "(II)I"⟩, 40) := ⟨⟨by decide +kernel, by decide +kernel⟩, tqq_6 (j := 86) rfl, tqq_7 (j := 38) rfl, tqq_7 (j := 39) rfl⟩
set_option maxRecDepth 20000 in
theorem lw_p65 : lw_okq (⟨"NotAtOnceModel", "newNames", "(III)V"⟩, 40) := ⟨⟨by decide +kernel, by decide +kernel⟩, tqq_6 (j := 86) rfl, tqq_7 (j := 43) rfl, tqq_7 (j := 44) rfl⟩
set_option maxRecDepth 20000 in
theorem lw_p66 : lw_okq (⟨"NotAtOnceModel", "mustName", "()V"⟩, 40) := ⟨⟨by decide +kernel, by decide +kernel⟩, tqq_6 (j := 86) rfl, tqq_7 (j := 47) rfl, tqq_7 (j := 48) rfl⟩
set_option maxRecDepth 20000 in
theorem lw_p67 : lw_okq (⟨"NotAtOnceModel", "find", "()I"⟩, 40) := ⟨⟨by decide +kernel, by decide +kernel⟩, tqq_6 (j := 86) rfl, tqq_7 (j := 56) rfl, tqq_7 (j := 57) rfl⟩
set_option maxRecDepth 20000 in
theorem lw_p68 : lw_okq (⟨"NotAtOnceModel", "comma", "()Z"⟩, 40) := ⟨⟨by decide +kernel, by decide +kernel⟩, tqq_6 (j := 86) rfl, tqq_7 (j := 60) rfl, tqq_7 (j := 61) rfl⟩
set_option maxRecDepth 20000 in
theorem lw_p69 : lw_okq (⟨"NotAtOnceModel", "setLine", "()V"⟩, 40) := ⟨⟨by decide +kernel, by decide +kernel⟩, tqq_6 (j := 86) rfl, tqq_7 (j := 64) rfl, tqq_7 (j := 65) rfl⟩
set_option maxRecDepth 20000 in
theorem lw_p70 : lw_okq (⟨"NotAtOnceModel", "passed", "(ZI)I"⟩, 40) := ⟨⟨by decide +kernel, by decide +kernel⟩, tqq_6 (j := 86) rfl, tqq_7 (j := 68) rfl, tqq_7 (j := 69) rfl⟩
set_option maxRecDepth 20000 in
theorem lw_p71 : lw_okq (⟨"NotAtOnceModel", "named", "(ZI)I"⟩, 40) := ⟨⟨by decide +kernel, by decide +kernel⟩, tqq_6 (j := 86) rfl, tqq_7 (j := 72) rfl, tqq_7 (j := 73) rfl⟩
set_option maxRecDepth 20000 in
theorem lw_p72 : lw_okq (⟨"NotAtOnceModel", "mustComma", "()V"⟩, 40) := ⟨⟨by decide +kernel, by decide +kernel⟩, tqq_6 (j := 86) rfl, tqq_7 (j := 80) rfl, tqq_7 (j := 81) rfl⟩
set_option maxRecDepth 20000 in
theorem lw_p73 : lw_okq (⟨"NotAtOnceModel", "lineLine", "()V"⟩, 40) := ⟨⟨by decide +kernel, by decide +kernel⟩, tqq_6 (j := 86) rfl, tqq_7 (j := 84) rfl, tqq_7 (j := 85) rfl⟩
set_option maxRecDepth 20000 in
theorem lw_p74 : lw_okq (⟨"NotAtOnceModel", "rayLine", "()V"⟩, 40) := ⟨⟨by decide +kernel, by decide +kernel⟩, tqq_6 (j := 86) rfl, tqq_7 (j := 91) rfl, tqq_7 (j := 92) rfl⟩
set_option maxRecDepth 20000 in
theorem lw_p75 : lw_okq (⟨"NotAtOnceModel", "runLine", "()V"⟩, 40) := ⟨⟨by decide +kernel, by decide +kernel⟩, tqq_6 (j := 86) rfl, tqq_7 (j := 95) rfl, tqq_7 (j := 96) rfl⟩
set_option maxRecDepth 20000 in
theorem lw_p76 : lw_okq (⟨"NotAtOnceModel", "noCoins", "()V"⟩, 40) := ⟨⟨by decide +kernel, by decide +kernel⟩, tqq_6 (j := 86) rfl, tqq_7 (j := 99) rfl, tqq_7 (j := 100) rfl⟩
set_option maxRecDepth 20000 in
theorem lw_p77 : lw_okq (⟨"NotAtOnceModel", "isMixed", "()Z"⟩, 40) := ⟨⟨by decide +kernel, by decide +kernel⟩, tqq_6 (j := 86) rfl, tqq_7 (j := 115) rfl, tqq_7 (j := 116) rfl⟩
set_option maxRecDepth 20000 in
theorem lw_p78 : lw_okq (⟨"NotAtOnceModel", "layTab", "()V"⟩, 40) := ⟨⟨by decide +kernel, by decide +kernel⟩, tqq_6 (j := 86) rfl, tqq_7 (j := 119) rfl, tqq_7 (j := 120) rfl⟩
set_option maxRecDepth 20000 in
theorem lw_p79 : lw_okq (⟨"NotAtOnceModel", "hiddenMany", "()I"⟩, 40) := ⟨⟨by decide +kernel, by decide +kernel⟩, tqq_6 (j := 86) rfl, tqq_7 (j := 123) rfl, tqq_7 (j := 124) rfl⟩
def lw_privs_5 : List (MethodName × Nat) := [(⟨"NotAtOnceModel", "number", "(II)I"⟩, 40), (⟨"NotAtOnceModel", "newNames", "(III)V"⟩, 40), (⟨"NotAtOnceModel", "mustName", "()V"⟩, 40), (⟨"NotAtOnceModel", "find", "()I"⟩, 40), (⟨"NotAtOnceModel", "comma", "()Z"⟩, 40), (⟨"NotAtOnceModel", "setLine", "()V"⟩, 40), (⟨"NotAtOnceModel", "passed", "(ZI)I"⟩, 40), (⟨"NotAtOnceModel", "named", "(ZI)I"⟩, 40), (⟨"NotAtOnceModel", "mustComma", "()V"⟩, 40), (⟨"NotAtOnceModel", "lineLine", "()V"⟩, 40), (⟨"NotAtOnceModel", "rayLine", "()V"⟩, 40), (⟨"NotAtOnceModel", "runLine", "()V"⟩, 40), (⟨"NotAtOnceModel", "noCoins", "()V"⟩, 40), (⟨"NotAtOnceModel", "isMixed", "()Z"⟩, 40), (⟨"NotAtOnceModel", "layTab", "()V"⟩, 40), (⟨"NotAtOnceModel", "hiddenMany", "()I"⟩, 40)]
theorem lw_r5 : ∀ q ∈ lw_privs_5, lw_okq q := List.forall_mem_cons.mpr ⟨lw_p64, List.forall_mem_cons.mpr ⟨lw_p65, List.forall_mem_cons.mpr ⟨lw_p66, List.forall_mem_cons.mpr ⟨lw_p67, List.forall_mem_cons.mpr ⟨lw_p68, List.forall_mem_cons.mpr ⟨lw_p69, List.forall_mem_cons.mpr ⟨lw_p70, List.forall_mem_cons.mpr ⟨lw_p71, List.forall_mem_cons.mpr ⟨lw_p72, List.forall_mem_cons.mpr ⟨lw_p73, List.forall_mem_cons.mpr ⟨lw_p74, List.forall_mem_cons.mpr ⟨lw_p75, List.forall_mem_cons.mpr ⟨lw_p76, List.forall_mem_cons.mpr ⟨lw_p77, List.forall_mem_cons.mpr ⟨lw_p78, List.forall_mem_cons.mpr ⟨lw_p79, fun _ h => absurd h List.not_mem_nil⟩⟩⟩⟩⟩⟩⟩⟩⟩⟩⟩⟩⟩⟩⟩⟩
set_option maxRecDepth 20000 in
theorem lw_p80 : lw_okq (⟨"NotAtOnceModel", "fitted", "(II)I"⟩, 40) := ⟨⟨by decide +kernel, by decide +kernel⟩, tqq_6 (j := 86) rfl, tqq_7 (j := 133) rfl, tqq_7 (j := 134) rfl⟩
set_option maxRecDepth 20000 in
theorem lw_p81 : lw_okq (⟨"NotAtOnceModel", "goesUp", "(I)V"⟩, 40) := ⟨⟨by decide +kernel, by decide +kernel⟩, tqq_6 (j := 86) rfl, tqq_7 (j := 138) rfl, tqq_7 (j := 139) rfl⟩
set_option maxRecDepth 20000 in
theorem lw_p82 : lw_okq (⟨"NotAtOnceModel", "bounding", "(I)I"⟩, 40) := ⟨⟨by decide +kernel, by decide +kernel⟩, tqq_6 (j := 86) rfl, tqq_7 (j := 142) rfl, tqq_7 (j := 143) rfl⟩
set_option maxRecDepth 20000 in
theorem lw_p83 : lw_okq (⟨"NotAtOnceModel", "turnOver", "(II)V"⟩, 40) := ⟨⟨by decide +kernel, by decide +kernel⟩, tqq_6 (j := 86) rfl, tqq_7 (j := 146) rfl, tqq_7 (j := 147) rfl⟩
set_option maxRecDepth 20000 in
theorem lw_p84 : lw_okq (⟨"NotAtOnceModel", "isLook", "(I)Z"⟩, 40) := ⟨⟨by decide +kernel, by decide +kernel⟩, tqq_6 (j := 86) rfl, tqq_7 (j := 160) rfl, tqq_7 (j := 161) rfl⟩
set_option maxRecDepth 20000 in
theorem lw_p85 : lw_okq (⟨"NotAtOnceModel", "isOutcome", "(II)Z"⟩, 40) := ⟨⟨by decide +kernel, by decide +kernel⟩, tqq_6 (j := 86) rfl, tqq_7 (j := 171) rfl, tqq_7 (j := 172) rfl⟩
set_option maxRecDepth 20000 in
theorem lw_p86 : lw_okq (⟨"NotAtOnceModel", "isSet", "(I)Z"⟩, 40) := ⟨⟨by decide +kernel, by decide +kernel⟩, tqq_6 (j := 86) rfl, tqq_7 (j := 175) rfl, tqq_7 (j := 176) rfl⟩
set_option maxRecDepth 20000 in
theorem lw_p87 : lw_okq (⟨"NotAtOnceModel", "doesExtend", "(II)Z"⟩, 40) := ⟨⟨by decide +kernel, by decide +kernel⟩, tqq_6 (j := 86) rfl, tqq_7 (j := 179) rfl, tqq_7 (j := 180) rfl⟩
set_option maxRecDepth 20000 in
theorem lw_p88 : lw_okq (⟨"NotAtOnceModel", "fitsAll", "(II)Z"⟩, 40) := ⟨⟨by decide +kernel, by decide +kernel⟩, tqq_6 (j := 86) rfl, tqq_7 (j := 183) rfl, tqq_7 (j := 184) rfl⟩
set_option maxRecDepth 20000 in
theorem lw_p89 : lw_okq (⟨"NotAtOnceModel", "fittingAnswer", "(I)I"⟩, 40) := ⟨⟨by decide +kernel, by decide +kernel⟩, tqq_6 (j := 86) rfl, tqq_7 (j := 195) rfl, tqq_7 (j := 196) rfl⟩
set_option maxRecDepth 20000 in
theorem lw_p90 : lw_okq (⟨"NotAtOnceModel", "onesOf", "(II)I"⟩, 40) := ⟨⟨by decide +kernel, by decide +kernel⟩, tqq_6 (j := 86) rfl, tqq_7 (j := 207) rfl, tqq_7 (j := 208) rfl⟩
set_option maxRecDepth 20000 in
theorem lw_p91 : lw_okq (⟨"NotAtOnceModel", "sameOf", "(I)I"⟩, 40) := ⟨⟨by decide +kernel, by decide +kernel⟩, tqq_6 (j := 86) rfl, tqq_7 (j := 215) rfl, tqq_7 (j := 216) rfl⟩
set_option maxRecDepth 20000 in
theorem lw_p92 : lw_okq (⟨"NotAtOnceModel", "less", "(II)I"⟩, 40) := ⟨⟨by decide +kernel, by decide +kernel⟩, tqq_6 (j := 86) rfl, tqq_7 (j := 219) rfl, tqq_7 (j := 220) rfl⟩
set_option maxRecDepth 20000 in
theorem lw_p93 : lw_okq (⟨"NotAtOnceModel", "cycleOf", "(I)I"⟩, 40) := ⟨⟨by decide +kernel, by decide +kernel⟩, tqq_6 (j := 86) rfl, tqq_7 (j := 227) rfl, tqq_7 (j := 228) rfl⟩
set_option maxRecDepth 20000 in
theorem lw_p94 : lw_okq (⟨"NotAtOnceModel", "isCycle", "(I)Z"⟩, 40) := ⟨⟨by decide +kernel, by decide +kernel⟩, tqq_6 (j := 86) rfl, tqq_7 (j := 231) rfl, tqq_7 (j := 232) rfl⟩
set_option maxRecDepth 20000 in
theorem lw_p95 : lw_okq (⟨"NotAtOnceModel", "excessOf", "(I)I"⟩, 40) := ⟨⟨by decide +kernel, by decide +kernel⟩, tqq_6 (j := 86) rfl, tqq_8 (j := 6) rfl, tqq_8 (j := 7) rfl⟩
def lw_privs_6 : List (MethodName × Nat) := [(⟨"NotAtOnceModel", "fitted", "(II)I"⟩, 40), (⟨"NotAtOnceModel", "goesUp", "(I)V"⟩, 40), (⟨"NotAtOnceModel", "bounding", "(I)I"⟩, 40), (⟨"NotAtOnceModel", "turnOver", "(II)V"⟩, 40), (⟨"NotAtOnceModel", "isLook", "(I)Z"⟩, 40), (⟨"NotAtOnceModel", "isOutcome", "(II)Z"⟩, 40), (⟨"NotAtOnceModel", "isSet", "(I)Z"⟩, 40), (⟨"NotAtOnceModel", "doesExtend", "(II)Z"⟩, 40), (⟨"NotAtOnceModel", "fitsAll", "(II)Z"⟩, 40), (⟨"NotAtOnceModel", "fittingAnswer", "(I)I"⟩, 40), (⟨"NotAtOnceModel", "onesOf", "(II)I"⟩, 40), (⟨"NotAtOnceModel", "sameOf", "(I)I"⟩, 40), (⟨"NotAtOnceModel", "less", "(II)I"⟩, 40), (⟨"NotAtOnceModel", "cycleOf", "(I)I"⟩, 40), (⟨"NotAtOnceModel", "isCycle", "(I)Z"⟩, 40), (⟨"NotAtOnceModel", "excessOf", "(I)I"⟩, 40)]
theorem lw_r6 : ∀ q ∈ lw_privs_6, lw_okq q := List.forall_mem_cons.mpr ⟨lw_p80, List.forall_mem_cons.mpr ⟨lw_p81, List.forall_mem_cons.mpr ⟨lw_p82, List.forall_mem_cons.mpr ⟨lw_p83, List.forall_mem_cons.mpr ⟨lw_p84, List.forall_mem_cons.mpr ⟨lw_p85, List.forall_mem_cons.mpr ⟨lw_p86, List.forall_mem_cons.mpr ⟨lw_p87, List.forall_mem_cons.mpr ⟨lw_p88, List.forall_mem_cons.mpr ⟨lw_p89, List.forall_mem_cons.mpr ⟨lw_p90, List.forall_mem_cons.mpr ⟨lw_p91, List.forall_mem_cons.mpr ⟨lw_p92, List.forall_mem_cons.mpr ⟨lw_p93, List.forall_mem_cons.mpr ⟨lw_p94, List.forall_mem_cons.mpr ⟨lw_p95, fun _ h => absurd h List.not_mem_nil⟩⟩⟩⟩⟩⟩⟩⟩⟩⟩⟩⟩⟩⟩⟩⟩
set_option maxRecDepth 20000 in
theorem lw_p96 : lw_okq (⟨"NotAtOnceModel", "isNot", "(I)Z"⟩, 40) := ⟨⟨by decide +kernel, by decide +kernel⟩, tqq_6 (j := 86) rfl, tqq_8 (j := 19) rfl, tqq_8 (j := 20) rfl⟩
set_option maxRecDepth 20000 in
theorem lw_p97 : lw_okq (⟨"NotAtOnceModel", "winsOf", "()I"⟩, 40) := ⟨⟨by decide +kernel, by decide +kernel⟩, tqq_6 (j := 86) rfl, tqq_8 (j := 27) rfl, tqq_8 (j := 28) rfl⟩
set_option maxRecDepth 20000 in
theorem lw_p98 : lw_okq (⟨"NotAtOnceModel", "worstHidden", "()I"⟩, 40) := ⟨⟨by decide +kernel, by decide +kernel⟩, tqq_6 (j := 86) rfl, tqq_8 (j := 35) rfl, tqq_8 (j := 36) rfl⟩
set_option maxRecDepth 20000 in
theorem lw_p99 : lw_okq (⟨"NotAtOnceModel", "paid", "(I)I"⟩, 40) := ⟨⟨by decide +kernel, by decide +kernel⟩, tqq_6 (j := 86) rfl, tqq_8 (j := 39) rfl, tqq_8 (j := 40) rfl⟩
set_option maxRecDepth 20000 in
theorem lw_p100 : lw_okq (⟨"NotAtOnceModel", "linesBy", "(I)I"⟩, 40) := ⟨⟨by decide +kernel, by decide +kernel⟩, tqq_6 (j := 86) rfl, tqq_8 (j := 59) rfl, tqq_8 (j := 60) rfl⟩
set_option maxRecDepth 20000 in
theorem lw_p101 : lw_okq (⟨"NotAtOnceModel", "allLines", "()I"⟩, 40) := ⟨⟨by decide +kernel, by decide +kernel⟩, tqq_6 (j := 86) rfl, tqq_8 (j := 63) rfl, tqq_8 (j := 64) rfl⟩
set_option maxRecDepth 20000 in
theorem lw_p102 : lw_okq (⟨"NotAtOnceModel", "canLines", "(I)Z"⟩, 40) := ⟨⟨by decide +kernel, by decide +kernel⟩, tqq_6 (j := 86) rfl, tqq_8 (j := 75) rfl, tqq_8 (j := 76) rfl⟩
set_option maxRecDepth 20000 in
theorem lw_p103 : lw_okq (⟨"NotAtOnceModel", "isRay", "(I)Z"⟩, 40) := ⟨⟨by decide +kernel, by decide +kernel⟩, tqq_6 (j := 86) rfl, tqq_8 (j := 91) rfl, tqq_8 (j := 92) rfl⟩
set_option maxRecDepth 20000 in
theorem lw_p104 : lw_okq (⟨"NotAtOnceModel", "areSquare", "(II)Z"⟩, 40) := ⟨⟨by decide +kernel, by decide +kernel⟩, tqq_6 (j := 86) rfl, tqq_8 (j := 95) rfl, tqq_8 (j := 96) rfl⟩
set_option maxRecDepth 20000 in
theorem lw_p105 : lw_okq (⟨"NotAtOnceModel", "layCorners", "()V"⟩, 40) := ⟨⟨by decide +kernel, by decide +kernel⟩, tqq_6 (j := 86) rfl, tqq_8 (j := 103) rfl, tqq_8 (j := 104) rfl⟩
set_option maxRecDepth 20000 in
theorem lw_p106 : lw_okq (⟨"NotAtOnceModel", "allRays", "()I"⟩, 40) := ⟨⟨by decide +kernel, by decide +kernel⟩, tqq_6 (j := 86) rfl, tqq_8 (j := 111) rfl, tqq_8 (j := 112) rfl⟩
set_option maxRecDepth 20000 in
theorem lw_p107 : lw_okq (⟨"NotAtOnceModel", "colour", "(II)V"⟩, 40) := ⟨⟨by decide +kernel, by decide +kernel⟩, tqq_6 (j := 86) rfl, tqq_8 (j := 116) rfl, tqq_8 (j := 117) rfl⟩
set_option maxRecDepth 20000 in
theorem lw_p108 : lw_okq (⟨"NotAtOnceModel", "isSoFar", "(III)Z"⟩, 40) := ⟨⟨by decide +kernel, by decide +kernel⟩, tqq_6 (j := 86) rfl, tqq_8 (j := 120) rfl, tqq_8 (j := 121) rfl⟩
set_option maxRecDepth 20000 in
theorem lw_p109 : lw_okq (⟨"NotAtOnceModel", "hasColour", "(I)Z"⟩, 40) := ⟨⟨by decide +kernel, by decide +kernel⟩, tqq_6 (j := 86) rfl, tqq_8 (j := 132) rfl, tqq_8 (j := 133) rfl⟩
set_option maxRecDepth 20000 in
theorem lw_p110 : lw_okq (⟨"NotAtOnceModel", "fewestStates", "()I"⟩, 40) := ⟨⟨by decide +kernel, by decide +kernel⟩, tqq_6 (j := 86) rfl, tqq_8 (j := 144) rfl, tqq_8 (j := 145) rfl⟩
set_option maxRecDepth 20000 in
theorem lw_p111 : lw_okq (⟨"NotAtOnceModel", "tellsAll", "(IIII)Z"⟩, 40) := ⟨⟨by decide +kernel, by decide +kernel⟩, tqq_6 (j := 86) rfl, tqq_8 (j := 148) rfl, tqq_8 (j := 149) rfl⟩
def lw_privs_7 : List (MethodName × Nat) := [(⟨"NotAtOnceModel", "isNot", "(I)Z"⟩, 40), (⟨"NotAtOnceModel", "winsOf", "()I"⟩, 40), (⟨"NotAtOnceModel", "worstHidden", "()I"⟩, 40), (⟨"NotAtOnceModel", "paid", "(I)I"⟩, 40), (⟨"NotAtOnceModel", "linesBy", "(I)I"⟩, 40), (⟨"NotAtOnceModel", "allLines", "()I"⟩, 40), (⟨"NotAtOnceModel", "canLines", "(I)Z"⟩, 40), (⟨"NotAtOnceModel", "isRay", "(I)Z"⟩, 40), (⟨"NotAtOnceModel", "areSquare", "(II)Z"⟩, 40), (⟨"NotAtOnceModel", "layCorners", "()V"⟩, 40), (⟨"NotAtOnceModel", "allRays", "()I"⟩, 40), (⟨"NotAtOnceModel", "colour", "(II)V"⟩, 40), (⟨"NotAtOnceModel", "isSoFar", "(III)Z"⟩, 40), (⟨"NotAtOnceModel", "hasColour", "(I)Z"⟩, 40), (⟨"NotAtOnceModel", "fewestStates", "()I"⟩, 40), (⟨"NotAtOnceModel", "tellsAll", "(IIII)Z"⟩, 40)]
theorem lw_r7 : ∀ q ∈ lw_privs_7, lw_okq q := List.forall_mem_cons.mpr ⟨lw_p96, List.forall_mem_cons.mpr ⟨lw_p97, List.forall_mem_cons.mpr ⟨lw_p98, List.forall_mem_cons.mpr ⟨lw_p99, List.forall_mem_cons.mpr ⟨lw_p100, List.forall_mem_cons.mpr ⟨lw_p101, List.forall_mem_cons.mpr ⟨lw_p102, List.forall_mem_cons.mpr ⟨lw_p103, List.forall_mem_cons.mpr ⟨lw_p104, List.forall_mem_cons.mpr ⟨lw_p105, List.forall_mem_cons.mpr ⟨lw_p106, List.forall_mem_cons.mpr ⟨lw_p107, List.forall_mem_cons.mpr ⟨lw_p108, List.forall_mem_cons.mpr ⟨lw_p109, List.forall_mem_cons.mpr ⟨lw_p110, List.forall_mem_cons.mpr ⟨lw_p111, fun _ h => absurd h List.not_mem_nil⟩⟩⟩⟩⟩⟩⟩⟩⟩⟩⟩⟩⟩⟩⟩⟩
set_option maxRecDepth 20000 in
theorem lw_p112 : lw_okq (⟨"NotAtOnceModel", "did", "(IIIII)Z"⟩, 40) := ⟨⟨by decide +kernel, by decide +kernel⟩, tqq_6 (j := 86) rfl, tqq_8 (j := 163) rfl, tqq_8 (j := 164) rfl⟩
set_option maxRecDepth 20000 in
theorem lw_p113 : lw_okq (⟨"NotAtOnceModel", "goesAway", "(I)V"⟩, 40) := ⟨⟨by decide +kernel, by decide +kernel⟩, tqq_6 (j := 86) rfl, tqq_8 (j := 174) rfl, tqq_8 (j := 175) rfl⟩
def lw_privs_8 : List (MethodName × Nat) := [(⟨"NotAtOnceModel", "did", "(IIIII)Z"⟩, 40), (⟨"NotAtOnceModel", "goesAway", "(I)V"⟩, 40)]
theorem lw_r8 : ∀ q ∈ lw_privs_8, lw_okq q := List.forall_mem_cons.mpr ⟨lw_p112, List.forall_mem_cons.mpr ⟨lw_p113, fun _ h => absurd h List.not_mem_nil⟩⟩
def lw_privs : List (MethodName × Nat) := lw_privs_1 ++ (lw_privs_2 ++ (lw_privs_3 ++ (lw_privs_4 ++ (lw_privs_5 ++ (lw_privs_6 ++ (lw_privs_7 ++ (lw_privs_8)))))))
def lw_tbl : List Cond := k2_sels lw_privs ++ tables_1
theorem lw_privs_ok : ∀ q ∈ lw_privs, lw_okq q := by
  show ∀ q ∈ lw_privs_1 ++ (lw_privs_2 ++ (lw_privs_3 ++ (lw_privs_4 ++ (lw_privs_5 ++ (lw_privs_6 ++ (lw_privs_7 ++ (lw_privs_8))))))), lw_okq q
  exact List.forall_mem_append.mpr ⟨lw_r1, List.forall_mem_append.mpr ⟨lw_r2, List.forall_mem_append.mpr ⟨lw_r3, List.forall_mem_append.mpr ⟨lw_r4, List.forall_mem_append.mpr ⟨lw_r5, List.forall_mem_append.mpr ⟨lw_r6, List.forall_mem_append.mpr ⟨lw_r7, lw_r8⟩⟩⟩⟩⟩⟩⟩
