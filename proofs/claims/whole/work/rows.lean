section
-- ===== PART A: goes FIRST, ahead of the names: the tables' words, and 'selects' of the private methods out of them =====
/-- a private method of a class that the tables say can be made, by its rows of tables_1 -/
def lw_okq (q : MethodName × Nat) : Prop := (q.1.cls ≠ "java/lang/invoke/MethodHandle" ∧ q.1.cls ≠ "java/lang/invoke/VarHandle") ∧ Cond.instantiable q.1.cls q.2 ∈ tables_1 ∧ Cond.privateMethod q.1 ∈ tables_1 ∧ Cond.instanceMethod q.1 ∈ tables_1
theorem lw_p0 : lw_okq (⟨"AnswerSquare$Text", "put", "(I)Z"⟩, 6) := ⟨⟨by decide +kernel, by decide +kernel⟩, List.mem_of_getElem? (i := 18) (by decide +kernel), List.mem_of_getElem? (i := 177) (by decide +kernel), List.mem_of_getElem? (i := 178) (by decide +kernel)⟩
theorem lw_p1 : lw_okq (⟨"AnswerSquare$Duchy", "readFrom", "(LAnswerSquare$Text;)I"⟩, 9) := ⟨⟨by decide +kernel, by decide +kernel⟩, List.mem_of_getElem? (i := 48) (by decide +kernel), List.mem_of_getElem? (i := 189) (by decide +kernel), List.mem_of_getElem? (i := 190) (by decide +kernel)⟩
theorem lw_p2 : lw_okq (⟨"AnswerSquare$Text", "rewind", "()V"⟩, 6) := ⟨⟨by decide +kernel, by decide +kernel⟩, List.mem_of_getElem? (i := 18) (by decide +kernel), List.mem_of_getElem? (i := 193) (by decide +kernel), List.mem_of_getElem? (i := 194) (by decide +kernel)⟩
theorem lw_p3 : lw_okq (⟨"AnswerSquare$Text", "advance", "()V"⟩, 6) := ⟨⟨by decide +kernel, by decide +kernel⟩, List.mem_of_getElem? (i := 18) (by decide +kernel), List.mem_of_getElem? (i := 197) (by decide +kernel), List.mem_of_getElem? (i := 198) (by decide +kernel)⟩
theorem lw_p4 : lw_okq (⟨"AnswerSquare$Text", "byteAt", "(I)I"⟩, 6) := ⟨⟨by decide +kernel, by decide +kernel⟩, List.mem_of_getElem? (i := 18) (by decide +kernel), List.mem_of_getElem? (i := 201) (by decide +kernel), List.mem_of_getElem? (i := 202) (by decide +kernel)⟩
theorem lw_p5 : lw_okq (⟨"AnswerSquare$Text", "takeWord", "(I)V"⟩, 6) := ⟨⟨by decide +kernel, by decide +kernel⟩, List.mem_of_getElem? (i := 18) (by decide +kernel), List.mem_of_getElem? (i := 208) (by decide +kernel), List.mem_of_getElem? (i := 209) (by decide +kernel)⟩
theorem lw_p6 : lw_okq (⟨"AnswerSquare$Text", "takeNumber", "(I)V"⟩, 6) := ⟨⟨by decide +kernel, by decide +kernel⟩, List.mem_of_getElem? (i := 18) (by decide +kernel), List.mem_of_getElem? (i := 215) (by decide +kernel), List.mem_of_getElem? (i := 216) (by decide +kernel)⟩
theorem lw_p7 : lw_okq (⟨"AnswerSquare$Duchy", "readItem", "(LAnswerSquare$Text;)Z"⟩, 9) := ⟨⟨by decide +kernel, by decide +kernel⟩, List.mem_of_getElem? (i := 48) (by decide +kernel), List.mem_of_getElem? (i := 222) (by decide +kernel), List.mem_of_getElem? (i := 223) (by decide +kernel)⟩
theorem lw_p8 : lw_okq (⟨"AnswerSquare$Duchy", "hasRoomFor", "(I)Z"⟩, 9) := ⟨⟨by decide +kernel, by decide +kernel⟩, List.mem_of_getElem? (i := 48) (by decide +kernel), List.mem_of_getElem? (i := 226) (by decide +kernel), List.mem_of_getElem? (i := 227) (by decide +kernel)⟩
theorem lw_p9 : lw_okq (⟨"AnswerSquare$Text", "isNumber", "(II)Z"⟩, 6) := ⟨⟨by decide +kernel, by decide +kernel⟩, List.mem_of_getElem? (i := 18) (by decide +kernel), List.mem_of_getElem? (i := 231) (by decide +kernel), List.mem_of_getElem? (i := 232) (by decide +kernel)⟩
theorem lw_p10 : lw_okq (⟨"AnswerSquare$Duchy", "take", "(III)V"⟩, 9) := ⟨⟨by decide +kernel, by decide +kernel⟩, List.mem_of_getElem? (i := 48) (by decide +kernel), List.mem_of_getElem? (i := 238) (by decide +kernel), List.mem_of_getElem? (i := 239) (by decide +kernel)⟩
theorem lw_p11 : lw_okq (⟨"AnswerSquare$Duchy", "settle", "()V"⟩, 9) := ⟨⟨by decide +kernel, by decide +kernel⟩, List.mem_of_getElem? (i := 48) (by decide +kernel), List.mem_of_getElem? (i := 242) (by decide +kernel), List.mem_of_getElem? (i := 243) (by decide +kernel)⟩
theorem lw_p12 : lw_okq (⟨"AnswerSquare$Moment", "reset", "()V"⟩, 11) := ⟨⟨by decide +kernel, by decide +kernel⟩, List.mem_of_getElem? (i := 90) (by decide +kernel), List.mem_of_getElem? (i := 246) (by decide +kernel), List.mem_of_getElem? (i := 247) (by decide +kernel)⟩
theorem lw_p13 : lw_okq (⟨"AnswerSquare", "tellNothing", "()V"⟩, 11) := ⟨⟨by decide +kernel, by decide +kernel⟩, List.mem_of_getElem? (i := 10) (by decide +kernel), List.mem_of_getElem? (i := 250) (by decide +kernel), List.mem_of_getElem? (i := 251) (by decide +kernel)⟩
theorem lw_p14 : lw_okq (⟨"AnswerSquare$Duchy", "hasSaying", "(I)Z"⟩, 9) := ⟨⟨by decide +kernel, by decide +kernel⟩, List.mem_of_getElem? (i := 48) (by decide +kernel), List.mem_of_getElem? (i := 258) (by decide +kernel), List.mem_of_getElem? (i := 259) (by decide +kernel)⟩
theorem lw_p15 : lw_okq (⟨"AnswerSquare$Duchy", "isSound", "(I)Z"⟩, 9) := ⟨⟨by decide +kernel, by decide +kernel⟩, List.mem_of_getElem? (i := 48) (by decide +kernel), List.mem_of_getElem? (i := 262) (by decide +kernel), List.mem_of_getElem? (i := 263) (by decide +kernel)⟩
def lw_privs_1 : List (MethodName × Nat) := [(⟨"AnswerSquare$Text", "put", "(I)Z"⟩, 6), (⟨"AnswerSquare$Duchy", "readFrom", "(LAnswerSquare$Text;)I"⟩, 9), (⟨"AnswerSquare$Text", "rewind", "()V"⟩, 6), (⟨"AnswerSquare$Text", "advance", "()V"⟩, 6), (⟨"AnswerSquare$Text", "byteAt", "(I)I"⟩, 6), (⟨"AnswerSquare$Text", "takeWord", "(I)V"⟩, 6), (⟨"AnswerSquare$Text", "takeNumber", "(I)V"⟩, 6), (⟨"AnswerSquare$Duchy", "readItem", "(LAnswerSquare$Text;)Z"⟩, 9), (⟨"AnswerSquare$Duchy", "hasRoomFor", "(I)Z"⟩, 9), (⟨"AnswerSquare$Text", "isNumber", "(II)Z"⟩, 6), (⟨"AnswerSquare$Duchy", "take", "(III)V"⟩, 9), (⟨"AnswerSquare$Duchy", "settle", "()V"⟩, 9), (⟨"AnswerSquare$Moment", "reset", "()V"⟩, 11), (⟨"AnswerSquare", "tellNothing", "()V"⟩, 11), (⟨"AnswerSquare$Duchy", "hasSaying", "(I)Z"⟩, 9), (⟨"AnswerSquare$Duchy", "isSound", "(I)Z"⟩, 9)]
theorem lw_r1 : ∀ q ∈ lw_privs_1, lw_okq q := List.forall_mem_cons.mpr ⟨lw_p0, List.forall_mem_cons.mpr ⟨lw_p1, List.forall_mem_cons.mpr ⟨lw_p2, List.forall_mem_cons.mpr ⟨lw_p3, List.forall_mem_cons.mpr ⟨lw_p4, List.forall_mem_cons.mpr ⟨lw_p5, List.forall_mem_cons.mpr ⟨lw_p6, List.forall_mem_cons.mpr ⟨lw_p7, List.forall_mem_cons.mpr ⟨lw_p8, List.forall_mem_cons.mpr ⟨lw_p9, List.forall_mem_cons.mpr ⟨lw_p10, List.forall_mem_cons.mpr ⟨lw_p11, List.forall_mem_cons.mpr ⟨lw_p12, List.forall_mem_cons.mpr ⟨lw_p13, List.forall_mem_cons.mpr ⟨lw_p14, List.forall_mem_cons.mpr ⟨lw_p15, fun _ h => absurd h List.not_mem_nil⟩⟩⟩⟩⟩⟩⟩⟩⟩⟩⟩⟩⟩⟩⟩⟩
theorem lw_p16 : lw_okq (⟨"AnswerSquare$Duchy", "knowers", "(I)I"⟩, 9) := ⟨⟨by decide +kernel, by decide +kernel⟩, List.mem_of_getElem? (i := 48) (by decide +kernel), List.mem_of_getElem? (i := 266) (by decide +kernel), List.mem_of_getElem? (i := 267) (by decide +kernel)⟩
theorem lw_p17 : lw_okq (⟨"AnswerSquare$Moment", "timesIn", "(I)I"⟩, 11) := ⟨⟨by decide +kernel, by decide +kernel⟩, List.mem_of_getElem? (i := 90) (by decide +kernel), List.mem_of_getElem? (i := 270) (by decide +kernel), List.mem_of_getElem? (i := 271) (by decide +kernel)⟩
theorem lw_p18 : lw_okq (⟨"AnswerSquare$Duchy", "hasPerson", "(I)Z"⟩, 9) := ⟨⟨by decide +kernel, by decide +kernel⟩, List.mem_of_getElem? (i := 48) (by decide +kernel), List.mem_of_getElem? (i := 278) (by decide +kernel), List.mem_of_getElem? (i := 279) (by decide +kernel)⟩
theorem lw_p19 : lw_okq (⟨"AnswerSquare", "thereNow", "()I"⟩, 11) := ⟨⟨by decide +kernel, by decide +kernel⟩, List.mem_of_getElem? (i := 10) (by decide +kernel), List.mem_of_getElem? (i := 282) (by decide +kernel), List.mem_of_getElem? (i := 283) (by decide +kernel)⟩
theorem lw_p20 : lw_okq (⟨"AnswerSquare$Moment", "there", "(II)I"⟩, 11) := ⟨⟨by decide +kernel, by decide +kernel⟩, List.mem_of_getElem? (i := 90) (by decide +kernel), List.mem_of_getElem? (i := 286) (by decide +kernel), List.mem_of_getElem? (i := 287) (by decide +kernel)⟩
theorem lw_p21 : lw_okq (⟨"AnswerSquare$Moment", "isThere", "(III)Z"⟩, 11) := ⟨⟨by decide +kernel, by decide +kernel⟩, List.mem_of_getElem? (i := 90) (by decide +kernel), List.mem_of_getElem? (i := 290) (by decide +kernel), List.mem_of_getElem? (i := 291) (by decide +kernel)⟩
theorem lw_p22 : lw_okq (⟨"AnswerSquare$Moment", "has", "(I)Z"⟩, 11) := ⟨⟨by decide +kernel, by decide +kernel⟩, List.mem_of_getElem? (i := 90) (by decide +kernel), List.mem_of_getElem? (i := 294) (by decide +kernel), List.mem_of_getElem? (i := 295) (by decide +kernel)⟩
theorem lw_p23 : lw_okq (⟨"AnswerSquare$Duchy", "answering", "(I)I"⟩, 9) := ⟨⟨by decide +kernel, by decide +kernel⟩, List.mem_of_getElem? (i := 48) (by decide +kernel), List.mem_of_getElem? (i := 298) (by decide +kernel), List.mem_of_getElem? (i := 299) (by decide +kernel)⟩
theorem lw_p24 : lw_okq (⟨"AnswerSquare$Duchy", "canAnswer", "(II)Z"⟩, 9) := ⟨⟨by decide +kernel, by decide +kernel⟩, List.mem_of_getElem? (i := 48) (by decide +kernel), List.mem_of_getElem? (i := 302) (by decide +kernel), List.mem_of_getElem? (i := 303) (by decide +kernel)⟩
theorem lw_p25 : lw_okq (⟨"AnswerSquare$Moment", "timesBy", "(I)I"⟩, 11) := ⟨⟨by decide +kernel, by decide +kernel⟩, List.mem_of_getElem? (i := 90) (by decide +kernel), List.mem_of_getElem? (i := 307) (by decide +kernel), List.mem_of_getElem? (i := 308) (by decide +kernel)⟩
theorem lw_p26 : lw_okq (⟨"AnswerSquare$Moment", "isOpen", "(I)Z"⟩, 11) := ⟨⟨by decide +kernel, by decide +kernel⟩, List.mem_of_getElem? (i := 90) (by decide +kernel), List.mem_of_getElem? (i := 316) (by decide +kernel), List.mem_of_getElem? (i := 317) (by decide +kernel)⟩
theorem lw_p27 : lw_okq (⟨"AnswerSquare$Moment", "firstAnswerTo", "(I)I"⟩, 11) := ⟨⟨by decide +kernel, by decide +kernel⟩, List.mem_of_getElem? (i := 90) (by decide +kernel), List.mem_of_getElem? (i := 320) (by decide +kernel), List.mem_of_getElem? (i := 321) (by decide +kernel)⟩
theorem lw_p28 : lw_okq (⟨"AnswerSquare$Moment", "add", "(III)Z"⟩, 11) := ⟨⟨by decide +kernel, by decide +kernel⟩, List.mem_of_getElem? (i := 90) (by decide +kernel), List.mem_of_getElem? (i := 329) (by decide +kernel), List.mem_of_getElem? (i := 330) (by decide +kernel)⟩
theorem lw_p29 : lw_okq (⟨"AnswerSquare$Moment", "remember", "(I)V"⟩, 11) := ⟨⟨by decide +kernel, by decide +kernel⟩, List.mem_of_getElem? (i := 90) (by decide +kernel), List.mem_of_getElem? (i := 333) (by decide +kernel), List.mem_of_getElem? (i := 334) (by decide +kernel)⟩
theorem lw_p30 : lw_okq (⟨"AnswerSquare$Moment", "latestOf", "(II)I"⟩, 11) := ⟨⟨by decide +kernel, by decide +kernel⟩, List.mem_of_getElem? (i := 90) (by decide +kernel), List.mem_of_getElem? (i := 342) (by decide +kernel), List.mem_of_getElem? (i := 343) (by decide +kernel)⟩
theorem lw_p31 : lw_okq (⟨"AnswerSquare$Moment", "passHour", "()Z"⟩, 11) := ⟨⟨by decide +kernel, by decide +kernel⟩, List.mem_of_getElem? (i := 90) (by decide +kernel), List.mem_of_getElem? (i := 350) (by decide +kernel), List.mem_of_getElem? (i := 351) (by decide +kernel)⟩
def lw_privs_2 : List (MethodName × Nat) := [(⟨"AnswerSquare$Duchy", "knowers", "(I)I"⟩, 9), (⟨"AnswerSquare$Moment", "timesIn", "(I)I"⟩, 11), (⟨"AnswerSquare$Duchy", "hasPerson", "(I)Z"⟩, 9), (⟨"AnswerSquare", "thereNow", "()I"⟩, 11), (⟨"AnswerSquare$Moment", "there", "(II)I"⟩, 11), (⟨"AnswerSquare$Moment", "isThere", "(III)Z"⟩, 11), (⟨"AnswerSquare$Moment", "has", "(I)Z"⟩, 11), (⟨"AnswerSquare$Duchy", "answering", "(I)I"⟩, 9), (⟨"AnswerSquare$Duchy", "canAnswer", "(II)Z"⟩, 9), (⟨"AnswerSquare$Moment", "timesBy", "(I)I"⟩, 11), (⟨"AnswerSquare$Moment", "isOpen", "(I)Z"⟩, 11), (⟨"AnswerSquare$Moment", "firstAnswerTo", "(I)I"⟩, 11), (⟨"AnswerSquare$Moment", "add", "(III)Z"⟩, 11), (⟨"AnswerSquare$Moment", "remember", "(I)V"⟩, 11), (⟨"AnswerSquare$Moment", "latestOf", "(II)I"⟩, 11), (⟨"AnswerSquare$Moment", "passHour", "()Z"⟩, 11)]
theorem lw_r2 : ∀ q ∈ lw_privs_2, lw_okq q := List.forall_mem_cons.mpr ⟨lw_p16, List.forall_mem_cons.mpr ⟨lw_p17, List.forall_mem_cons.mpr ⟨lw_p18, List.forall_mem_cons.mpr ⟨lw_p19, List.forall_mem_cons.mpr ⟨lw_p20, List.forall_mem_cons.mpr ⟨lw_p21, List.forall_mem_cons.mpr ⟨lw_p22, List.forall_mem_cons.mpr ⟨lw_p23, List.forall_mem_cons.mpr ⟨lw_p24, List.forall_mem_cons.mpr ⟨lw_p25, List.forall_mem_cons.mpr ⟨lw_p26, List.forall_mem_cons.mpr ⟨lw_p27, List.forall_mem_cons.mpr ⟨lw_p28, List.forall_mem_cons.mpr ⟨lw_p29, List.forall_mem_cons.mpr ⟨lw_p30, List.forall_mem_cons.mpr ⟨lw_p31, fun _ h => absurd h List.not_mem_nil⟩⟩⟩⟩⟩⟩⟩⟩⟩⟩⟩⟩⟩⟩⟩⟩
theorem lw_p32 : lw_okq (⟨"AnswerSquare$Moment", "takeBack", "()Z"⟩, 11) := ⟨⟨by decide +kernel, by decide +kernel⟩, List.mem_of_getElem? (i := 90) (by decide +kernel), List.mem_of_getElem? (i := 358) (by decide +kernel), List.mem_of_getElem? (i := 359) (by decide +kernel)⟩
theorem lw_p33 : lw_okq (⟨"AnswerSquare$Moment", "openOnes", "()I"⟩, 11) := ⟨⟨by decide +kernel, by decide +kernel⟩, List.mem_of_getElem? (i := 90) (by decide +kernel), List.mem_of_getElem? (i := 366) (by decide +kernel), List.mem_of_getElem? (i := 367) (by decide +kernel)⟩
theorem lw_p34 : lw_okq (⟨"AnswerSquare$Moment", "farthest", "()I"⟩, 11) := ⟨⟨by decide +kernel, by decide +kernel⟩, List.mem_of_getElem? (i := 90) (by decide +kernel), List.mem_of_getElem? (i := 371) (by decide +kernel), List.mem_of_getElem? (i := 372) (by decide +kernel)⟩
theorem lw_p35 : lw_okq (⟨"AnswerSquare$Moment", "lastOpen", "()I"⟩, 11) := ⟨⟨by decide +kernel, by decide +kernel⟩, List.mem_of_getElem? (i := 90) (by decide +kernel), List.mem_of_getElem? (i := 375) (by decide +kernel), List.mem_of_getElem? (i := 376) (by decide +kernel)⟩
theorem lw_p36 : lw_okq (⟨"AnswerSquare$Moment", "firstAnswerers", "()I"⟩, 11) := ⟨⟨by decide +kernel, by decide +kernel⟩, List.mem_of_getElem? (i := 90) (by decide +kernel), List.mem_of_getElem? (i := 379) (by decide +kernel), List.mem_of_getElem? (i := 380) (by decide +kernel)⟩
theorem lw_p37 : lw_okq (⟨"AnswerSquare", "hoursToSilence", "()I"⟩, 11) := ⟨⟨by decide +kernel, by decide +kernel⟩, List.mem_of_getElem? (i := 10) (by decide +kernel), List.mem_of_getElem? (i := 383) (by decide +kernel), List.mem_of_getElem? (i := 384) (by decide +kernel)⟩
theorem lw_p38 : lw_okq (⟨"AnswerSquare$Duchy", "worthOf", "(I)I"⟩, 9) := ⟨⟨by decide +kernel, by decide +kernel⟩, List.mem_of_getElem? (i := 48) (by decide +kernel), List.mem_of_getElem? (i := 391) (by decide +kernel), List.mem_of_getElem? (i := 392) (by decide +kernel)⟩
theorem lw_p39 : lw_okq (⟨"AnswerSquare", "chainLength", "(II)I"⟩, 11) := ⟨⟨by decide +kernel, by decide +kernel⟩, List.mem_of_getElem? (i := 10) (by decide +kernel), List.mem_of_getElem? (i := 399) (by decide +kernel), List.mem_of_getElem? (i := 400) (by decide +kernel)⟩
theorem lw_p40 : lw_okq (⟨"AnswerSquare$Duchy", "answeredBy", "(I)I"⟩, 9) := ⟨⟨by decide +kernel, by decide +kernel⟩, List.mem_of_getElem? (i := 48) (by decide +kernel), List.mem_of_getElem? (i := 403) (by decide +kernel), List.mem_of_getElem? (i := 404) (by decide +kernel)⟩
theorem lw_p41 : lw_okq (⟨"AnswerSquare", "chainStep", "(III)I"⟩, 11) := ⟨⟨by decide +kernel, by decide +kernel⟩, List.mem_of_getElem? (i := 10) (by decide +kernel), List.mem_of_getElem? (i := 407) (by decide +kernel), List.mem_of_getElem? (i := 408) (by decide +kernel)⟩
theorem lw_p42 : lw_okq (⟨"AnswerSquare$Duchy", "hasAll", "(I)Z"⟩, 9) := ⟨⟨by decide +kernel, by decide +kernel⟩, List.mem_of_getElem? (i := 48) (by decide +kernel), List.mem_of_getElem? (i := 418) (by decide +kernel), List.mem_of_getElem? (i := 419) (by decide +kernel)⟩
theorem lw_p43 : lw_okq (⟨"AnswerSquare", "suffices", "(II)Z"⟩, 11) := ⟨⟨by decide +kernel, by decide +kernel⟩, List.mem_of_getElem? (i := 10) (by decide +kernel), List.mem_of_getElem? (i := 422) (by decide +kernel), List.mem_of_getElem? (i := 423) (by decide +kernel)⟩
theorem lw_p44 : lw_okq (⟨"AnswerSquare$Duchy", "reachable", "(I)I"⟩, 9) := ⟨⟨by decide +kernel, by decide +kernel⟩, List.mem_of_getElem? (i := 48) (by decide +kernel), List.mem_of_getElem? (i := 426) (by decide +kernel), List.mem_of_getElem? (i := 427) (by decide +kernel)⟩
theorem lw_p45 : lw_okq (⟨"AnswerSquare", "beginnings", "(I)I"⟩, 11) := ⟨⟨by decide +kernel, by decide +kernel⟩, List.mem_of_getElem? (i := 10) (by decide +kernel), List.mem_of_getElem? (i := 441) (by decide +kernel), List.mem_of_getElem? (i := 442) (by decide +kernel)⟩
theorem lw_p46 : lw_okq (⟨"AnswerSquare$Moment", "aheadOf", "(I)I"⟩, 11) := ⟨⟨by decide +kernel, by decide +kernel⟩, List.mem_of_getElem? (i := 90) (by decide +kernel), List.mem_of_getElem? (i := 464) (by decide +kernel), List.mem_of_getElem? (i := 465) (by decide +kernel)⟩
theorem lw_p47 : lw_okq (⟨"AnswerSquare", "waysTo", "(II)I"⟩, 11) := ⟨⟨by decide +kernel, by decide +kernel⟩, List.mem_of_getElem? (i := 10) (by decide +kernel), List.mem_of_getElem? (i := 472) (by decide +kernel), List.mem_of_getElem? (i := 473) (by decide +kernel)⟩
def lw_privs_3 : List (MethodName × Nat) := [(⟨"AnswerSquare$Moment", "takeBack", "()Z"⟩, 11), (⟨"AnswerSquare$Moment", "openOnes", "()I"⟩, 11), (⟨"AnswerSquare$Moment", "farthest", "()I"⟩, 11), (⟨"AnswerSquare$Moment", "lastOpen", "()I"⟩, 11), (⟨"AnswerSquare$Moment", "firstAnswerers", "()I"⟩, 11), (⟨"AnswerSquare", "hoursToSilence", "()I"⟩, 11), (⟨"AnswerSquare$Duchy", "worthOf", "(I)I"⟩, 9), (⟨"AnswerSquare", "chainLength", "(II)I"⟩, 11), (⟨"AnswerSquare$Duchy", "answeredBy", "(I)I"⟩, 9), (⟨"AnswerSquare", "chainStep", "(III)I"⟩, 11), (⟨"AnswerSquare$Duchy", "hasAll", "(I)Z"⟩, 9), (⟨"AnswerSquare", "suffices", "(II)Z"⟩, 11), (⟨"AnswerSquare$Duchy", "reachable", "(I)I"⟩, 9), (⟨"AnswerSquare", "beginnings", "(I)I"⟩, 11), (⟨"AnswerSquare$Moment", "aheadOf", "(I)I"⟩, 11), (⟨"AnswerSquare", "waysTo", "(II)I"⟩, 11)]
theorem lw_r3 : ∀ q ∈ lw_privs_3, lw_okq q := List.forall_mem_cons.mpr ⟨lw_p32, List.forall_mem_cons.mpr ⟨lw_p33, List.forall_mem_cons.mpr ⟨lw_p34, List.forall_mem_cons.mpr ⟨lw_p35, List.forall_mem_cons.mpr ⟨lw_p36, List.forall_mem_cons.mpr ⟨lw_p37, List.forall_mem_cons.mpr ⟨lw_p38, List.forall_mem_cons.mpr ⟨lw_p39, List.forall_mem_cons.mpr ⟨lw_p40, List.forall_mem_cons.mpr ⟨lw_p41, List.forall_mem_cons.mpr ⟨lw_p42, List.forall_mem_cons.mpr ⟨lw_p43, List.forall_mem_cons.mpr ⟨lw_p44, List.forall_mem_cons.mpr ⟨lw_p45, List.forall_mem_cons.mpr ⟨lw_p46, List.forall_mem_cons.mpr ⟨lw_p47, fun _ h => absurd h List.not_mem_nil⟩⟩⟩⟩⟩⟩⟩⟩⟩⟩⟩⟩⟩⟩⟩⟩
theorem lw_p48 : lw_okq (⟨"AnswerSquare$Duchy", "canFollow", "(II)Z"⟩, 9) := ⟨⟨by decide +kernel, by decide +kernel⟩, List.mem_of_getElem? (i := 48) (by decide +kernel), List.mem_of_getElem? (i := 476) (by decide +kernel), List.mem_of_getElem? (i := 477) (by decide +kernel)⟩
theorem lw_p49 : lw_okq (⟨"AnswerSquare", "asSaying", "(I)I"⟩, 11) := ⟨⟨by decide +kernel, by decide +kernel⟩, List.mem_of_getElem? (i := 10) (by decide +kernel), List.mem_of_getElem? (i := 486) (by decide +kernel), List.mem_of_getElem? (i := 487) (by decide +kernel)⟩
theorem lw_p50 : lw_okq (⟨"AnswerSquare", "asCough", "(I)I"⟩, 11) := ⟨⟨by decide +kernel, by decide +kernel⟩, List.mem_of_getElem? (i := 10) (by decide +kernel), List.mem_of_getElem? (i := 490) (by decide +kernel), List.mem_of_getElem? (i := 491) (by decide +kernel)⟩
theorem lw_p51 : lw_okq (⟨"AnswerSquare$Duchy", "answersCount", "(I)I"⟩, 9) := ⟨⟨by decide +kernel, by decide +kernel⟩, List.mem_of_getElem? (i := 48) (by decide +kernel), List.mem_of_getElem? (i := 495) (by decide +kernel), List.mem_of_getElem? (i := 496) (by decide +kernel)⟩
theorem lw_p52 : lw_okq (⟨"AnswerSquare", "asBell", "(I)I"⟩, 11) := ⟨⟨by decide +kernel, by decide +kernel⟩, List.mem_of_getElem? (i := 10) (by decide +kernel), List.mem_of_getElem? (i := 500) (by decide +kernel), List.mem_of_getElem? (i := 501) (by decide +kernel)⟩
theorem lw_p53 : lw_okq (⟨"AnswerSquare", "asKnock", "(I)I"⟩, 11) := ⟨⟨by decide +kernel, by decide +kernel⟩, List.mem_of_getElem? (i := 10) (by decide +kernel), List.mem_of_getElem? (i := 505) (by decide +kernel), List.mem_of_getElem? (i := 506) (by decide +kernel)⟩
theorem lw_p54 : lw_okq (⟨"AnswerSquare", "asEcho", "(I)I"⟩, 11) := ⟨⟨by decide +kernel, by decide +kernel⟩, List.mem_of_getElem? (i := 10) (by decide +kernel), List.mem_of_getElem? (i := 510) (by decide +kernel), List.mem_of_getElem? (i := 511) (by decide +kernel)⟩
theorem lw_p55 : lw_okq (⟨"AnswerSquare", "asOwl", "(I)I"⟩, 11) := ⟨⟨by decide +kernel, by decide +kernel⟩, List.mem_of_getElem? (i := 10) (by decide +kernel), List.mem_of_getElem? (i := 515) (by decide +kernel), List.mem_of_getElem? (i := 516) (by decide +kernel)⟩
theorem lw_p56 : lw_okq (⟨"AnswerSquare", "imageOf", "(I)LAnswerSquare$Moment;"⟩, 11) := ⟨⟨by decide +kernel, by decide +kernel⟩, List.mem_of_getElem? (i := 10) (by decide +kernel), List.mem_of_getElem? (i := 524) (by decide +kernel), List.mem_of_getElem? (i := 525) (by decide +kernel)⟩
theorem lw_p57 : lw_okq (⟨"AnswerSquare$Moment", "become", "(LAnswerSquare$Moment;)V"⟩, 11) := ⟨⟨by decide +kernel, by decide +kernel⟩, List.mem_of_getElem? (i := 90) (by decide +kernel), List.mem_of_getElem? (i := 528) (by decide +kernel), List.mem_of_getElem? (i := 529) (by decide +kernel)⟩
theorem lw_p58 : lw_okq (⟨"AnswerSquareModel", "plain", "()V"⟩, 22) := ⟨⟨by decide +kernel, by decide +kernel⟩, List.mem_of_getElem? (i := 547) (by decide +kernel), List.mem_of_getElem? (i := 553) (by decide +kernel), List.mem_of_getElem? (i := 554) (by decide +kernel)⟩
theorem lw_p59 : lw_okq (⟨"AnswerSquareModel", "takeDraft", "()V"⟩, 22) := ⟨⟨by decide +kernel, by decide +kernel⟩, List.mem_of_getElem? (i := 547) (by decide +kernel), List.mem_of_getElem? (i := 557) (by decide +kernel), List.mem_of_getElem? (i := 558) (by decide +kernel)⟩
theorem lw_p60 : lw_okq (⟨"AnswerSquareModel", "step", "()V"⟩, 22) := ⟨⟨by decide +kernel, by decide +kernel⟩, List.mem_of_getElem? (i := 547) (by decide +kernel), List.mem_of_getElem? (i := 645) (by decide +kernel), List.mem_of_getElem? (i := 646) (by decide +kernel)⟩
theorem lw_p61 : lw_okq (⟨"AnswerSquareModel", "here", "()I"⟩, 22) := ⟨⟨by decide +kernel, by decide +kernel⟩, List.mem_of_getElem? (i := 547) (by decide +kernel), List.mem_of_getElem? (i := 649) (by decide +kernel), List.mem_of_getElem? (i := 650) (by decide +kernel)⟩
theorem lw_p62 : lw_okq (⟨"AnswerSquareModel", "mayBe", "(I)Z"⟩, 22) := ⟨⟨by decide +kernel, by decide +kernel⟩, List.mem_of_getElem? (i := 547) (by decide +kernel), List.mem_of_getElem? (i := 653) (by decide +kernel), List.mem_of_getElem? (i := 654) (by decide +kernel)⟩
theorem lw_p63 : lw_okq (⟨"AnswerSquareModel", "due", "(Z)I"⟩, 22) := ⟨⟨by decide +kernel, by decide +kernel⟩, List.mem_of_getElem? (i := 547) (by decide +kernel), List.mem_of_getElem? (i := 657) (by decide +kernel), List.mem_of_getElem? (i := 658) (by decide +kernel)⟩
def lw_privs_4 : List (MethodName × Nat) := [(⟨"AnswerSquare$Duchy", "canFollow", "(II)Z"⟩, 9), (⟨"AnswerSquare", "asSaying", "(I)I"⟩, 11), (⟨"AnswerSquare", "asCough", "(I)I"⟩, 11), (⟨"AnswerSquare$Duchy", "answersCount", "(I)I"⟩, 9), (⟨"AnswerSquare", "asBell", "(I)I"⟩, 11), (⟨"AnswerSquare", "asKnock", "(I)I"⟩, 11), (⟨"AnswerSquare", "asEcho", "(I)I"⟩, 11), (⟨"AnswerSquare", "asOwl", "(I)I"⟩, 11), (⟨"AnswerSquare", "imageOf", "(I)LAnswerSquare$Moment;"⟩, 11), (⟨"AnswerSquare$Moment", "become", "(LAnswerSquare$Moment;)V"⟩, 11), (⟨"AnswerSquareModel", "plain", "()V"⟩, 22), (⟨"AnswerSquareModel", "takeDraft", "()V"⟩, 22), (⟨"AnswerSquareModel", "step", "()V"⟩, 22), (⟨"AnswerSquareModel", "here", "()I"⟩, 22), (⟨"AnswerSquareModel", "mayBe", "(I)Z"⟩, 22), (⟨"AnswerSquareModel", "due", "(Z)I"⟩, 22)]
theorem lw_r4 : ∀ q ∈ lw_privs_4, lw_okq q := List.forall_mem_cons.mpr ⟨lw_p48, List.forall_mem_cons.mpr ⟨lw_p49, List.forall_mem_cons.mpr ⟨lw_p50, List.forall_mem_cons.mpr ⟨lw_p51, List.forall_mem_cons.mpr ⟨lw_p52, List.forall_mem_cons.mpr ⟨lw_p53, List.forall_mem_cons.mpr ⟨lw_p54, List.forall_mem_cons.mpr ⟨lw_p55, List.forall_mem_cons.mpr ⟨lw_p56, List.forall_mem_cons.mpr ⟨lw_p57, List.forall_mem_cons.mpr ⟨lw_p58, List.forall_mem_cons.mpr ⟨lw_p59, List.forall_mem_cons.mpr ⟨lw_p60, List.forall_mem_cons.mpr ⟨lw_p61, List.forall_mem_cons.mpr ⟨lw_p62, List.forall_mem_cons.mpr ⟨lw_p63, fun _ h => absurd h List.not_mem_nil⟩⟩⟩⟩⟩⟩⟩⟩⟩⟩⟩⟩⟩⟩⟩⟩
theorem lw_p64 : lw_okq (⟨"AnswerSquareModel", "readRow", "(I)V"⟩, 22) := ⟨⟨by decide +kernel, by decide +kernel⟩, List.mem_of_getElem? (i := 547) (by decide +kernel), List.mem_of_getElem? (i := 661) (by decide +kernel), List.mem_of_getElem? (i := 662) (by decide +kernel)⟩
theorem lw_p65 : lw_okq (⟨"AnswerSquareModel", "number", "(II)I"⟩, 22) := ⟨⟨by decide +kernel, by decide +kernel⟩, List.mem_of_getElem? (i := 547) (by decide +kernel), List.mem_of_getElem? (i := 665) (by decide +kernel), List.mem_of_getElem? (i := 666) (by decide +kernel)⟩
theorem lw_p66 : lw_okq (⟨"AnswerSquareModel", "readSet", "()I"⟩, 22) := ⟨⟨by decide +kernel, by decide +kernel⟩, List.mem_of_getElem? (i := 547) (by decide +kernel), List.mem_of_getElem? (i := 669) (by decide +kernel), List.mem_of_getElem? (i := 670) (by decide +kernel)⟩
theorem lw_p67 : lw_okq (⟨"AnswerSquareModel", "isSaying", "(I)Z"⟩, 22) := ⟨⟨by decide +kernel, by decide +kernel⟩, List.mem_of_getElem? (i := 547) (by decide +kernel), List.mem_of_getElem? (i := 677) (by decide +kernel), List.mem_of_getElem? (i := 678) (by decide +kernel)⟩
theorem lw_p68 : lw_okq (⟨"AnswerSquareModel", "isSound", "(I)Z"⟩, 22) := ⟨⟨by decide +kernel, by decide +kernel⟩, List.mem_of_getElem? (i := 547) (by decide +kernel), List.mem_of_getElem? (i := 681) (by decide +kernel), List.mem_of_getElem? (i := 682) (by decide +kernel)⟩
theorem lw_p69 : lw_okq (⟨"AnswerSquareModel", "knownBy", "(I)I"⟩, 22) := ⟨⟨by decide +kernel, by decide +kernel⟩, List.mem_of_getElem? (i := 547) (by decide +kernel), List.mem_of_getElem? (i := 685) (by decide +kernel), List.mem_of_getElem? (i := 686) (by decide +kernel)⟩
theorem lw_p70 : lw_okq (⟨"AnswerSquareModel", "oftenOf", "(I)I"⟩, 22) := ⟨⟨by decide +kernel, by decide +kernel⟩, List.mem_of_getElem? (i := 547) (by decide +kernel), List.mem_of_getElem? (i := 689) (by decide +kernel), List.mem_of_getElem? (i := 690) (by decide +kernel)⟩
theorem lw_p71 : lw_okq (⟨"AnswerSquareModel", "isPerson", "(I)Z"⟩, 22) := ⟨⟨by decide +kernel, by decide +kernel⟩, List.mem_of_getElem? (i := 547) (by decide +kernel), List.mem_of_getElem? (i := 697) (by decide +kernel), List.mem_of_getElem? (i := 698) (by decide +kernel)⟩
theorem lw_p72 : lw_okq (⟨"AnswerSquareModel", "there", "(I)I"⟩, 22) := ⟨⟨by decide +kernel, by decide +kernel⟩, List.mem_of_getElem? (i := 547) (by decide +kernel), List.mem_of_getElem? (i := 701) (by decide +kernel), List.mem_of_getElem? (i := 702) (by decide +kernel)⟩
theorem lw_p73 : lw_okq (⟨"AnswerSquareModel", "isThere", "(II)Z"⟩, 22) := ⟨⟨by decide +kernel, by decide +kernel⟩, List.mem_of_getElem? (i := 547) (by decide +kernel), List.mem_of_getElem? (i := 705) (by decide +kernel), List.mem_of_getElem? (i := 706) (by decide +kernel)⟩
theorem lw_p74 : lw_okq (⟨"AnswerSquareModel", "mayOf", "(II)I"⟩, 22) := ⟨⟨by decide +kernel, by decide +kernel⟩, List.mem_of_getElem? (i := 547) (by decide +kernel), List.mem_of_getElem? (i := 709) (by decide +kernel), List.mem_of_getElem? (i := 710) (by decide +kernel)⟩
theorem lw_p75 : lw_okq (⟨"AnswerSquareModel", "rootOf", "(I)I"⟩, 22) := ⟨⟨by decide +kernel, by decide +kernel⟩, List.mem_of_getElem? (i := 547) (by decide +kernel), List.mem_of_getElem? (i := 717) (by decide +kernel), List.mem_of_getElem? (i := 718) (by decide +kernel)⟩
theorem lw_p76 : lw_okq (⟨"AnswerSquareModel", "farOf", "(I)I"⟩, 22) := ⟨⟨by decide +kernel, by decide +kernel⟩, List.mem_of_getElem? (i := 547) (by decide +kernel), List.mem_of_getElem? (i := 721) (by decide +kernel), List.mem_of_getElem? (i := 722) (by decide +kernel)⟩
theorem lw_p77 : lw_okq (⟨"AnswerSquareModel", "firstAnswer", "(I)I"⟩, 22) := ⟨⟨by decide +kernel, by decide +kernel⟩, List.mem_of_getElem? (i := 547) (by decide +kernel), List.mem_of_getElem? (i := 725) (by decide +kernel), List.mem_of_getElem? (i := 726) (by decide +kernel)⟩
theorem lw_p78 : lw_okq (⟨"AnswerSquareModel", "add", "(III)V"⟩, 22) := ⟨⟨by decide +kernel, by decide +kernel⟩, List.mem_of_getElem? (i := 547) (by decide +kernel), List.mem_of_getElem? (i := 733) (by decide +kernel), List.mem_of_getElem? (i := 734) (by decide +kernel)⟩
theorem lw_p79 : lw_okq (⟨"AnswerSquareModel", "know", "()V"⟩, 22) := ⟨⟨by decide +kernel, by decide +kernel⟩, List.mem_of_getElem? (i := 547) (by decide +kernel), List.mem_of_getElem? (i := 737) (by decide +kernel), List.mem_of_getElem? (i := 738) (by decide +kernel)⟩
def lw_privs_5 : List (MethodName × Nat) := [(⟨"AnswerSquareModel", "readRow", "(I)V"⟩, 22), (⟨"AnswerSquareModel", "number", "(II)I"⟩, 22), (⟨"AnswerSquareModel", "readSet", "()I"⟩, 22), (⟨"AnswerSquareModel", "isSaying", "(I)Z"⟩, 22), (⟨"AnswerSquareModel", "isSound", "(I)Z"⟩, 22), (⟨"AnswerSquareModel", "knownBy", "(I)I"⟩, 22), (⟨"AnswerSquareModel", "oftenOf", "(I)I"⟩, 22), (⟨"AnswerSquareModel", "isPerson", "(I)Z"⟩, 22), (⟨"AnswerSquareModel", "there", "(I)I"⟩, 22), (⟨"AnswerSquareModel", "isThere", "(II)Z"⟩, 22), (⟨"AnswerSquareModel", "mayOf", "(II)I"⟩, 22), (⟨"AnswerSquareModel", "rootOf", "(I)I"⟩, 22), (⟨"AnswerSquareModel", "farOf", "(I)I"⟩, 22), (⟨"AnswerSquareModel", "firstAnswer", "(I)I"⟩, 22), (⟨"AnswerSquareModel", "add", "(III)V"⟩, 22), (⟨"AnswerSquareModel", "know", "()V"⟩, 22)]
theorem lw_r5 : ∀ q ∈ lw_privs_5, lw_okq q := List.forall_mem_cons.mpr ⟨lw_p64, List.forall_mem_cons.mpr ⟨lw_p65, List.forall_mem_cons.mpr ⟨lw_p66, List.forall_mem_cons.mpr ⟨lw_p67, List.forall_mem_cons.mpr ⟨lw_p68, List.forall_mem_cons.mpr ⟨lw_p69, List.forall_mem_cons.mpr ⟨lw_p70, List.forall_mem_cons.mpr ⟨lw_p71, List.forall_mem_cons.mpr ⟨lw_p72, List.forall_mem_cons.mpr ⟨lw_p73, List.forall_mem_cons.mpr ⟨lw_p74, List.forall_mem_cons.mpr ⟨lw_p75, List.forall_mem_cons.mpr ⟨lw_p76, List.forall_mem_cons.mpr ⟨lw_p77, List.forall_mem_cons.mpr ⟨lw_p78, List.forall_mem_cons.mpr ⟨lw_p79, fun _ h => absurd h List.not_mem_nil⟩⟩⟩⟩⟩⟩⟩⟩⟩⟩⟩⟩⟩⟩⟩⟩
theorem lw_p80 : lw_okq (⟨"AnswerSquareModel", "farthest", "()I"⟩, 22) := ⟨⟨by decide +kernel, by decide +kernel⟩, List.mem_of_getElem? (i := 547) (by decide +kernel), List.mem_of_getElem? (i := 757) (by decide +kernel), List.mem_of_getElem? (i := 758) (by decide +kernel)⟩
theorem lw_p81 : lw_okq (⟨"AnswerSquareModel", "silent", "()I"⟩, 22) := ⟨⟨by decide +kernel, by decide +kernel⟩, List.mem_of_getElem? (i := 547) (by decide +kernel), List.mem_of_getElem? (i := 761) (by decide +kernel), List.mem_of_getElem? (i := 762) (by decide +kernel)⟩
theorem lw_p82 : lw_okq (⟨"AnswerSquareModel", "chainOf", "(II)I"⟩, 22) := ⟨⟨by decide +kernel, by decide +kernel⟩, List.mem_of_getElem? (i := 547) (by decide +kernel), List.mem_of_getElem? (i := 773) (by decide +kernel), List.mem_of_getElem? (i := 774) (by decide +kernel)⟩
theorem lw_p83 : lw_okq (⟨"AnswerSquareModel", "nextOf", "(I)I"⟩, 22) := ⟨⟨by decide +kernel, by decide +kernel⟩, List.mem_of_getElem? (i := 547) (by decide +kernel), List.mem_of_getElem? (i := 777) (by decide +kernel), List.mem_of_getElem? (i := 778) (by decide +kernel)⟩
theorem lw_p84 : lw_okq (⟨"AnswerSquareModel", "sayable", "()I"⟩, 22) := ⟨⟨by decide +kernel, by decide +kernel⟩, List.mem_of_getElem? (i := 547) (by decide +kernel), List.mem_of_getElem? (i := 781) (by decide +kernel), List.mem_of_getElem? (i := 782) (by decide +kernel)⟩
theorem lw_p85 : lw_okq (⟨"AnswerSquareModel", "reach", "(I)I"⟩, 22) := ⟨⟨by decide +kernel, by decide +kernel⟩, List.mem_of_getElem? (i := 547) (by decide +kernel), List.mem_of_getElem? (i := 792) (by decide +kernel), List.mem_of_getElem? (i := 793) (by decide +kernel)⟩
theorem lw_p86 : lw_okq (⟨"AnswerSquareModel", "firstOf", "(I)I"⟩, 22) := ⟨⟨by decide +kernel, by decide +kernel⟩, List.mem_of_getElem? (i := 547) (by decide +kernel), List.mem_of_getElem? (i := 816) (by decide +kernel), List.mem_of_getElem? (i := 817) (by decide +kernel)⟩
theorem lw_p87 : lw_okq (⟨"AnswerSquareModel", "canCome", "(III)Z"⟩, 22) := ⟨⟨by decide +kernel, by decide +kernel⟩, List.mem_of_getElem? (i := 547) (by decide +kernel), List.mem_of_getElem? (i := 824) (by decide +kernel), List.mem_of_getElem? (i := 825) (by decide +kernel)⟩
def lw_privs_6 : List (MethodName × Nat) := [(⟨"AnswerSquareModel", "farthest", "()I"⟩, 22), (⟨"AnswerSquareModel", "silent", "()I"⟩, 22), (⟨"AnswerSquareModel", "chainOf", "(II)I"⟩, 22), (⟨"AnswerSquareModel", "nextOf", "(I)I"⟩, 22), (⟨"AnswerSquareModel", "sayable", "()I"⟩, 22), (⟨"AnswerSquareModel", "reach", "(I)I"⟩, 22), (⟨"AnswerSquareModel", "firstOf", "(I)I"⟩, 22), (⟨"AnswerSquareModel", "canCome", "(III)Z"⟩, 22)]
theorem lw_r6 : ∀ q ∈ lw_privs_6, lw_okq q := List.forall_mem_cons.mpr ⟨lw_p80, List.forall_mem_cons.mpr ⟨lw_p81, List.forall_mem_cons.mpr ⟨lw_p82, List.forall_mem_cons.mpr ⟨lw_p83, List.forall_mem_cons.mpr ⟨lw_p84, List.forall_mem_cons.mpr ⟨lw_p85, List.forall_mem_cons.mpr ⟨lw_p86, List.forall_mem_cons.mpr ⟨lw_p87, fun _ h => absurd h List.not_mem_nil⟩⟩⟩⟩⟩⟩⟩⟩
def lw_privs : List (MethodName × Nat) := lw_privs_1 ++ (lw_privs_2 ++ (lw_privs_3 ++ (lw_privs_4 ++ (lw_privs_5 ++ (lw_privs_6)))))
def lw_tbl : List Cond := k2_sels lw_privs ++ tables_1
theorem lw_privs_ok : ∀ q ∈ lw_privs, lw_okq q := by
  show ∀ q ∈ lw_privs_1 ++ (lw_privs_2 ++ (lw_privs_3 ++ (lw_privs_4 ++ (lw_privs_5 ++ (lw_privs_6))))), lw_okq q
  exact List.forall_mem_append.mpr ⟨lw_r1, List.forall_mem_append.mpr ⟨lw_r2, List.forall_mem_append.mpr ⟨lw_r3, List.forall_mem_append.mpr ⟨lw_r4, List.forall_mem_append.mpr ⟨lw_r5, lw_r6⟩⟩⟩⟩⟩
-- ===== end of PART A; then your names; then what follows =====
end
section
def RX0 : String := "AnswerSquare$Duchy"
def TX0 : u_T := fun k => match k with
  | 0 => ("AnswerSquare$Duchy", "worthy", "[I", true)
  | 1 => ("AnswerSquare$Duchy", "answers", "[I", true)
  | 2 => ("AnswerSquare$Duchy", "knows", "[I", true)
  | 3 => ("AnswerSquare$Duchy", "sayings", "I", false)
  | 4 => ("AnswerSquare$Duchy", "people", "I", false)
  | 5 => ("AnswerSquare$Duchy", "old", "I", false)
  | 6 => ("AnswerSquare$Duchy", "oldIsTold", "Z", false)
  | 7 => ("AnswerSquare$Duchy", "soundBits", "I", false)
  | _ => ("AnswerSquare$Duchy", "sayable", "I", false)
def tyX0 : Nat → FieldType := fun k => match k with
  | 0 => .array .int
  | 1 => .array .int
  | 2 => .array .int
  | 3 => .int
  | 4 => .int
  | 5 => .int
  | 6 => .boolean
  | 7 => .int
  | _ => .int
theorem nmX0 : ∀ a, a < 9 → ∀ b, b < 9 → a ≠ b → (TX0 a).2.1 ≠ (TX0 b).2.1 := by decide +kernel
theorem tyX0_ok : ∀ k, k < 9 → parseFieldDescriptor (TX0 k).2.2.1 = some (tyX0 k) := by decide +kernel
abbrev cX0_init : ByteArray := prog_2_method_1_code
def yX0_init : MethodName := ⟨RX0, "<init>", "()V"⟩
abbrev cX0_readFrom : ByteArray := prog_2_method_2_code
def yX0_readFrom : MethodName := ⟨RX0, "readFrom", "(LAnswerSquare$Text;)I"⟩
abbrev cX0_readItem : ByteArray := prog_2_method_3_code
def yX0_readItem : MethodName := ⟨RX0, "readItem", "(LAnswerSquare$Text;)Z"⟩
abbrev cX0_hasRoomFor : ByteArray := prog_2_method_4_code
def yX0_hasRoomFor : MethodName := ⟨RX0, "hasRoomFor", "(I)Z"⟩
abbrev cX0_readNumbers : ByteArray := prog_2_method_5_code
def yX0_readNumbers : MethodName := ⟨RX0, "readNumbers", "(LAnswerSquare$Text;I)I"⟩
abbrev cX0_take : ByteArray := prog_2_method_6_code
def yX0_take : MethodName := ⟨RX0, "take", "(III)V"⟩
abbrev cX0_settle : ByteArray := prog_2_method_7_code
def yX0_settle : MethodName := ⟨RX0, "settle", "()V"⟩
abbrev cX0_hasSaying : ByteArray := prog_2_method_8_code
def yX0_hasSaying : MethodName := ⟨RX0, "hasSaying", "(I)Z"⟩
abbrev cX0_hasPerson : ByteArray := prog_2_method_9_code
def yX0_hasPerson : MethodName := ⟨RX0, "hasPerson", "(I)Z"⟩
abbrev cX0_hasAll : ByteArray := prog_2_method_10_code
def yX0_hasAll : MethodName := ⟨RX0, "hasAll", "(I)Z"⟩
abbrev cX0_isSound : ByteArray := prog_2_method_11_code
def yX0_isSound : MethodName := ⟨RX0, "isSound", "(I)Z"⟩
abbrev cX0_worthOf : ByteArray := prog_2_method_12_code
def yX0_worthOf : MethodName := ⟨RX0, "worthOf", "(I)I"⟩
abbrev cX0_answersCount : ByteArray := prog_2_method_13_code
def yX0_answersCount : MethodName := ⟨RX0, "answersCount", "(I)I"⟩
abbrev cX0_knowers : ByteArray := prog_2_method_14_code
def yX0_knowers : MethodName := ⟨RX0, "knowers", "(I)I"⟩
abbrev cX0_answering : ByteArray := prog_2_method_15_code
def yX0_answering : MethodName := ⟨RX0, "answering", "(I)I"⟩
abbrev cX0_canAnswer : ByteArray := prog_2_method_16_code
def yX0_canAnswer : MethodName := ⟨RX0, "canAnswer", "(II)Z"⟩
abbrev cX0_answeredBy : ByteArray := prog_2_method_17_code
def yX0_answeredBy : MethodName := ⟨RX0, "answeredBy", "(I)I"⟩
abbrev cX0_reachable : ByteArray := prog_2_method_18_code
def yX0_reachable : MethodName := ⟨RX0, "reachable", "(I)I"⟩
abbrev cX0_canFollow : ByteArray := prog_2_method_19_code
def yX0_canFollow : MethodName := ⟨RX0, "canFollow", "(II)Z"⟩
def RX1 : String := "AnswerSquare$Moment"
def TX1 : u_T := fun k => match k with
  | 0 => ("AnswerSquare$Moment", "which", "[I", true)
  | 1 => ("AnswerSquare$Moment", "at", "[I", true)
  | 2 => ("AnswerSquare$Moment", "by", "[I", true)
  | 3 => ("AnswerSquare$Moment", "to", "[I", true)
  | 4 => ("AnswerSquare$Moment", "root", "[I", true)
  | 5 => ("AnswerSquare$Moment", "far", "[I", true)
  | 6 => ("AnswerSquare$Moment", "size", "I", false)
  | 7 => ("AnswerSquare$Moment", "clock", "I", false)
  | 8 => ("AnswerSquare$Moment", "undoable", "I", false)
  | 9 => ("AnswerSquare$Moment", "hourBits", "I", false)
  | _ => ("AnswerSquare$Moment", "kept", "Z", false)
def tyX1 : Nat → FieldType := fun k => match k with
  | 0 => .array .int
  | 1 => .array .int
  | 2 => .array .int
  | 3 => .array .int
  | 4 => .array .int
  | 5 => .array .int
  | 6 => .int
  | 7 => .int
  | 8 => .int
  | 9 => .int
  | _ => .boolean
theorem nmX1 : ∀ a, a < 11 → ∀ b, b < 11 → a ≠ b → (TX1 a).2.1 ≠ (TX1 b).2.1 := by decide +kernel
theorem tyX1_ok : ∀ k, k < 11 → parseFieldDescriptor (TX1 k).2.2.1 = some (tyX1 k) := by decide +kernel
abbrev cX1_init : ByteArray := prog_3_method_1_code
def yX1_init : MethodName := ⟨RX1, "<init>", "()V"⟩
abbrev cX1_reset : ByteArray := prog_3_method_2_code
def yX1_reset : MethodName := ⟨RX1, "reset", "()V"⟩
abbrev cX1_become : ByteArray := prog_3_method_3_code
def yX1_become : MethodName := ⟨RX1, "become", "(LAnswerSquare$Moment;)V"⟩
abbrev cX1_has : ByteArray := prog_3_method_4_code
def yX1_has : MethodName := ⟨RX1, "has", "(I)Z"⟩
abbrev cX1_add : ByteArray := prog_3_method_5_code
def yX1_add : MethodName := ⟨RX1, "add", "(III)Z"⟩
abbrev cX1_passHour : ByteArray := prog_3_method_6_code
def yX1_passHour : MethodName := ⟨RX1, "passHour", "()Z"⟩
abbrev cX1_remember : ByteArray := prog_3_method_7_code
def yX1_remember : MethodName := ⟨RX1, "remember", "(I)V"⟩
abbrev cX1_takeBack : ByteArray := prog_3_method_8_code
def yX1_takeBack : MethodName := ⟨RX1, "takeBack", "()Z"⟩
abbrev cX1_timesIn : ByteArray := prog_3_method_9_code
def yX1_timesIn : MethodName := ⟨RX1, "timesIn", "(I)I"⟩
abbrev cX1_timesBy : ByteArray := prog_3_method_10_code
def yX1_timesBy : MethodName := ⟨RX1, "timesBy", "(I)I"⟩
abbrev cX1_isOpen : ByteArray := prog_3_method_11_code
def yX1_isOpen : MethodName := ⟨RX1, "isOpen", "(I)Z"⟩
abbrev cX1_firstAnswerTo : ByteArray := prog_3_method_12_code
def yX1_firstAnswerTo : MethodName := ⟨RX1, "firstAnswerTo", "(I)I"⟩
abbrev cX1_isThere : ByteArray := prog_3_method_13_code
def yX1_isThere : MethodName := ⟨RX1, "isThere", "(III)Z"⟩
abbrev cX1_there : ByteArray := prog_3_method_14_code
def yX1_there : MethodName := ⟨RX1, "there", "(II)I"⟩
abbrev cX1_latestOf : ByteArray := prog_3_method_15_code
def yX1_latestOf : MethodName := ⟨RX1, "latestOf", "(II)I"⟩
abbrev cX1_openOnes : ByteArray := prog_3_method_16_code
def yX1_openOnes : MethodName := ⟨RX1, "openOnes", "()I"⟩
abbrev cX1_lastOpen : ByteArray := prog_3_method_17_code
def yX1_lastOpen : MethodName := ⟨RX1, "lastOpen", "()I"⟩
abbrev cX1_farthest : ByteArray := prog_3_method_18_code
def yX1_farthest : MethodName := ⟨RX1, "farthest", "()I"⟩
abbrev cX1_firstAnswerers : ByteArray := prog_3_method_19_code
def yX1_firstAnswerers : MethodName := ⟨RX1, "firstAnswerers", "()I"⟩
abbrev cX1_aheadOf : ByteArray := prog_3_method_20_code
def yX1_aheadOf : MethodName := ⟨RX1, "aheadOf", "(I)I"⟩
def RX2 : String := "AnswerSquare$Text"
def TX2 : u_T := fun k => match k with
  | 0 => ("AnswerSquare$Text", "bytes", "[I", true)
  | 1 => ("AnswerSquare$Text", "length", "I", false)
  | 2 => ("AnswerSquare$Text", "token", "I", false)
  | 3 => ("AnswerSquare$Text", "start", "I", false)
  | 4 => ("AnswerSquare$Text", "behind", "I", false)
  | _ => ("AnswerSquare$Text", "value", "I", false)
def tyX2 : Nat → FieldType := fun k => match k with
  | 0 => .array .int
  | 1 => .int
  | 2 => .int
  | 3 => .int
  | 4 => .int
  | _ => .int
theorem nmX2 : ∀ a, a < 6 → ∀ b, b < 6 → a ≠ b → (TX2 a).2.1 ≠ (TX2 b).2.1 := by decide +kernel
theorem tyX2_ok : ∀ k, k < 6 → parseFieldDescriptor (TX2 k).2.2.1 = some (tyX2 k) := by decide +kernel
abbrev cX2_init : ByteArray := prog_4_method_1_code
def yX2_init : MethodName := ⟨RX2, "<init>", "()V"⟩
abbrev cX2_put : ByteArray := prog_4_method_2_code
def yX2_put : MethodName := ⟨RX2, "put", "(I)Z"⟩
abbrev cX2_rewind : ByteArray := prog_4_method_3_code
def yX2_rewind : MethodName := ⟨RX2, "rewind", "()V"⟩
abbrev cX2_advance : ByteArray := prog_4_method_4_code
def yX2_advance : MethodName := ⟨RX2, "advance", "()V"⟩
abbrev cX2_takeWord : ByteArray := prog_4_method_5_code
def yX2_takeWord : MethodName := ⟨RX2, "takeWord", "(I)V"⟩
abbrev cX2_takeNumber : ByteArray := prog_4_method_6_code
def yX2_takeNumber : MethodName := ⟨RX2, "takeNumber", "(I)V"⟩
abbrev cX2_byteAt : ByteArray := prog_4_method_7_code
def yX2_byteAt : MethodName := ⟨RX2, "byteAt", "(I)I"⟩
abbrev cX2_isNumber : ByteArray := prog_4_method_8_code
def yX2_isNumber : MethodName := ⟨RX2, "isNumber", "(II)Z"⟩
abbrev cX2_isLetter : ByteArray := prog_4_method_9_code
def yX2_isLetter : MethodName := ⟨RX2, "isLetter", "(I)Z"⟩
abbrev cX2_isDigit : ByteArray := prog_4_method_10_code
def yX2_isDigit : MethodName := ⟨RX2, "isDigit", "(I)Z"⟩
def RX3 : String := "AnswerSquare"
def TX3 : u_T := fun k => match k with
  | 0 => ("AnswerSquare", "text", "LAnswerSquare$Text;", true)
  | 1 => ("AnswerSquare", "told", "LAnswerSquare$Duchy;", false)
  | 2 => ("AnswerSquare", "spare", "LAnswerSquare$Duchy;", false)
  | 3 => ("AnswerSquare", "present", "LAnswerSquare$Moment;", true)
  | 4 => ("AnswerSquare", "firstImage", "LAnswerSquare$Moment;", true)
  | 5 => ("AnswerSquare", "secondImage", "LAnswerSquare$Moment;", true)
  | 6 => ("AnswerSquare", "toldAhead", "[I", true)
  | 7 => ("AnswerSquare", "toldCount", "I", false)
  | 8 => ("AnswerSquare", "layers", "[I", true)
  | 9 => ("AnswerSquare", "ways", "[I", true)
  | _ => ("AnswerSquare", "traced", "J", false)
def tyX3 : Nat → FieldType := fun k => match k with
  | 0 => .object "AnswerSquare$Text"
  | 1 => .object "AnswerSquare$Duchy"
  | 2 => .object "AnswerSquare$Duchy"
  | 3 => .object "AnswerSquare$Moment"
  | 4 => .object "AnswerSquare$Moment"
  | 5 => .object "AnswerSquare$Moment"
  | 6 => .array .int
  | 7 => .int
  | 8 => .array .int
  | 9 => .array .int
  | _ => .long
theorem nmX3 : ∀ a, a < 11 → ∀ b, b < 11 → a ≠ b → (TX3 a).2.1 ≠ (TX3 b).2.1 := by decide +kernel
theorem tyX3_ok : ∀ k, k < 11 → parseFieldDescriptor (TX3 k).2.2.1 = some (tyX3 k) := by decide +kernel
abbrev cX3_init : ByteArray := prog_1_method_1_code
def yX3_init : MethodName := ⟨RX3, "<init>", "()V"⟩
abbrev cX3_type : ByteArray := prog_1_method_2_code
def yX3_type : MethodName := ⟨RX3, "type", "(I)I"⟩
abbrev cX3_clear : ByteArray := prog_1_method_3_code
def yX3_clear : MethodName := ⟨RX3, "clear", "()I"⟩
abbrev cX3_duchy : ByteArray := prog_1_method_4_code
def yX3_duchy : MethodName := ⟨RX3, "duchy", "()I"⟩
abbrev cX3_saying : ByteArray := prog_1_method_5_code
def yX3_saying : MethodName := ⟨RX3, "saying", "(II)I"⟩
abbrev cX3_person : ByteArray := prog_1_method_6_code
def yX3_person : MethodName := ⟨RX3, "person", "(II)I"⟩
abbrev cX3_talk : ByteArray := prog_1_method_7_code
def yX3_talk : MethodName := ⟨RX3, "talk", "(II)I"⟩
abbrev cX3_hears : ByteArray := prog_1_method_8_code
def yX3_hears : MethodName := ⟨RX3, "hears", "(I)I"⟩
abbrev cX3_says : ByteArray := prog_1_method_9_code
def yX3_says : MethodName := ⟨RX3, "says", "(II)I"⟩
abbrev cX3_hour : ByteArray := prog_1_method_10_code
def yX3_hour : MethodName := ⟨RX3, "hour", "()I"⟩
abbrev cX3_undo : ByteArray := prog_1_method_11_code
def yX3_undo : MethodName := ⟨RX3, "undo", "()I"⟩
abbrev cX3_now : ByteArray := prog_1_method_12_code
def yX3_now : MethodName := ⟨RX3, "now", "(I)I"⟩
abbrev cX3_worth : ByteArray := prog_1_method_13_code
def yX3_worth : MethodName := ⟨RX3, "worth", "(I)I"⟩
abbrev cX3_thereNow : ByteArray := prog_1_method_14_code
def yX3_thereNow : MethodName := ⟨RX3, "thereNow", "()I"⟩
abbrev cX3_hoursToSilence : ByteArray := prog_1_method_15_code
def yX3_hoursToSilence : MethodName := ⟨RX3, "hoursToSilence", "()I"⟩
abbrev cX3_chain : ByteArray := prog_1_method_16_code
def yX3_chain : MethodName := ⟨RX3, "chain", "(II)I"⟩
abbrev cX3_chainLength : ByteArray := prog_1_method_17_code
def yX3_chainLength : MethodName := ⟨RX3, "chainLength", "(II)I"⟩
abbrev cX3_chainStep : ByteArray := prog_1_method_18_code
def yX3_chainStep : MethodName := ⟨RX3, "chainStep", "(III)I"⟩
abbrev cX3_lowest : ByteArray := prog_1_method_19_code
def yX3_lowest : MethodName := ⟨RX3, "lowest", "(I)I"⟩
abbrev cX3_sounds : ByteArray := prog_1_method_20_code
def yX3_sounds : MethodName := ⟨RX3, "sounds", "(I)I"⟩
abbrev cX3_began : ByteArray := prog_1_method_21_code
def yX3_began : MethodName := ⟨RX3, "began", "(I)I"⟩
abbrev cX3_beginnings : ByteArray := prog_1_method_22_code
def yX3_beginnings : MethodName := ⟨RX3, "beginnings", "(I)I"⟩
abbrev cX3_suffices : ByteArray := prog_1_method_23_code
def yX3_suffices : MethodName := ⟨RX3, "suffices", "(II)Z"⟩
abbrev cX3_odds : ByteArray := prog_1_method_24_code
def yX3_odds : MethodName := ⟨RX3, "odds", "(III)I"⟩
abbrev cX3_commonDivisor : ByteArray := prog_1_method_25_code
def yX3_commonDivisor : MethodName := ⟨RX3, "commonDivisor", "(II)I"⟩
abbrev cX3_tells : ByteArray := prog_1_method_26_code
def yX3_tells : MethodName := ⟨RX3, "tells", "(II)I"⟩
abbrev cX3_forget : ByteArray := prog_1_method_27_code
def yX3_forget : MethodName := ⟨RX3, "forget", "()I"⟩
abbrev cX3_tellNothing : ByteArray := prog_1_method_28_code
def yX3_tellNothing : MethodName := ⟨RX3, "tellNothing", "()V"⟩
abbrev cX3_fits : ByteArray := prog_1_method_29_code
def yX3_fits : MethodName := ⟨RX3, "fits", "()I"⟩
abbrev cX3_orders : ByteArray := prog_1_method_30_code
def yX3_orders : MethodName := ⟨RX3, "orders", "(I)I"⟩
abbrev cX3_waysTo : ByteArray := prog_1_method_31_code
def yX3_waysTo : MethodName := ⟨RX3, "waysTo", "(II)I"⟩
abbrev cX3_mark : ByteArray := prog_1_method_32_code
def yX3_mark : MethodName := ⟨RX3, "mark", "(II)I"⟩
abbrev cX3_asSaying : ByteArray := prog_1_method_33_code
def yX3_asSaying : MethodName := ⟨RX3, "asSaying", "(I)I"⟩
abbrev cX3_asCough : ByteArray := prog_1_method_34_code
def yX3_asCough : MethodName := ⟨RX3, "asCough", "(I)I"⟩
abbrev cX3_asBell : ByteArray := prog_1_method_35_code
def yX3_asBell : MethodName := ⟨RX3, "asBell", "(I)I"⟩
abbrev cX3_asKnock : ByteArray := prog_1_method_36_code
def yX3_asKnock : MethodName := ⟨RX3, "asKnock", "(I)I"⟩
abbrev cX3_asEcho : ByteArray := prog_1_method_37_code
def yX3_asEcho : MethodName := ⟨RX3, "asEcho", "(I)I"⟩
abbrev cX3_asOwl : ByteArray := prog_1_method_38_code
def yX3_asOwl : MethodName := ⟨RX3, "asOwl", "(I)I"⟩
abbrev cX3_keep : ByteArray := prog_1_method_39_code
def yX3_keep : MethodName := ⟨RX3, "keep", "(I)I"⟩
abbrev cX3_back : ByteArray := prog_1_method_40_code
def yX3_back : MethodName := ⟨RX3, "back", "(I)I"⟩
abbrev cX3_imageOf : ByteArray := prog_1_method_41_code
def yX3_imageOf : MethodName := ⟨RX3, "imageOf", "(I)LAnswerSquare$Moment;"⟩
abbrev cX3_count : ByteArray := prog_1_method_42_code
def yX3_count : MethodName := ⟨RX3, "count", "(I)I"⟩
abbrev cX3_trace : ByteArray := prog_1_method_43_code
def yX3_trace : MethodName := ⟨RX3, "trace", "()J"⟩
def RX4 : String := "AnswerSquareModel"
def TX4 : u_T := fun k => match k with
  | 0 => ("AnswerSquareModel", "trace", "J", false)
  | 1 => ("AnswerSquareModel", "text", "[B", true)
  | 2 => ("AnswerSquareModel", "typed", "I", false)
  | 3 => ("AnswerSquareModel", "sayings", "[I", true)
  | 4 => ("AnswerSquareModel", "worthy", "[I", true)
  | 5 => ("AnswerSquareModel", "answers", "[I", true)
  | 6 => ("AnswerSquareModel", "sound", "[I", true)
  | 7 => ("AnswerSquareModel", "people", "[I", true)
  | 8 => ("AnswerSquareModel", "knows", "[I", true)
  | 9 => ("AnswerSquareModel", "old", "[I", true)
  | 10 => ("AnswerSquareModel", "oldTold", "Z", false)
  | 11 => ("AnswerSquareModel", "at", "I", false)
  | 12 => ("AnswerSquareModel", "start", "I", false)
  | 13 => ("AnswerSquareModel", "sort", "I", false)
  | 14 => ("AnswerSquareModel", "value", "I", false)
  | 15 => ("AnswerSquareModel", "fault", "I", false)
  | 16 => ("AnswerSquareModel", "now", "[I", true)
  | 17 => ("AnswerSquareModel", "isKept", "[Z", true)
  | 18 => ("AnswerSquareModel", "toldAhead", "[I", true)
  | 19 => ("AnswerSquareModel", "toldBehind", "[I", true)
  | 20 => ("AnswerSquareModel", "told", "I", false)
  | _ => ("AnswerSquareModel", "ways", "[I", true)
def tyX4 : Nat → FieldType := fun k => match k with
  | 0 => .long
  | 1 => .array .byte
  | 2 => .int
  | 3 => .array .int
  | 4 => .array .int
  | 5 => .array .int
  | 6 => .array .int
  | 7 => .array .int
  | 8 => .array .int
  | 9 => .array .int
  | 10 => .boolean
  | 11 => .int
  | 12 => .int
  | 13 => .int
  | 14 => .int
  | 15 => .int
  | 16 => .array .int
  | 17 => .array .boolean
  | 18 => .array .int
  | 19 => .array .int
  | 20 => .int
  | _ => .array .int
theorem nmX4 : ∀ a, a < 22 → ∀ b, b < 22 → a ≠ b → (TX4 a).2.1 ≠ (TX4 b).2.1 := by decide +kernel
theorem tyX4_ok : ∀ k, k < 22 → parseFieldDescriptor (TX4 k).2.2.1 = some (tyX4 k) := by decide +kernel
abbrev cX4_init : ByteArray := prog_6_method_1_code
def yX4_init : MethodName := ⟨RX4, "<init>", "()V"⟩
abbrev cX4_in : ByteArray := prog_6_method_3_code
def yX4_in : MethodName := ⟨RX4, "in", "(III)Z"⟩
abbrev cX4_type : ByteArray := prog_6_method_4_code
def yX4_type : MethodName := ⟨RX4, "type", "(I)I"⟩
abbrev cX4_clear : ByteArray := prog_6_method_5_code
def yX4_clear : MethodName := ⟨RX4, "clear", "()I"⟩
abbrev cX4_here : ByteArray := prog_6_method_6_code
def yX4_here : MethodName := ⟨RX4, "here", "()I"⟩
abbrev cX4_step : ByteArray := prog_6_method_7_code
def yX4_step : MethodName := ⟨RX4, "step", "()V"⟩
abbrev cX4_due : ByteArray := prog_6_method_8_code
def yX4_due : MethodName := ⟨RX4, "due", "(Z)I"⟩
abbrev cX4_number : ByteArray := prog_6_method_9_code
def yX4_number : MethodName := ⟨RX4, "number", "(II)I"⟩
abbrev cX4_mayBe : ByteArray := prog_6_method_10_code
def yX4_mayBe : MethodName := ⟨RX4, "mayBe", "(I)Z"⟩
abbrev cX4_readSet : ByteArray := prog_6_method_11_code
def yX4_readSet : MethodName := ⟨RX4, "readSet", "()I"⟩
abbrev cX4_readRow : ByteArray := prog_6_method_12_code
def yX4_readRow : MethodName := ⟨RX4, "readRow", "(I)V"⟩
abbrev cX4_plain : ByteArray := prog_6_method_13_code
def yX4_plain : MethodName := ⟨RX4, "plain", "()V"⟩
abbrev cX4_takeDraft : ByteArray := prog_6_method_14_code
def yX4_takeDraft : MethodName := ⟨RX4, "takeDraft", "()V"⟩
abbrev cX4_duchy : ByteArray := prog_6_method_15_code
def yX4_duchy : MethodName := ⟨RX4, "duchy", "()I"⟩
abbrev cX4_isSaying : ByteArray := prog_6_method_16_code
def yX4_isSaying : MethodName := ⟨RX4, "isSaying", "(I)Z"⟩
abbrev cX4_isPerson : ByteArray := prog_6_method_17_code
def yX4_isPerson : MethodName := ⟨RX4, "isPerson", "(I)Z"⟩
abbrev cX4_isSound : ByteArray := prog_6_method_18_code
def yX4_isSound : MethodName := ⟨RX4, "isSound", "(I)Z"⟩
abbrev cX4_manyOf : ByteArray := prog_6_method_19_code
def yX4_manyOf : MethodName := ⟨RX4, "manyOf", "(I)I"⟩
abbrev cX4_isThere : ByteArray := prog_6_method_20_code
def yX4_isThere : MethodName := ⟨RX4, "isThere", "(II)Z"⟩
abbrev cX4_there : ByteArray := prog_6_method_21_code
def yX4_there : MethodName := ⟨RX4, "there", "(I)I"⟩
abbrev cX4_knownBy : ByteArray := prog_6_method_22_code
def yX4_knownBy : MethodName := ⟨RX4, "knownBy", "(I)I"⟩
abbrev cX4_oftenOf : ByteArray := prog_6_method_23_code
def yX4_oftenOf : MethodName := ⟨RX4, "oftenOf", "(I)I"⟩
abbrev cX4_saying : ByteArray := prog_6_method_24_code
def yX4_saying : MethodName := ⟨RX4, "saying", "(II)I"⟩
abbrev cX4_mayOf : ByteArray := prog_6_method_25_code
def yX4_mayOf : MethodName := ⟨RX4, "mayOf", "(II)I"⟩
abbrev cX4_person : ByteArray := prog_6_method_26_code
def yX4_person : MethodName := ⟨RX4, "person", "(II)I"⟩
abbrev cX4_rootOf : ByteArray := prog_6_method_27_code
def yX4_rootOf : MethodName := ⟨RX4, "rootOf", "(I)I"⟩
abbrev cX4_farOf : ByteArray := prog_6_method_28_code
def yX4_farOf : MethodName := ⟨RX4, "farOf", "(I)I"⟩
abbrev cX4_firstAnswer : ByteArray := prog_6_method_29_code
def yX4_firstAnswer : MethodName := ⟨RX4, "firstAnswer", "(I)I"⟩
abbrev cX4_talk : ByteArray := prog_6_method_30_code
def yX4_talk : MethodName := ⟨RX4, "talk", "(II)I"⟩
abbrev cX4_know : ByteArray := prog_6_method_31_code
def yX4_know : MethodName := ⟨RX4, "know", "()V"⟩
abbrev cX4_add : ByteArray := prog_6_method_32_code
def yX4_add : MethodName := ⟨RX4, "add", "(III)V"⟩
abbrev cX4_hears : ByteArray := prog_6_method_33_code
def yX4_hears : MethodName := ⟨RX4, "hears", "(I)I"⟩
abbrev cX4_says : ByteArray := prog_6_method_34_code
def yX4_says : MethodName := ⟨RX4, "says", "(II)I"⟩
abbrev cX4_hour : ByteArray := prog_6_method_35_code
def yX4_hour : MethodName := ⟨RX4, "hour", "()I"⟩
abbrev cX4_undo : ByteArray := prog_6_method_36_code
def yX4_undo : MethodName := ⟨RX4, "undo", "()I"⟩
abbrev cX4_farthest : ByteArray := prog_6_method_37_code
def yX4_farthest : MethodName := ⟨RX4, "farthest", "()I"⟩
abbrev cX4_silent : ByteArray := prog_6_method_38_code
def yX4_silent : MethodName := ⟨RX4, "silent", "()I"⟩
abbrev cX4_now : ByteArray := prog_6_method_39_code
def yX4_now : MethodName := ⟨RX4, "now", "(I)I"⟩
abbrev cX4_worth : ByteArray := prog_6_method_40_code
def yX4_worth : MethodName := ⟨RX4, "worth", "(I)I"⟩
abbrev cX4_sayable : ByteArray := prog_6_method_41_code
def yX4_sayable : MethodName := ⟨RX4, "sayable", "()I"⟩
abbrev cX4_nextOf : ByteArray := prog_6_method_42_code
def yX4_nextOf : MethodName := ⟨RX4, "nextOf", "(I)I"⟩
abbrev cX4_reach : ByteArray := prog_6_method_43_code
def yX4_reach : MethodName := ⟨RX4, "reach", "(I)I"⟩
abbrev cX4_chainOf : ByteArray := prog_6_method_44_code
def yX4_chainOf : MethodName := ⟨RX4, "chainOf", "(II)I"⟩
abbrev cX4_chain : ByteArray := prog_6_method_45_code
def yX4_chain : MethodName := ⟨RX4, "chain", "(II)I"⟩
abbrev cX4_sounds : ByteArray := prog_6_method_46_code
def yX4_sounds : MethodName := ⟨RX4, "sounds", "(I)I"⟩
abbrev cX4_began : ByteArray := prog_6_method_47_code
def yX4_began : MethodName := ⟨RX4, "began", "(I)I"⟩
abbrev cX4_odds : ByteArray := prog_6_method_48_code
def yX4_odds : MethodName := ⟨RX4, "odds", "(III)I"⟩
abbrev cX4_tells : ByteArray := prog_6_method_49_code
def yX4_tells : MethodName := ⟨RX4, "tells", "(II)I"⟩
abbrev cX4_forget : ByteArray := prog_6_method_50_code
def yX4_forget : MethodName := ⟨RX4, "forget", "()I"⟩
abbrev cX4_firstOf : ByteArray := prog_6_method_51_code
def yX4_firstOf : MethodName := ⟨RX4, "firstOf", "(I)I"⟩
abbrev cX4_fits : ByteArray := prog_6_method_52_code
def yX4_fits : MethodName := ⟨RX4, "fits", "()I"⟩
abbrev cX4_canCome : ByteArray := prog_6_method_53_code
def yX4_canCome : MethodName := ⟨RX4, "canCome", "(III)Z"⟩
abbrev cX4_orders : ByteArray := prog_6_method_54_code
def yX4_orders : MethodName := ⟨RX4, "orders", "(I)I"⟩
abbrev cX4_mark : ByteArray := prog_6_method_55_code
def yX4_mark : MethodName := ⟨RX4, "mark", "(II)I"⟩
abbrev cX4_keep : ByteArray := prog_6_method_56_code
def yX4_keep : MethodName := ⟨RX4, "keep", "(I)I"⟩
abbrev cX4_back : ByteArray := prog_6_method_57_code
def yX4_back : MethodName := ⟨RX4, "back", "(I)I"⟩
abbrev cX4_count : ByteArray := prog_6_method_58_code
def yX4_count : MethodName := ⟨RX4, "count", "(I)I"⟩
abbrev cX4_trace : ByteArray := prog_6_method_59_code
def yX4_trace : MethodName := ⟨RX4, "trace", "()J"⟩
def RJ6 : String := "java/lang/Integer"
def TJ6 : u_T := fun k => match k with
  | _ => ("", "", "", false)
def tyJ6 : Nat → FieldType := fun k => match k with
  | _ => .int
abbrev cJ6_bitCount_0f7a4 : ByteArray := prog_7_method_49_code
def yJ6_bitCount_0f7a4 : MethodName := ⟨RJ6, "bitCount", "(I)I"⟩
def RJ9 : String := "java/lang/Math"
def TJ9 : u_T := fun k => match k with
  | _ => ("", "", "", false)
def tyJ9 : Nat → FieldType := fun k => match k with
  | _ => .int
abbrev cJ9_min_7cf53 : ByteArray := prog_8_method_69_code
def yJ9_min_7cf53 : MethodName := ⟨RJ9, "min", "(II)I"⟩
def RJ10 : String := "java/lang/System"
def TJ10 : u_T := fun k => match k with
  | _ => ("", "", "", false)
def tyJ10 : Nat → FieldType := fun k => match k with
  | _ => .int
def RL : String := "AnswerSquareLaw"
abbrev cL_law : ByteArray := code
def yL_law : MethodName := ⟨RL, "law", "([I)Z"⟩
abbrev vwCl : List vw_C := [(RX0, TX0, 9), (RX1, TX1, 11), (RX2, TX2, 6), (RX3, TX3, 11), (RX4, TX4, 22)]
end
section
theorem dJ6_bitCount_0f7a4_0 : decode cJ6_bitCount_0f7a4 0 = .ok (.iload_n 0, 1) := by decide +kernel
theorem dJ6_bitCount_0f7a4_1 : decode cJ6_bitCount_0f7a4 1 = .ok (.iload_n 0, 1) := by decide +kernel
theorem dJ6_bitCount_0f7a4_2 : decode cJ6_bitCount_0f7a4 2 = .ok (.iconst 1, 1) := by decide +kernel
theorem dJ6_bitCount_0f7a4_3 : decode cJ6_bitCount_0f7a4 3 = .ok (.iushr, 1) := by decide +kernel
theorem dJ6_bitCount_0f7a4_4 : decode cJ6_bitCount_0f7a4 4 = .ok (.ldc_w 265, 3) := by decide +kernel
theorem dJ6_bitCount_0f7a4_7 : decode cJ6_bitCount_0f7a4 7 = .ok (.iand, 1) := by decide +kernel
theorem dJ6_bitCount_0f7a4_8 : decode cJ6_bitCount_0f7a4 8 = .ok (.isub, 1) := by decide +kernel
theorem dJ6_bitCount_0f7a4_9 : decode cJ6_bitCount_0f7a4 9 = .ok (.istore_n 0, 1) := by decide +kernel
theorem dJ6_bitCount_0f7a4_10 : decode cJ6_bitCount_0f7a4 10 = .ok (.iload_n 0, 1) := by decide +kernel
theorem dJ6_bitCount_0f7a4_11 : decode cJ6_bitCount_0f7a4 11 = .ok (.ldc_w 266, 3) := by decide +kernel
theorem dJ6_bitCount_0f7a4_14 : decode cJ6_bitCount_0f7a4 14 = .ok (.iand, 1) := by decide +kernel
theorem dJ6_bitCount_0f7a4_15 : decode cJ6_bitCount_0f7a4 15 = .ok (.iload_n 0, 1) := by decide +kernel
theorem dJ6_bitCount_0f7a4_16 : decode cJ6_bitCount_0f7a4 16 = .ok (.iconst 2, 1) := by decide +kernel
theorem dJ6_bitCount_0f7a4_17 : decode cJ6_bitCount_0f7a4 17 = .ok (.iushr, 1) := by decide +kernel
theorem dJ6_bitCount_0f7a4_18 : decode cJ6_bitCount_0f7a4 18 = .ok (.ldc_w 266, 3) := by decide +kernel
theorem dJ6_bitCount_0f7a4_21 : decode cJ6_bitCount_0f7a4 21 = .ok (.iand, 1) := by decide +kernel
theorem dJ6_bitCount_0f7a4_22 : decode cJ6_bitCount_0f7a4 22 = .ok (.iadd, 1) := by decide +kernel
theorem dJ6_bitCount_0f7a4_23 : decode cJ6_bitCount_0f7a4 23 = .ok (.istore_n 0, 1) := by decide +kernel
theorem dJ6_bitCount_0f7a4_24 : decode cJ6_bitCount_0f7a4 24 = .ok (.iload_n 0, 1) := by decide +kernel
theorem dJ6_bitCount_0f7a4_25 : decode cJ6_bitCount_0f7a4 25 = .ok (.iload_n 0, 1) := by decide +kernel
theorem dJ6_bitCount_0f7a4_26 : decode cJ6_bitCount_0f7a4 26 = .ok (.iconst 4, 1) := by decide +kernel
theorem dJ6_bitCount_0f7a4_27 : decode cJ6_bitCount_0f7a4 27 = .ok (.iushr, 1) := by decide +kernel
theorem dJ6_bitCount_0f7a4_28 : decode cJ6_bitCount_0f7a4 28 = .ok (.iadd, 1) := by decide +kernel
theorem dJ6_bitCount_0f7a4_29 : decode cJ6_bitCount_0f7a4 29 = .ok (.ldc_w 267, 3) := by decide +kernel
theorem dJ6_bitCount_0f7a4_32 : decode cJ6_bitCount_0f7a4 32 = .ok (.iand, 1) := by decide +kernel
theorem dJ6_bitCount_0f7a4_33 : decode cJ6_bitCount_0f7a4 33 = .ok (.istore_n 0, 1) := by decide +kernel
theorem dJ6_bitCount_0f7a4_34 : decode cJ6_bitCount_0f7a4 34 = .ok (.iload_n 0, 1) := by decide +kernel
theorem dJ6_bitCount_0f7a4_35 : decode cJ6_bitCount_0f7a4 35 = .ok (.iload_n 0, 1) := by decide +kernel
theorem dJ6_bitCount_0f7a4_36 : decode cJ6_bitCount_0f7a4 36 = .ok (.bipush 8, 2) := by decide +kernel
theorem dJ6_bitCount_0f7a4_38 : decode cJ6_bitCount_0f7a4 38 = .ok (.iushr, 1) := by decide +kernel
theorem dJ6_bitCount_0f7a4_39 : decode cJ6_bitCount_0f7a4 39 = .ok (.iadd, 1) := by decide +kernel
theorem dJ6_bitCount_0f7a4_40 : decode cJ6_bitCount_0f7a4 40 = .ok (.istore_n 0, 1) := by decide +kernel
theorem dJ6_bitCount_0f7a4_41 : decode cJ6_bitCount_0f7a4 41 = .ok (.iload_n 0, 1) := by decide +kernel
theorem dJ6_bitCount_0f7a4_42 : decode cJ6_bitCount_0f7a4 42 = .ok (.iload_n 0, 1) := by decide +kernel
theorem dJ6_bitCount_0f7a4_43 : decode cJ6_bitCount_0f7a4 43 = .ok (.bipush 16, 2) := by decide +kernel
theorem dJ6_bitCount_0f7a4_45 : decode cJ6_bitCount_0f7a4 45 = .ok (.iushr, 1) := by decide +kernel
theorem dJ6_bitCount_0f7a4_46 : decode cJ6_bitCount_0f7a4 46 = .ok (.iadd, 1) := by decide +kernel
theorem dJ6_bitCount_0f7a4_47 : decode cJ6_bitCount_0f7a4 47 = .ok (.istore_n 0, 1) := by decide +kernel
theorem dJ6_bitCount_0f7a4_48 : decode cJ6_bitCount_0f7a4 48 = .ok (.iload_n 0, 1) := by decide +kernel
theorem dJ6_bitCount_0f7a4_49 : decode cJ6_bitCount_0f7a4 49 = .ok (.bipush 63, 2) := by decide +kernel
theorem dJ6_bitCount_0f7a4_51 : decode cJ6_bitCount_0f7a4 51 = .ok (.iand, 1) := by decide +kernel
theorem dJ6_bitCount_0f7a4_52 : decode cJ6_bitCount_0f7a4 52 = .ok (.ireturn, 1) := by decide +kernel
theorem dJ9_min_7cf53_0 : decode cJ9_min_7cf53 0 = .ok (.iload_n 0, 1) := by decide +kernel
theorem dJ9_min_7cf53_1 : decode cJ9_min_7cf53 1 = .ok (.iload_n 1, 1) := by decide +kernel
theorem dJ9_min_7cf53_2 : decode cJ9_min_7cf53 2 = .ok (.if_icmp .gt 7, 3) := by decide +kernel
theorem dJ9_min_7cf53_5 : decode cJ9_min_7cf53 5 = .ok (.iload_n 0, 1) := by decide +kernel
theorem dJ9_min_7cf53_6 : decode cJ9_min_7cf53 6 = .ok (.goto 4, 3) := by decide +kernel
theorem dJ9_min_7cf53_9 : decode cJ9_min_7cf53 9 = .ok (.iload_n 1, 1) := by decide +kernel
theorem dJ9_min_7cf53_10 : decode cJ9_min_7cf53 10 = .ok (.ireturn, 1) := by decide +kernel
end
section
theorem dX0_init_0 : decode cX0_init 0 = .ok (.aload_n 0, 1) := by decide +kernel
theorem dX0_init_1 : decode cX0_init 1 = .ok (.invokespecial 3, 3) := by decide +kernel
theorem dX0_init_4 : decode cX0_init 4 = .ok (.aload_n 0, 1) := by decide +kernel
theorem dX0_init_5 : decode cX0_init 5 = .ok (.bipush 8, 2) := by decide +kernel
theorem dX0_init_7 : decode cX0_init 7 = .ok (.newarray .int, 2) := by decide +kernel
theorem dX0_init_9 : decode cX0_init 9 = .ok (.putfield 9, 3) := by decide +kernel
theorem dX0_init_12 : decode cX0_init 12 = .ok (.aload_n 0, 1) := by decide +kernel
theorem dX0_init_13 : decode cX0_init 13 = .ok (.bipush 8, 2) := by decide +kernel
theorem dX0_init_15 : decode cX0_init 15 = .ok (.newarray .int, 2) := by decide +kernel
theorem dX0_init_17 : decode cX0_init 17 = .ok (.putfield 15, 3) := by decide +kernel
theorem dX0_init_20 : decode cX0_init 20 = .ok (.aload_n 0, 1) := by decide +kernel
theorem dX0_init_21 : decode cX0_init 21 = .ok (.iconst 5, 1) := by decide +kernel
theorem dX0_init_22 : decode cX0_init 22 = .ok (.newarray .int, 2) := by decide +kernel
theorem dX0_init_24 : decode cX0_init 24 = .ok (.putfield 18, 3) := by decide +kernel
theorem dX0_init_27 : decode cX0_init 27 = .ok (.aload_n 0, 1) := by decide +kernel
theorem dX0_init_28 : decode cX0_init 28 = .ok (.iconst 3, 1) := by decide +kernel
theorem dX0_init_29 : decode cX0_init 29 = .ok (.putfield 21, 3) := by decide +kernel
theorem dX0_init_32 : decode cX0_init 32 = .ok (.return_, 1) := by decide +kernel
theorem dX0_readFrom_0 : decode cX0_readFrom 0 = .ok (.aload_n 0, 1) := by decide +kernel
theorem dX0_readFrom_1 : decode cX0_readFrom 1 = .ok (.iconst 0, 1) := by decide +kernel
theorem dX0_readFrom_2 : decode cX0_readFrom 2 = .ok (.putfield 25, 3) := by decide +kernel
theorem dX0_readFrom_5 : decode cX0_readFrom 5 = .ok (.aload_n 0, 1) := by decide +kernel
theorem dX0_readFrom_6 : decode cX0_readFrom 6 = .ok (.iconst 0, 1) := by decide +kernel
theorem dX0_readFrom_7 : decode cX0_readFrom 7 = .ok (.putfield 28, 3) := by decide +kernel
theorem dX0_readFrom_10 : decode cX0_readFrom 10 = .ok (.aload_n 0, 1) := by decide +kernel
theorem dX0_readFrom_11 : decode cX0_readFrom 11 = .ok (.iconst 3, 1) := by decide +kernel
theorem dX0_readFrom_12 : decode cX0_readFrom 12 = .ok (.putfield 21, 3) := by decide +kernel
theorem dX0_readFrom_15 : decode cX0_readFrom 15 = .ok (.aload_n 0, 1) := by decide +kernel
theorem dX0_readFrom_16 : decode cX0_readFrom 16 = .ok (.iconst 0, 1) := by decide +kernel
theorem dX0_readFrom_17 : decode cX0_readFrom 17 = .ok (.putfield 31, 3) := by decide +kernel
theorem dX0_readFrom_20 : decode cX0_readFrom 20 = .ok (.aload_n 0, 1) := by decide +kernel
theorem dX0_readFrom_21 : decode cX0_readFrom 21 = .ok (.iconst 0, 1) := by decide +kernel
theorem dX0_readFrom_22 : decode cX0_readFrom 22 = .ok (.putfield 35, 3) := by decide +kernel
theorem dX0_readFrom_25 : decode cX0_readFrom 25 = .ok (.iconst 0, 1) := by decide +kernel
theorem dX0_readFrom_26 : decode cX0_readFrom 26 = .ok (.istore_n 2, 1) := by decide +kernel
theorem dX0_readFrom_27 : decode cX0_readFrom 27 = .ok (.aload_n 1, 1) := by decide +kernel
theorem dX0_readFrom_28 : decode cX0_readFrom 28 = .ok (.invokevirtual 38, 3) := by decide +kernel
theorem dX0_readFrom_31 : decode cX0_readFrom 31 = .ok (.iload_n 2, 1) := by decide +kernel
theorem dX0_readFrom_32 : decode cX0_readFrom 32 = .ok (.bipush 14, 2) := by decide +kernel
theorem dX0_readFrom_34 : decode cX0_readFrom 34 = .ok (.if_icmp .ge 36, 3) := by decide +kernel
theorem dX0_readFrom_37 : decode cX0_readFrom 37 = .ok (.aload_n 1, 1) := by decide +kernel
theorem dX0_readFrom_38 : decode cX0_readFrom 38 = .ok (.getfield 43, 3) := by decide +kernel
theorem dX0_readFrom_41 : decode cX0_readFrom 41 = .ok (.ifCond .eq 29, 3) := by decide +kernel
theorem dX0_readFrom_44 : decode cX0_readFrom 44 = .ok (.aload_n 0, 1) := by decide +kernel
theorem dX0_readFrom_45 : decode cX0_readFrom 45 = .ok (.aload_n 1, 1) := by decide +kernel
theorem dX0_readFrom_46 : decode cX0_readFrom 46 = .ok (.invokevirtual 46, 3) := by decide +kernel
theorem dX0_readFrom_49 : decode cX0_readFrom 49 = .ok (.ifCond .ne 11, 3) := by decide +kernel
theorem dX0_readFrom_52 : decode cX0_readFrom 52 = .ok (.bipush (-10), 2) := by decide +kernel
theorem dX0_readFrom_54 : decode cX0_readFrom 54 = .ok (.aload_n 1, 1) := by decide +kernel
theorem dX0_readFrom_55 : decode cX0_readFrom 55 = .ok (.getfield 50, 3) := by decide +kernel
theorem dX0_readFrom_58 : decode cX0_readFrom 58 = .ok (.isub, 1) := by decide +kernel
theorem dX0_readFrom_59 : decode cX0_readFrom 59 = .ok (.ireturn, 1) := by decide +kernel
theorem dX0_readFrom_60 : decode cX0_readFrom 60 = .ok (.iinc 2 1, 3) := by decide +kernel
theorem dX0_readFrom_63 : decode cX0_readFrom 63 = .ok (.aload_n 1, 1) := by decide +kernel
theorem dX0_readFrom_64 : decode cX0_readFrom 64 = .ok (.invokevirtual 53, 3) := by decide +kernel
theorem dX0_readFrom_67 : decode cX0_readFrom 67 = .ok (.goto (-36), 3) := by decide +kernel
theorem dX0_readFrom_70 : decode cX0_readFrom 70 = .ok (.aload_n 1, 1) := by decide +kernel
theorem dX0_readFrom_71 : decode cX0_readFrom 71 = .ok (.getfield 43, 3) := by decide +kernel
theorem dX0_readFrom_74 : decode cX0_readFrom 74 = .ok (.ifCond .eq 11, 3) := by decide +kernel
theorem dX0_readFrom_77 : decode cX0_readFrom 77 = .ok (.bipush (-10), 2) := by decide +kernel
theorem dX0_readFrom_79 : decode cX0_readFrom 79 = .ok (.aload_n 1, 1) := by decide +kernel
theorem dX0_readFrom_80 : decode cX0_readFrom 80 = .ok (.getfield 50, 3) := by decide +kernel
theorem dX0_readFrom_83 : decode cX0_readFrom 83 = .ok (.isub, 1) := by decide +kernel
theorem dX0_readFrom_84 : decode cX0_readFrom 84 = .ok (.ireturn, 1) := by decide +kernel
theorem dX0_readFrom_85 : decode cX0_readFrom 85 = .ok (.aload_n 0, 1) := by decide +kernel
theorem dX0_readFrom_86 : decode cX0_readFrom 86 = .ok (.invokevirtual 56, 3) := by decide +kernel
theorem dX0_readFrom_89 : decode cX0_readFrom 89 = .ok (.iload_n 2, 1) := by decide +kernel
theorem dX0_readFrom_90 : decode cX0_readFrom 90 = .ok (.ireturn, 1) := by decide +kernel
theorem dX0_readItem_0 : decode cX0_readItem 0 = .ok (.aload_n 1, 1) := by decide +kernel
theorem dX0_readItem_1 : decode cX0_readItem 1 = .ok (.getfield 43, 3) := by decide +kernel
theorem dX0_readItem_4 : decode cX0_readItem 4 = .ok (.iconst 1, 1) := by decide +kernel
theorem dX0_readItem_5 : decode cX0_readItem 5 = .ok (.if_icmp .ne 10, 3) := by decide +kernel
theorem dX0_readItem_8 : decode cX0_readItem 8 = .ok (.aload_n 1, 1) := by decide +kernel
theorem dX0_readItem_9 : decode cX0_readItem 9 = .ok (.getfield 59, 3) := by decide +kernel
theorem dX0_readItem_12 : decode cX0_readItem 12 = .ok (.goto 4, 3) := by decide +kernel
theorem dX0_readItem_15 : decode cX0_readItem 15 = .ok (.iconst 0, 1) := by decide +kernel
theorem dX0_readItem_16 : decode cX0_readItem 16 = .ok (.istore_n 2, 1) := by decide +kernel
theorem dX0_readItem_17 : decode cX0_readItem 17 = .ok (.aload_n 0, 1) := by decide +kernel
theorem dX0_readItem_18 : decode cX0_readItem 18 = .ok (.iload_n 2, 1) := by decide +kernel
theorem dX0_readItem_19 : decode cX0_readItem 19 = .ok (.invokevirtual 62, 3) := by decide +kernel
theorem dX0_readItem_22 : decode cX0_readItem 22 = .ok (.ifCond .ne 5, 3) := by decide +kernel
theorem dX0_readItem_25 : decode cX0_readItem 25 = .ok (.iconst 0, 1) := by decide +kernel
theorem dX0_readItem_26 : decode cX0_readItem 26 = .ok (.ireturn, 1) := by decide +kernel
theorem dX0_readItem_27 : decode cX0_readItem 27 = .ok (.iconst 0, 1) := by decide +kernel
theorem dX0_readItem_28 : decode cX0_readItem 28 = .ok (.istore_n 3, 1) := by decide +kernel
theorem dX0_readItem_29 : decode cX0_readItem 29 = .ok (.iload_n 2, 1) := by decide +kernel
theorem dX0_readItem_30 : decode cX0_readItem 30 = .ok (.bipush 112, 2) := by decide +kernel
theorem dX0_readItem_32 : decode cX0_readItem 32 = .ok (.if_icmp .eq 34, 3) := by decide +kernel
theorem dX0_readItem_35 : decode cX0_readItem 35 = .ok (.aload_n 1, 1) := by decide +kernel
theorem dX0_readItem_36 : decode cX0_readItem 36 = .ok (.invokevirtual 53, 3) := by decide +kernel
theorem dX0_readItem_39 : decode cX0_readItem 39 = .ok (.aload_n 1, 1) := by decide +kernel
theorem dX0_readItem_40 : decode cX0_readItem 40 = .ok (.iload_n 2, 1) := by decide +kernel
theorem dX0_readItem_41 : decode cX0_readItem 41 = .ok (.bipush 111, 2) := by decide +kernel
theorem dX0_readItem_43 : decode cX0_readItem 43 = .ok (.if_icmp .ne 7, 3) := by decide +kernel
theorem dX0_readItem_46 : decode cX0_readItem 46 = .ok (.iconst 1, 1) := by decide +kernel
theorem dX0_readItem_47 : decode cX0_readItem 47 = .ok (.goto 4, 3) := by decide +kernel
theorem dX0_readItem_50 : decode cX0_readItem 50 = .ok (.iconst 0, 1) := by decide +kernel
theorem dX0_readItem_51 : decode cX0_readItem 51 = .ok (.bipush 9, 2) := by decide +kernel
theorem dX0_readItem_53 : decode cX0_readItem 53 = .ok (.invokevirtual 66, 3) := by decide +kernel
theorem dX0_readItem_56 : decode cX0_readItem 56 = .ok (.ifCond .ne 5, 3) := by decide +kernel
theorem dX0_readItem_59 : decode cX0_readItem 59 = .ok (.iconst 0, 1) := by decide +kernel
theorem dX0_readItem_60 : decode cX0_readItem 60 = .ok (.ireturn, 1) := by decide +kernel
theorem dX0_readItem_61 : decode cX0_readItem 61 = .ok (.aload_n 1, 1) := by decide +kernel
theorem dX0_readItem_62 : decode cX0_readItem 62 = .ok (.getfield 59, 3) := by decide +kernel
theorem dX0_readItem_65 : decode cX0_readItem 65 = .ok (.istore_n 3, 1) := by decide +kernel
theorem dX0_readItem_66 : decode cX0_readItem 66 = .ok (.aload_n 1, 1) := by decide +kernel
theorem dX0_readItem_67 : decode cX0_readItem 67 = .ok (.iload_n 2, 1) := by decide +kernel
theorem dX0_readItem_68 : decode cX0_readItem 68 = .ok (.bipush 97, 2) := by decide +kernel
theorem dX0_readItem_70 : decode cX0_readItem 70 = .ok (.if_icmp .eq 9, 3) := by decide +kernel
theorem dX0_readItem_73 : decode cX0_readItem 73 = .ok (.iload_n 2, 1) := by decide +kernel
theorem dX0_readItem_74 : decode cX0_readItem 74 = .ok (.bipush 112, 2) := by decide +kernel
theorem dX0_readItem_76 : decode cX0_readItem 76 = .ok (.if_icmp .ne 8, 3) := by decide +kernel
theorem dX0_readItem_79 : decode cX0_readItem 79 = .ok (.bipush 8, 2) := by decide +kernel
theorem dX0_readItem_81 : decode cX0_readItem 81 = .ok (.goto 4, 3) := by decide +kernel
theorem dX0_readItem_84 : decode cX0_readItem 84 = .ok (.iconst 0, 1) := by decide +kernel
theorem dX0_readItem_85 : decode cX0_readItem 85 = .ok (.invokestatic 70, 3) := by decide +kernel
theorem dX0_readItem_88 : decode cX0_readItem 88 = .ok (.istore 4, 2) := by decide +kernel
theorem dX0_readItem_90 : decode cX0_readItem 90 = .ok (.iload 4, 2) := by decide +kernel
theorem dX0_readItem_92 : decode cX0_readItem 92 = .ok (.ifCond .ge 5, 3) := by decide +kernel
theorem dX0_readItem_95 : decode cX0_readItem 95 = .ok (.iconst 0, 1) := by decide +kernel
theorem dX0_readItem_96 : decode cX0_readItem 96 = .ok (.ireturn, 1) := by decide +kernel
theorem dX0_readItem_97 : decode cX0_readItem 97 = .ok (.aload_n 0, 1) := by decide +kernel
theorem dX0_readItem_98 : decode cX0_readItem 98 = .ok (.iload_n 2, 1) := by decide +kernel
theorem dX0_readItem_99 : decode cX0_readItem 99 = .ok (.iload_n 3, 1) := by decide +kernel
theorem dX0_readItem_100 : decode cX0_readItem 100 = .ok (.iload 4, 2) := by decide +kernel
theorem dX0_readItem_102 : decode cX0_readItem 102 = .ok (.invokevirtual 74, 3) := by decide +kernel
theorem dX0_readItem_105 : decode cX0_readItem 105 = .ok (.iconst 1, 1) := by decide +kernel
theorem dX0_readItem_106 : decode cX0_readItem 106 = .ok (.ireturn, 1) := by decide +kernel
theorem dX0_hasRoomFor_0 : decode cX0_hasRoomFor 0 = .ok (.iload_n 1, 1) := by decide +kernel
theorem dX0_hasRoomFor_1 : decode cX0_hasRoomFor 1 = .ok (.lookupswitch 100 #[(97, 43), (111, 87), (112, 73), (122, 58)], 43) := by decide +kernel
theorem dX0_hasRoomFor_44 : decode cX0_hasRoomFor 44 = .ok (.aload_n 0, 1) := by decide +kernel
theorem dX0_hasRoomFor_45 : decode cX0_hasRoomFor 45 = .ok (.getfield 25, 3) := by decide +kernel
theorem dX0_hasRoomFor_48 : decode cX0_hasRoomFor 48 = .ok (.bipush 8, 2) := by decide +kernel
theorem dX0_hasRoomFor_50 : decode cX0_hasRoomFor 50 = .ok (.if_icmp .ge 7, 3) := by decide +kernel
theorem dX0_hasRoomFor_53 : decode cX0_hasRoomFor 53 = .ok (.iconst 1, 1) := by decide +kernel
theorem dX0_hasRoomFor_54 : decode cX0_hasRoomFor 54 = .ok (.goto 4, 3) := by decide +kernel
theorem dX0_hasRoomFor_57 : decode cX0_hasRoomFor 57 = .ok (.iconst 0, 1) := by decide +kernel
theorem dX0_hasRoomFor_58 : decode cX0_hasRoomFor 58 = .ok (.ireturn, 1) := by decide +kernel
theorem dX0_hasRoomFor_59 : decode cX0_hasRoomFor 59 = .ok (.aload_n 0, 1) := by decide +kernel
theorem dX0_hasRoomFor_60 : decode cX0_hasRoomFor 60 = .ok (.getfield 25, 3) := by decide +kernel
theorem dX0_hasRoomFor_63 : decode cX0_hasRoomFor 63 = .ok (.bipush 8, 2) := by decide +kernel
theorem dX0_hasRoomFor_65 : decode cX0_hasRoomFor 65 = .ok (.if_icmp .ge 7, 3) := by decide +kernel
theorem dX0_hasRoomFor_68 : decode cX0_hasRoomFor 68 = .ok (.iconst 1, 1) := by decide +kernel
theorem dX0_hasRoomFor_69 : decode cX0_hasRoomFor 69 = .ok (.goto 4, 3) := by decide +kernel
theorem dX0_hasRoomFor_72 : decode cX0_hasRoomFor 72 = .ok (.iconst 0, 1) := by decide +kernel
theorem dX0_hasRoomFor_73 : decode cX0_hasRoomFor 73 = .ok (.ireturn, 1) := by decide +kernel
theorem dX0_hasRoomFor_74 : decode cX0_hasRoomFor 74 = .ok (.aload_n 0, 1) := by decide +kernel
theorem dX0_hasRoomFor_75 : decode cX0_hasRoomFor 75 = .ok (.getfield 28, 3) := by decide +kernel
theorem dX0_hasRoomFor_78 : decode cX0_hasRoomFor 78 = .ok (.iconst 5, 1) := by decide +kernel
theorem dX0_hasRoomFor_79 : decode cX0_hasRoomFor 79 = .ok (.if_icmp .ge 7, 3) := by decide +kernel
theorem dX0_hasRoomFor_82 : decode cX0_hasRoomFor 82 = .ok (.iconst 1, 1) := by decide +kernel
theorem dX0_hasRoomFor_83 : decode cX0_hasRoomFor 83 = .ok (.goto 4, 3) := by decide +kernel
theorem dX0_hasRoomFor_86 : decode cX0_hasRoomFor 86 = .ok (.iconst 0, 1) := by decide +kernel
theorem dX0_hasRoomFor_87 : decode cX0_hasRoomFor 87 = .ok (.ireturn, 1) := by decide +kernel
theorem dX0_hasRoomFor_88 : decode cX0_hasRoomFor 88 = .ok (.aload_n 0, 1) := by decide +kernel
theorem dX0_hasRoomFor_89 : decode cX0_hasRoomFor 89 = .ok (.getfield 31, 3) := by decide +kernel
theorem dX0_hasRoomFor_92 : decode cX0_hasRoomFor 92 = .ok (.ifCond .ne 7, 3) := by decide +kernel
theorem dX0_hasRoomFor_95 : decode cX0_hasRoomFor 95 = .ok (.iconst 1, 1) := by decide +kernel
theorem dX0_hasRoomFor_96 : decode cX0_hasRoomFor 96 = .ok (.goto 4, 3) := by decide +kernel
theorem dX0_hasRoomFor_99 : decode cX0_hasRoomFor 99 = .ok (.iconst 0, 1) := by decide +kernel
theorem dX0_hasRoomFor_100 : decode cX0_hasRoomFor 100 = .ok (.ireturn, 1) := by decide +kernel
theorem dX0_hasRoomFor_101 : decode cX0_hasRoomFor 101 = .ok (.iconst 0, 1) := by decide +kernel
theorem dX0_hasRoomFor_102 : decode cX0_hasRoomFor 102 = .ok (.ireturn, 1) := by decide +kernel
theorem dX0_readNumbers_0 : decode cX0_readNumbers 0 = .ok (.iconst 0, 1) := by decide +kernel
theorem dX0_readNumbers_1 : decode cX0_readNumbers 1 = .ok (.istore_n 2, 1) := by decide +kernel
theorem dX0_readNumbers_2 : decode cX0_readNumbers 2 = .ok (.iconst 0, 1) := by decide +kernel
theorem dX0_readNumbers_3 : decode cX0_readNumbers 3 = .ok (.istore_n 3, 1) := by decide +kernel
theorem dX0_readNumbers_4 : decode cX0_readNumbers 4 = .ok (.iload_n 3, 1) := by decide +kernel
theorem dX0_readNumbers_5 : decode cX0_readNumbers 5 = .ok (.iload_n 1, 1) := by decide +kernel
theorem dX0_readNumbers_6 : decode cX0_readNumbers 6 = .ok (.if_icmp .gt 49, 3) := by decide +kernel
theorem dX0_readNumbers_9 : decode cX0_readNumbers 9 = .ok (.aload_n 0, 1) := by decide +kernel
theorem dX0_readNumbers_10 : decode cX0_readNumbers 10 = .ok (.invokevirtual 53, 3) := by decide +kernel
theorem dX0_readNumbers_13 : decode cX0_readNumbers 13 = .ok (.aload_n 0, 1) := by decide +kernel
theorem dX0_readNumbers_14 : decode cX0_readNumbers 14 = .ok (.getfield 43, 3) := by decide +kernel
theorem dX0_readNumbers_17 : decode cX0_readNumbers 17 = .ok (.iconst 3, 1) := by decide +kernel
theorem dX0_readNumbers_18 : decode cX0_readNumbers 18 = .ok (.if_icmp .ne 5, 3) := by decide +kernel
theorem dX0_readNumbers_21 : decode cX0_readNumbers 21 = .ok (.iload_n 2, 1) := by decide +kernel
theorem dX0_readNumbers_22 : decode cX0_readNumbers 22 = .ok (.ireturn, 1) := by decide +kernel
theorem dX0_readNumbers_23 : decode cX0_readNumbers 23 = .ok (.iload_n 3, 1) := by decide +kernel
theorem dX0_readNumbers_24 : decode cX0_readNumbers 24 = .ok (.iload_n 1, 1) := by decide +kernel
theorem dX0_readNumbers_25 : decode cX0_readNumbers 25 = .ok (.if_icmp .eq 13, 3) := by decide +kernel
theorem dX0_readNumbers_28 : decode cX0_readNumbers 28 = .ok (.aload_n 0, 1) := by decide +kernel
theorem dX0_readNumbers_29 : decode cX0_readNumbers 29 = .ok (.iconst 0, 1) := by decide +kernel
theorem dX0_readNumbers_30 : decode cX0_readNumbers 30 = .ok (.bipush 7, 2) := by decide +kernel
theorem dX0_readNumbers_32 : decode cX0_readNumbers 32 = .ok (.invokevirtual 66, 3) := by decide +kernel
theorem dX0_readNumbers_35 : decode cX0_readNumbers 35 = .ok (.ifCond .ne 5, 3) := by decide +kernel
theorem dX0_readNumbers_38 : decode cX0_readNumbers 38 = .ok (.iconst (-1), 1) := by decide +kernel
theorem dX0_readNumbers_39 : decode cX0_readNumbers 39 = .ok (.ireturn, 1) := by decide +kernel
theorem dX0_readNumbers_40 : decode cX0_readNumbers 40 = .ok (.iload_n 2, 1) := by decide +kernel
theorem dX0_readNumbers_41 : decode cX0_readNumbers 41 = .ok (.iconst 1, 1) := by decide +kernel
theorem dX0_readNumbers_42 : decode cX0_readNumbers 42 = .ok (.aload_n 0, 1) := by decide +kernel
theorem dX0_readNumbers_43 : decode cX0_readNumbers 43 = .ok (.getfield 59, 3) := by decide +kernel
theorem dX0_readNumbers_46 : decode cX0_readNumbers 46 = .ok (.ishl, 1) := by decide +kernel
theorem dX0_readNumbers_47 : decode cX0_readNumbers 47 = .ok (.ior, 1) := by decide +kernel
theorem dX0_readNumbers_48 : decode cX0_readNumbers 48 = .ok (.istore_n 2, 1) := by decide +kernel
theorem dX0_readNumbers_49 : decode cX0_readNumbers 49 = .ok (.iinc 3 1, 3) := by decide +kernel
theorem dX0_readNumbers_52 : decode cX0_readNumbers 52 = .ok (.goto (-48), 3) := by decide +kernel
theorem dX0_readNumbers_55 : decode cX0_readNumbers 55 = .ok (.iconst (-1), 1) := by decide +kernel
theorem dX0_readNumbers_56 : decode cX0_readNumbers 56 = .ok (.ireturn, 1) := by decide +kernel
theorem dX0_take_0 : decode cX0_take 0 = .ok (.iload_n 1, 1) := by decide +kernel
theorem dX0_take_1 : decode cX0_take 1 = .ok (.bipush 111, 2) := by decide +kernel
theorem dX0_take_3 : decode cX0_take 3 = .ok (.if_icmp .ne 16, 3) := by decide +kernel
theorem dX0_take_6 : decode cX0_take 6 = .ok (.aload_n 0, 1) := by decide +kernel
theorem dX0_take_7 : decode cX0_take 7 = .ok (.iload_n 2, 1) := by decide +kernel
theorem dX0_take_8 : decode cX0_take 8 = .ok (.putfield 21, 3) := by decide +kernel
theorem dX0_take_11 : decode cX0_take 11 = .ok (.aload_n 0, 1) := by decide +kernel
theorem dX0_take_12 : decode cX0_take 12 = .ok (.iconst 1, 1) := by decide +kernel
theorem dX0_take_13 : decode cX0_take 13 = .ok (.putfield 31, 3) := by decide +kernel
theorem dX0_take_16 : decode cX0_take 16 = .ok (.goto 104, 3) := by decide +kernel
theorem dX0_take_19 : decode cX0_take 19 = .ok (.iload_n 1, 1) := by decide +kernel
theorem dX0_take_20 : decode cX0_take 20 = .ok (.bipush 112, 2) := by decide +kernel
theorem dX0_take_22 : decode cX0_take 22 = .ok (.if_icmp .ne 34, 3) := by decide +kernel
theorem dX0_take_25 : decode cX0_take 25 = .ok (.aload_n 0, 1) := by decide +kernel
theorem dX0_take_26 : decode cX0_take 26 = .ok (.getfield 28, 3) := by decide +kernel
theorem dX0_take_29 : decode cX0_take 29 = .ok (.iconst 5, 1) := by decide +kernel
theorem dX0_take_30 : decode cX0_take 30 = .ok (.if_icmp .ge 26, 3) := by decide +kernel
theorem dX0_take_33 : decode cX0_take 33 = .ok (.aload_n 0, 1) := by decide +kernel
theorem dX0_take_34 : decode cX0_take 34 = .ok (.getfield 18, 3) := by decide +kernel
theorem dX0_take_37 : decode cX0_take 37 = .ok (.aload_n 0, 1) := by decide +kernel
theorem dX0_take_38 : decode cX0_take 38 = .ok (.getfield 28, 3) := by decide +kernel
theorem dX0_take_41 : decode cX0_take 41 = .ok (.iload_n 3, 1) := by decide +kernel
theorem dX0_take_42 : decode cX0_take 42 = .ok (.iastore, 1) := by decide +kernel
theorem dX0_take_43 : decode cX0_take 43 = .ok (.aload_n 0, 1) := by decide +kernel
theorem dX0_take_44 : decode cX0_take 44 = .ok (.dup, 1) := by decide +kernel
theorem dX0_take_45 : decode cX0_take 45 = .ok (.getfield 28, 3) := by decide +kernel
theorem dX0_take_48 : decode cX0_take 48 = .ok (.iconst 1, 1) := by decide +kernel
theorem dX0_take_49 : decode cX0_take 49 = .ok (.iadd, 1) := by decide +kernel
theorem dX0_take_50 : decode cX0_take 50 = .ok (.putfield 28, 3) := by decide +kernel
theorem dX0_take_53 : decode cX0_take 53 = .ok (.goto 67, 3) := by decide +kernel
theorem dX0_take_56 : decode cX0_take 56 = .ok (.aload_n 0, 1) := by decide +kernel
theorem dX0_take_57 : decode cX0_take 57 = .ok (.getfield 25, 3) := by decide +kernel
theorem dX0_take_60 : decode cX0_take 60 = .ok (.bipush 8, 2) := by decide +kernel
theorem dX0_take_62 : decode cX0_take 62 = .ok (.if_icmp .ge 58, 3) := by decide +kernel
theorem dX0_take_65 : decode cX0_take 65 = .ok (.aload_n 0, 1) := by decide +kernel
theorem dX0_take_66 : decode cX0_take 66 = .ok (.getfield 9, 3) := by decide +kernel
theorem dX0_take_69 : decode cX0_take 69 = .ok (.aload_n 0, 1) := by decide +kernel
theorem dX0_take_70 : decode cX0_take 70 = .ok (.getfield 25, 3) := by decide +kernel
theorem dX0_take_73 : decode cX0_take 73 = .ok (.iload_n 2, 1) := by decide +kernel
theorem dX0_take_74 : decode cX0_take 74 = .ok (.iastore, 1) := by decide +kernel
theorem dX0_take_75 : decode cX0_take 75 = .ok (.aload_n 0, 1) := by decide +kernel
theorem dX0_take_76 : decode cX0_take 76 = .ok (.getfield 15, 3) := by decide +kernel
theorem dX0_take_79 : decode cX0_take 79 = .ok (.aload_n 0, 1) := by decide +kernel
theorem dX0_take_80 : decode cX0_take 80 = .ok (.getfield 25, 3) := by decide +kernel
theorem dX0_take_83 : decode cX0_take 83 = .ok (.iload_n 3, 1) := by decide +kernel
theorem dX0_take_84 : decode cX0_take 84 = .ok (.iastore, 1) := by decide +kernel
theorem dX0_take_85 : decode cX0_take 85 = .ok (.aload_n 0, 1) := by decide +kernel
theorem dX0_take_86 : decode cX0_take 86 = .ok (.dup, 1) := by decide +kernel
theorem dX0_take_87 : decode cX0_take 87 = .ok (.getfield 35, 3) := by decide +kernel
theorem dX0_take_90 : decode cX0_take 90 = .ok (.iload_n 1, 1) := by decide +kernel
theorem dX0_take_91 : decode cX0_take 91 = .ok (.bipush 122, 2) := by decide +kernel
theorem dX0_take_93 : decode cX0_take 93 = .ok (.if_icmp .ne 12, 3) := by decide +kernel
theorem dX0_take_96 : decode cX0_take 96 = .ok (.iconst 1, 1) := by decide +kernel
theorem dX0_take_97 : decode cX0_take 97 = .ok (.aload_n 0, 1) := by decide +kernel
theorem dX0_take_98 : decode cX0_take 98 = .ok (.getfield 25, 3) := by decide +kernel
theorem dX0_take_101 : decode cX0_take 101 = .ok (.ishl, 1) := by decide +kernel
theorem dX0_take_102 : decode cX0_take 102 = .ok (.goto 4, 3) := by decide +kernel
theorem dX0_take_105 : decode cX0_take 105 = .ok (.iconst 0, 1) := by decide +kernel
theorem dX0_take_106 : decode cX0_take 106 = .ok (.ior, 1) := by decide +kernel
theorem dX0_take_107 : decode cX0_take 107 = .ok (.putfield 35, 3) := by decide +kernel
theorem dX0_take_110 : decode cX0_take 110 = .ok (.aload_n 0, 1) := by decide +kernel
theorem dX0_take_111 : decode cX0_take 111 = .ok (.dup, 1) := by decide +kernel
theorem dX0_take_112 : decode cX0_take 112 = .ok (.getfield 25, 3) := by decide +kernel
theorem dX0_take_115 : decode cX0_take 115 = .ok (.iconst 1, 1) := by decide +kernel
theorem dX0_take_116 : decode cX0_take 116 = .ok (.iadd, 1) := by decide +kernel
theorem dX0_take_117 : decode cX0_take 117 = .ok (.putfield 25, 3) := by decide +kernel
theorem dX0_take_120 : decode cX0_take 120 = .ok (.return_, 1) := by decide +kernel
theorem dX0_settle_0 : decode cX0_settle 0 = .ok (.iconst 1, 1) := by decide +kernel
theorem dX0_settle_1 : decode cX0_settle 1 = .ok (.aload_n 0, 1) := by decide +kernel
theorem dX0_settle_2 : decode cX0_settle 2 = .ok (.getfield 25, 3) := by decide +kernel
theorem dX0_settle_5 : decode cX0_settle 5 = .ok (.ishl, 1) := by decide +kernel
theorem dX0_settle_6 : decode cX0_settle 6 = .ok (.iconst 1, 1) := by decide +kernel
theorem dX0_settle_7 : decode cX0_settle 7 = .ok (.isub, 1) := by decide +kernel
theorem dX0_settle_8 : decode cX0_settle 8 = .ok (.istore_n 1, 1) := by decide +kernel
theorem dX0_settle_9 : decode cX0_settle 9 = .ok (.iconst 0, 1) := by decide +kernel
theorem dX0_settle_10 : decode cX0_settle 10 = .ok (.istore_n 2, 1) := by decide +kernel
theorem dX0_settle_11 : decode cX0_settle 11 = .ok (.iload_n 2, 1) := by decide +kernel
theorem dX0_settle_12 : decode cX0_settle 12 = .ok (.aload_n 0, 1) := by decide +kernel
theorem dX0_settle_13 : decode cX0_settle 13 = .ok (.getfield 25, 3) := by decide +kernel
theorem dX0_settle_16 : decode cX0_settle 16 = .ok (.if_icmp .ge 25, 3) := by decide +kernel
theorem dX0_settle_19 : decode cX0_settle 19 = .ok (.iload_n 2, 1) := by decide +kernel
theorem dX0_settle_20 : decode cX0_settle 20 = .ok (.bipush 8, 2) := by decide +kernel
theorem dX0_settle_22 : decode cX0_settle 22 = .ok (.if_icmp .ge 19, 3) := by decide +kernel
theorem dX0_settle_25 : decode cX0_settle 25 = .ok (.aload_n 0, 1) := by decide +kernel
theorem dX0_settle_26 : decode cX0_settle 26 = .ok (.getfield 15, 3) := by decide +kernel
theorem dX0_settle_29 : decode cX0_settle 29 = .ok (.iload_n 2, 1) := by decide +kernel
theorem dX0_settle_30 : decode cX0_settle 30 = .ok (.dup2, 1) := by decide +kernel
theorem dX0_settle_31 : decode cX0_settle 31 = .ok (.iaload, 1) := by decide +kernel
theorem dX0_settle_32 : decode cX0_settle 32 = .ok (.iload_n 1, 1) := by decide +kernel
theorem dX0_settle_33 : decode cX0_settle 33 = .ok (.iand, 1) := by decide +kernel
theorem dX0_settle_34 : decode cX0_settle 34 = .ok (.iastore, 1) := by decide +kernel
theorem dX0_settle_35 : decode cX0_settle 35 = .ok (.iinc 2 1, 3) := by decide +kernel
theorem dX0_settle_38 : decode cX0_settle 38 = .ok (.goto (-27), 3) := by decide +kernel
theorem dX0_settle_41 : decode cX0_settle 41 = .ok (.iconst 0, 1) := by decide +kernel
theorem dX0_settle_42 : decode cX0_settle 42 = .ok (.istore_n 2, 1) := by decide +kernel
theorem dX0_settle_43 : decode cX0_settle 43 = .ok (.iconst 0, 1) := by decide +kernel
theorem dX0_settle_44 : decode cX0_settle 44 = .ok (.istore_n 3, 1) := by decide +kernel
theorem dX0_settle_45 : decode cX0_settle 45 = .ok (.iload_n 3, 1) := by decide +kernel
theorem dX0_settle_46 : decode cX0_settle 46 = .ok (.aload_n 0, 1) := by decide +kernel
theorem dX0_settle_47 : decode cX0_settle 47 = .ok (.getfield 28, 3) := by decide +kernel
theorem dX0_settle_50 : decode cX0_settle 50 = .ok (.if_icmp .ge 33, 3) := by decide +kernel
theorem dX0_settle_53 : decode cX0_settle 53 = .ok (.iload_n 3, 1) := by decide +kernel
theorem dX0_settle_54 : decode cX0_settle 54 = .ok (.iconst 5, 1) := by decide +kernel
theorem dX0_settle_55 : decode cX0_settle 55 = .ok (.if_icmp .ge 28, 3) := by decide +kernel
theorem dX0_settle_58 : decode cX0_settle 58 = .ok (.aload_n 0, 1) := by decide +kernel
theorem dX0_settle_59 : decode cX0_settle 59 = .ok (.getfield 18, 3) := by decide +kernel
theorem dX0_settle_62 : decode cX0_settle 62 = .ok (.iload_n 3, 1) := by decide +kernel
theorem dX0_settle_63 : decode cX0_settle 63 = .ok (.dup2, 1) := by decide +kernel
theorem dX0_settle_64 : decode cX0_settle 64 = .ok (.iaload, 1) := by decide +kernel
theorem dX0_settle_65 : decode cX0_settle 65 = .ok (.iload_n 1, 1) := by decide +kernel
theorem dX0_settle_66 : decode cX0_settle 66 = .ok (.iand, 1) := by decide +kernel
theorem dX0_settle_67 : decode cX0_settle 67 = .ok (.iastore, 1) := by decide +kernel
theorem dX0_settle_68 : decode cX0_settle 68 = .ok (.iload_n 2, 1) := by decide +kernel
theorem dX0_settle_69 : decode cX0_settle 69 = .ok (.aload_n 0, 1) := by decide +kernel
theorem dX0_settle_70 : decode cX0_settle 70 = .ok (.getfield 18, 3) := by decide +kernel
theorem dX0_settle_73 : decode cX0_settle 73 = .ok (.iload_n 3, 1) := by decide +kernel
theorem dX0_settle_74 : decode cX0_settle 74 = .ok (.iaload, 1) := by decide +kernel
theorem dX0_settle_75 : decode cX0_settle 75 = .ok (.ior, 1) := by decide +kernel
theorem dX0_settle_76 : decode cX0_settle 76 = .ok (.istore_n 2, 1) := by decide +kernel
theorem dX0_settle_77 : decode cX0_settle 77 = .ok (.iinc 3 1, 3) := by decide +kernel
theorem dX0_settle_80 : decode cX0_settle 80 = .ok (.goto (-35), 3) := by decide +kernel
theorem dX0_settle_83 : decode cX0_settle 83 = .ok (.aload_n 0, 1) := by decide +kernel
theorem dX0_settle_84 : decode cX0_settle 84 = .ok (.iload_n 2, 1) := by decide +kernel
theorem dX0_settle_85 : decode cX0_settle 85 = .ok (.aload_n 0, 1) := by decide +kernel
theorem dX0_settle_86 : decode cX0_settle 86 = .ok (.getfield 35, 3) := by decide +kernel
theorem dX0_settle_89 : decode cX0_settle 89 = .ok (.iconst (-1), 1) := by decide +kernel
theorem dX0_settle_90 : decode cX0_settle 90 = .ok (.ixor, 1) := by decide +kernel
theorem dX0_settle_91 : decode cX0_settle 91 = .ok (.iand, 1) := by decide +kernel
theorem dX0_settle_92 : decode cX0_settle 92 = .ok (.putfield 78, 3) := by decide +kernel
theorem dX0_settle_95 : decode cX0_settle 95 = .ok (.return_, 1) := by decide +kernel
theorem dX0_hasSaying_0 : decode cX0_hasSaying 0 = .ok (.iload_n 1, 1) := by decide +kernel
theorem dX0_hasSaying_1 : decode cX0_hasSaying 1 = .ok (.ifCond .lt 21, 3) := by decide +kernel
theorem dX0_hasSaying_4 : decode cX0_hasSaying 4 = .ok (.iload_n 1, 1) := by decide +kernel
theorem dX0_hasSaying_5 : decode cX0_hasSaying 5 = .ok (.aload_n 0, 1) := by decide +kernel
theorem dX0_hasSaying_6 : decode cX0_hasSaying 6 = .ok (.getfield 25, 3) := by decide +kernel
theorem dX0_hasSaying_9 : decode cX0_hasSaying 9 = .ok (.if_icmp .ge 13, 3) := by decide +kernel
theorem dX0_hasSaying_12 : decode cX0_hasSaying 12 = .ok (.iload_n 1, 1) := by decide +kernel
theorem dX0_hasSaying_13 : decode cX0_hasSaying 13 = .ok (.bipush 8, 2) := by decide +kernel
theorem dX0_hasSaying_15 : decode cX0_hasSaying 15 = .ok (.if_icmp .ge 7, 3) := by decide +kernel
theorem dX0_hasSaying_18 : decode cX0_hasSaying 18 = .ok (.iconst 1, 1) := by decide +kernel
theorem dX0_hasSaying_19 : decode cX0_hasSaying 19 = .ok (.goto 4, 3) := by decide +kernel
theorem dX0_hasSaying_22 : decode cX0_hasSaying 22 = .ok (.iconst 0, 1) := by decide +kernel
theorem dX0_hasSaying_23 : decode cX0_hasSaying 23 = .ok (.ireturn, 1) := by decide +kernel
theorem dX0_hasPerson_0 : decode cX0_hasPerson 0 = .ok (.iload_n 1, 1) := by decide +kernel
theorem dX0_hasPerson_1 : decode cX0_hasPerson 1 = .ok (.ifCond .lt 20, 3) := by decide +kernel
theorem dX0_hasPerson_4 : decode cX0_hasPerson 4 = .ok (.iload_n 1, 1) := by decide +kernel
theorem dX0_hasPerson_5 : decode cX0_hasPerson 5 = .ok (.aload_n 0, 1) := by decide +kernel
theorem dX0_hasPerson_6 : decode cX0_hasPerson 6 = .ok (.getfield 28, 3) := by decide +kernel
theorem dX0_hasPerson_9 : decode cX0_hasPerson 9 = .ok (.if_icmp .ge 12, 3) := by decide +kernel
theorem dX0_hasPerson_12 : decode cX0_hasPerson 12 = .ok (.iload_n 1, 1) := by decide +kernel
theorem dX0_hasPerson_13 : decode cX0_hasPerson 13 = .ok (.iconst 5, 1) := by decide +kernel
theorem dX0_hasPerson_14 : decode cX0_hasPerson 14 = .ok (.if_icmp .ge 7, 3) := by decide +kernel
theorem dX0_hasPerson_17 : decode cX0_hasPerson 17 = .ok (.iconst 1, 1) := by decide +kernel
theorem dX0_hasPerson_18 : decode cX0_hasPerson 18 = .ok (.goto 4, 3) := by decide +kernel
theorem dX0_hasPerson_21 : decode cX0_hasPerson 21 = .ok (.iconst 0, 1) := by decide +kernel
theorem dX0_hasPerson_22 : decode cX0_hasPerson 22 = .ok (.ireturn, 1) := by decide +kernel
theorem dX0_hasAll_0 : decode cX0_hasAll 0 = .ok (.iload_n 1, 1) := by decide +kernel
theorem dX0_hasAll_1 : decode cX0_hasAll 1 = .ok (.ifCond .lt 17, 3) := by decide +kernel
theorem dX0_hasAll_4 : decode cX0_hasAll 4 = .ok (.iload_n 1, 1) := by decide +kernel
theorem dX0_hasAll_5 : decode cX0_hasAll 5 = .ok (.iconst 1, 1) := by decide +kernel
theorem dX0_hasAll_6 : decode cX0_hasAll 6 = .ok (.aload_n 0, 1) := by decide +kernel
theorem dX0_hasAll_7 : decode cX0_hasAll 7 = .ok (.getfield 25, 3) := by decide +kernel
theorem dX0_hasAll_10 : decode cX0_hasAll 10 = .ok (.ishl, 1) := by decide +kernel
theorem dX0_hasAll_11 : decode cX0_hasAll 11 = .ok (.if_icmp .ge 7, 3) := by decide +kernel
theorem dX0_hasAll_14 : decode cX0_hasAll 14 = .ok (.iconst 1, 1) := by decide +kernel
theorem dX0_hasAll_15 : decode cX0_hasAll 15 = .ok (.goto 4, 3) := by decide +kernel
theorem dX0_hasAll_18 : decode cX0_hasAll 18 = .ok (.iconst 0, 1) := by decide +kernel
theorem dX0_hasAll_19 : decode cX0_hasAll 19 = .ok (.ireturn, 1) := by decide +kernel
theorem dX0_isSound_0 : decode cX0_isSound 0 = .ok (.aload_n 0, 1) := by decide +kernel
theorem dX0_isSound_1 : decode cX0_isSound 1 = .ok (.getfield 35, 3) := by decide +kernel
theorem dX0_isSound_4 : decode cX0_isSound 4 = .ok (.iconst 1, 1) := by decide +kernel
theorem dX0_isSound_5 : decode cX0_isSound 5 = .ok (.iload_n 1, 1) := by decide +kernel
theorem dX0_isSound_6 : decode cX0_isSound 6 = .ok (.ishl, 1) := by decide +kernel
theorem dX0_isSound_7 : decode cX0_isSound 7 = .ok (.iand, 1) := by decide +kernel
theorem dX0_isSound_8 : decode cX0_isSound 8 = .ok (.ifCond .eq 7, 3) := by decide +kernel
theorem dX0_isSound_11 : decode cX0_isSound 11 = .ok (.iconst 1, 1) := by decide +kernel
theorem dX0_isSound_12 : decode cX0_isSound 12 = .ok (.goto 4, 3) := by decide +kernel
theorem dX0_isSound_15 : decode cX0_isSound 15 = .ok (.iconst 0, 1) := by decide +kernel
theorem dX0_isSound_16 : decode cX0_isSound 16 = .ok (.ireturn, 1) := by decide +kernel
theorem dX0_worthOf_0 : decode cX0_worthOf 0 = .ok (.aload_n 0, 1) := by decide +kernel
theorem dX0_worthOf_1 : decode cX0_worthOf 1 = .ok (.iload_n 1, 1) := by decide +kernel
theorem dX0_worthOf_2 : decode cX0_worthOf 2 = .ok (.invokevirtual 81, 3) := by decide +kernel
theorem dX0_worthOf_5 : decode cX0_worthOf 5 = .ok (.ifCond .eq 12, 3) := by decide +kernel
theorem dX0_worthOf_8 : decode cX0_worthOf 8 = .ok (.aload_n 0, 1) := by decide +kernel
theorem dX0_worthOf_9 : decode cX0_worthOf 9 = .ok (.getfield 9, 3) := by decide +kernel
theorem dX0_worthOf_12 : decode cX0_worthOf 12 = .ok (.iload_n 1, 1) := by decide +kernel
theorem dX0_worthOf_13 : decode cX0_worthOf 13 = .ok (.iaload, 1) := by decide +kernel
theorem dX0_worthOf_14 : decode cX0_worthOf 14 = .ok (.goto 4, 3) := by decide +kernel
theorem dX0_worthOf_17 : decode cX0_worthOf 17 = .ok (.iconst 0, 1) := by decide +kernel
theorem dX0_worthOf_18 : decode cX0_worthOf 18 = .ok (.ireturn, 1) := by decide +kernel
theorem dX0_answersCount_0 : decode cX0_answersCount 0 = .ok (.aload_n 0, 1) := by decide +kernel
theorem dX0_answersCount_1 : decode cX0_answersCount 1 = .ok (.iload_n 1, 1) := by decide +kernel
theorem dX0_answersCount_2 : decode cX0_answersCount 2 = .ok (.invokevirtual 81, 3) := by decide +kernel
theorem dX0_answersCount_5 : decode cX0_answersCount 5 = .ok (.ifCond .eq 15, 3) := by decide +kernel
theorem dX0_answersCount_8 : decode cX0_answersCount 8 = .ok (.aload_n 0, 1) := by decide +kernel
theorem dX0_answersCount_9 : decode cX0_answersCount 9 = .ok (.getfield 15, 3) := by decide +kernel
theorem dX0_answersCount_12 : decode cX0_answersCount 12 = .ok (.iload_n 1, 1) := by decide +kernel
theorem dX0_answersCount_13 : decode cX0_answersCount 13 = .ok (.iaload, 1) := by decide +kernel
theorem dX0_answersCount_14 : decode cX0_answersCount 14 = .ok (.invokestatic 84, 3) := by decide +kernel
theorem dX0_answersCount_17 : decode cX0_answersCount 17 = .ok (.goto 4, 3) := by decide +kernel
theorem dX0_answersCount_20 : decode cX0_answersCount 20 = .ok (.iconst 0, 1) := by decide +kernel
theorem dX0_answersCount_21 : decode cX0_answersCount 21 = .ok (.ireturn, 1) := by decide +kernel
theorem dX0_knowers_0 : decode cX0_knowers 0 = .ok (.iconst 0, 1) := by decide +kernel
theorem dX0_knowers_1 : decode cX0_knowers 1 = .ok (.istore_n 2, 1) := by decide +kernel
theorem dX0_knowers_2 : decode cX0_knowers 2 = .ok (.iconst 0, 1) := by decide +kernel
theorem dX0_knowers_3 : decode cX0_knowers 3 = .ok (.istore_n 3, 1) := by decide +kernel
theorem dX0_knowers_4 : decode cX0_knowers 4 = .ok (.iload_n 3, 1) := by decide +kernel
theorem dX0_knowers_5 : decode cX0_knowers 5 = .ok (.aload_n 0, 1) := by decide +kernel
theorem dX0_knowers_6 : decode cX0_knowers 6 = .ok (.getfield 28, 3) := by decide +kernel
theorem dX0_knowers_9 : decode cX0_knowers 9 = .ok (.if_icmp .ge 33, 3) := by decide +kernel
theorem dX0_knowers_12 : decode cX0_knowers 12 = .ok (.iload_n 3, 1) := by decide +kernel
theorem dX0_knowers_13 : decode cX0_knowers 13 = .ok (.iconst 5, 1) := by decide +kernel
theorem dX0_knowers_14 : decode cX0_knowers 14 = .ok (.if_icmp .ge 28, 3) := by decide +kernel
theorem dX0_knowers_17 : decode cX0_knowers 17 = .ok (.aload_n 0, 1) := by decide +kernel
theorem dX0_knowers_18 : decode cX0_knowers 18 = .ok (.getfield 18, 3) := by decide +kernel
theorem dX0_knowers_21 : decode cX0_knowers 21 = .ok (.iload_n 3, 1) := by decide +kernel
theorem dX0_knowers_22 : decode cX0_knowers 22 = .ok (.iaload, 1) := by decide +kernel
theorem dX0_knowers_23 : decode cX0_knowers 23 = .ok (.iconst 1, 1) := by decide +kernel
theorem dX0_knowers_24 : decode cX0_knowers 24 = .ok (.iload_n 1, 1) := by decide +kernel
theorem dX0_knowers_25 : decode cX0_knowers 25 = .ok (.ishl, 1) := by decide +kernel
theorem dX0_knowers_26 : decode cX0_knowers 26 = .ok (.iand, 1) := by decide +kernel
theorem dX0_knowers_27 : decode cX0_knowers 27 = .ok (.ifCond .eq 9, 3) := by decide +kernel
theorem dX0_knowers_30 : decode cX0_knowers 30 = .ok (.iload_n 2, 1) := by decide +kernel
theorem dX0_knowers_31 : decode cX0_knowers 31 = .ok (.iconst 1, 1) := by decide +kernel
theorem dX0_knowers_32 : decode cX0_knowers 32 = .ok (.iload_n 3, 1) := by decide +kernel
theorem dX0_knowers_33 : decode cX0_knowers 33 = .ok (.ishl, 1) := by decide +kernel
theorem dX0_knowers_34 : decode cX0_knowers 34 = .ok (.ior, 1) := by decide +kernel
theorem dX0_knowers_35 : decode cX0_knowers 35 = .ok (.istore_n 2, 1) := by decide +kernel
theorem dX0_knowers_36 : decode cX0_knowers 36 = .ok (.iinc 3 1, 3) := by decide +kernel
theorem dX0_knowers_39 : decode cX0_knowers 39 = .ok (.goto (-35), 3) := by decide +kernel
theorem dX0_knowers_42 : decode cX0_knowers 42 = .ok (.iload_n 2, 1) := by decide +kernel
theorem dX0_knowers_43 : decode cX0_knowers 43 = .ok (.ireturn, 1) := by decide +kernel
theorem dX0_answering_0 : decode cX0_answering 0 = .ok (.iconst 0, 1) := by decide +kernel
theorem dX0_answering_1 : decode cX0_answering 1 = .ok (.istore_n 2, 1) := by decide +kernel
theorem dX0_answering_2 : decode cX0_answering 2 = .ok (.iconst 0, 1) := by decide +kernel
theorem dX0_answering_3 : decode cX0_answering 3 = .ok (.istore_n 3, 1) := by decide +kernel
theorem dX0_answering_4 : decode cX0_answering 4 = .ok (.iload_n 3, 1) := by decide +kernel
theorem dX0_answering_5 : decode cX0_answering 5 = .ok (.aload_n 0, 1) := by decide +kernel
theorem dX0_answering_6 : decode cX0_answering 6 = .ok (.getfield 25, 3) := by decide +kernel
theorem dX0_answering_9 : decode cX0_answering 9 = .ok (.if_icmp .ge 24, 3) := by decide +kernel
theorem dX0_answering_12 : decode cX0_answering 12 = .ok (.aload_n 0, 1) := by decide +kernel
theorem dX0_answering_13 : decode cX0_answering 13 = .ok (.iload_n 3, 1) := by decide +kernel
theorem dX0_answering_14 : decode cX0_answering 14 = .ok (.iload_n 1, 1) := by decide +kernel
theorem dX0_answering_15 : decode cX0_answering 15 = .ok (.invokevirtual 90, 3) := by decide +kernel
theorem dX0_answering_18 : decode cX0_answering 18 = .ok (.ifCond .eq 9, 3) := by decide +kernel
theorem dX0_answering_21 : decode cX0_answering 21 = .ok (.iload_n 2, 1) := by decide +kernel
theorem dX0_answering_22 : decode cX0_answering 22 = .ok (.iconst 1, 1) := by decide +kernel
theorem dX0_answering_23 : decode cX0_answering 23 = .ok (.iload_n 3, 1) := by decide +kernel
theorem dX0_answering_24 : decode cX0_answering 24 = .ok (.ishl, 1) := by decide +kernel
theorem dX0_answering_25 : decode cX0_answering 25 = .ok (.ior, 1) := by decide +kernel
theorem dX0_answering_26 : decode cX0_answering 26 = .ok (.istore_n 2, 1) := by decide +kernel
theorem dX0_answering_27 : decode cX0_answering 27 = .ok (.iinc 3 1, 3) := by decide +kernel
theorem dX0_answering_30 : decode cX0_answering 30 = .ok (.goto (-26), 3) := by decide +kernel
theorem dX0_answering_33 : decode cX0_answering 33 = .ok (.iload_n 2, 1) := by decide +kernel
theorem dX0_answering_34 : decode cX0_answering 34 = .ok (.ireturn, 1) := by decide +kernel
theorem dX0_canAnswer_0 : decode cX0_canAnswer 0 = .ok (.aload_n 0, 1) := by decide +kernel
theorem dX0_canAnswer_1 : decode cX0_canAnswer 1 = .ok (.iload_n 1, 1) := by decide +kernel
theorem dX0_canAnswer_2 : decode cX0_canAnswer 2 = .ok (.invokevirtual 81, 3) := by decide +kernel
theorem dX0_canAnswer_5 : decode cX0_canAnswer 5 = .ok (.ifCond .eq 29, 3) := by decide +kernel
theorem dX0_canAnswer_8 : decode cX0_canAnswer 8 = .ok (.aload_n 0, 1) := by decide +kernel
theorem dX0_canAnswer_9 : decode cX0_canAnswer 9 = .ok (.getfield 78, 3) := by decide +kernel
theorem dX0_canAnswer_12 : decode cX0_canAnswer 12 = .ok (.iconst 1, 1) := by decide +kernel
theorem dX0_canAnswer_13 : decode cX0_canAnswer 13 = .ok (.iload_n 1, 1) := by decide +kernel
theorem dX0_canAnswer_14 : decode cX0_canAnswer 14 = .ok (.ishl, 1) := by decide +kernel
theorem dX0_canAnswer_15 : decode cX0_canAnswer 15 = .ok (.iand, 1) := by decide +kernel
theorem dX0_canAnswer_16 : decode cX0_canAnswer 16 = .ok (.ifCond .eq 18, 3) := by decide +kernel
theorem dX0_canAnswer_19 : decode cX0_canAnswer 19 = .ok (.aload_n 0, 1) := by decide +kernel
theorem dX0_canAnswer_20 : decode cX0_canAnswer 20 = .ok (.getfield 15, 3) := by decide +kernel
theorem dX0_canAnswer_23 : decode cX0_canAnswer 23 = .ok (.iload_n 1, 1) := by decide +kernel
theorem dX0_canAnswer_24 : decode cX0_canAnswer 24 = .ok (.iaload, 1) := by decide +kernel
theorem dX0_canAnswer_25 : decode cX0_canAnswer 25 = .ok (.iload_n 2, 1) := by decide +kernel
theorem dX0_canAnswer_26 : decode cX0_canAnswer 26 = .ok (.iand, 1) := by decide +kernel
theorem dX0_canAnswer_27 : decode cX0_canAnswer 27 = .ok (.ifCond .eq 7, 3) := by decide +kernel
theorem dX0_canAnswer_30 : decode cX0_canAnswer 30 = .ok (.iconst 1, 1) := by decide +kernel
theorem dX0_canAnswer_31 : decode cX0_canAnswer 31 = .ok (.goto 4, 3) := by decide +kernel
theorem dX0_canAnswer_34 : decode cX0_canAnswer 34 = .ok (.iconst 0, 1) := by decide +kernel
theorem dX0_canAnswer_35 : decode cX0_canAnswer 35 = .ok (.ireturn, 1) := by decide +kernel
theorem dX0_answeredBy_0 : decode cX0_answeredBy 0 = .ok (.iconst 0, 1) := by decide +kernel
theorem dX0_answeredBy_1 : decode cX0_answeredBy 1 = .ok (.istore_n 2, 1) := by decide +kernel
theorem dX0_answeredBy_2 : decode cX0_answeredBy 2 = .ok (.iconst 0, 1) := by decide +kernel
theorem dX0_answeredBy_3 : decode cX0_answeredBy 3 = .ok (.istore_n 3, 1) := by decide +kernel
theorem dX0_answeredBy_4 : decode cX0_answeredBy 4 = .ok (.iload_n 3, 1) := by decide +kernel
theorem dX0_answeredBy_5 : decode cX0_answeredBy 5 = .ok (.aload_n 0, 1) := by decide +kernel
theorem dX0_answeredBy_6 : decode cX0_answeredBy 6 = .ok (.getfield 25, 3) := by decide +kernel
theorem dX0_answeredBy_9 : decode cX0_answeredBy 9 = .ok (.if_icmp .ge 32, 3) := by decide +kernel
theorem dX0_answeredBy_12 : decode cX0_answeredBy 12 = .ok (.iload_n 3, 1) := by decide +kernel
theorem dX0_answeredBy_13 : decode cX0_answeredBy 13 = .ok (.bipush 8, 2) := by decide +kernel
theorem dX0_answeredBy_15 : decode cX0_answeredBy 15 = .ok (.if_icmp .ge 26, 3) := by decide +kernel
theorem dX0_answeredBy_18 : decode cX0_answeredBy 18 = .ok (.iload_n 1, 1) := by decide +kernel
theorem dX0_answeredBy_19 : decode cX0_answeredBy 19 = .ok (.iconst 1, 1) := by decide +kernel
theorem dX0_answeredBy_20 : decode cX0_answeredBy 20 = .ok (.iload_n 3, 1) := by decide +kernel
theorem dX0_answeredBy_21 : decode cX0_answeredBy 21 = .ok (.ishl, 1) := by decide +kernel
theorem dX0_answeredBy_22 : decode cX0_answeredBy 22 = .ok (.iand, 1) := by decide +kernel
theorem dX0_answeredBy_23 : decode cX0_answeredBy 23 = .ok (.ifCond .eq 12, 3) := by decide +kernel
theorem dX0_answeredBy_26 : decode cX0_answeredBy 26 = .ok (.iload_n 2, 1) := by decide +kernel
theorem dX0_answeredBy_27 : decode cX0_answeredBy 27 = .ok (.aload_n 0, 1) := by decide +kernel
theorem dX0_answeredBy_28 : decode cX0_answeredBy 28 = .ok (.getfield 15, 3) := by decide +kernel
theorem dX0_answeredBy_31 : decode cX0_answeredBy 31 = .ok (.iload_n 3, 1) := by decide +kernel
theorem dX0_answeredBy_32 : decode cX0_answeredBy 32 = .ok (.iaload, 1) := by decide +kernel
theorem dX0_answeredBy_33 : decode cX0_answeredBy 33 = .ok (.ior, 1) := by decide +kernel
theorem dX0_answeredBy_34 : decode cX0_answeredBy 34 = .ok (.istore_n 2, 1) := by decide +kernel
theorem dX0_answeredBy_35 : decode cX0_answeredBy 35 = .ok (.iinc 3 1, 3) := by decide +kernel
theorem dX0_answeredBy_38 : decode cX0_answeredBy 38 = .ok (.goto (-34), 3) := by decide +kernel
theorem dX0_answeredBy_41 : decode cX0_answeredBy 41 = .ok (.iload_n 2, 1) := by decide +kernel
theorem dX0_answeredBy_42 : decode cX0_answeredBy 42 = .ok (.ireturn, 1) := by decide +kernel
theorem dX0_reachable_0 : decode cX0_reachable 0 = .ok (.iconst 0, 1) := by decide +kernel
theorem dX0_reachable_1 : decode cX0_reachable 1 = .ok (.istore_n 2, 1) := by decide +kernel
theorem dX0_reachable_2 : decode cX0_reachable 2 = .ok (.iconst 0, 1) := by decide +kernel
theorem dX0_reachable_3 : decode cX0_reachable 3 = .ok (.istore_n 3, 1) := by decide +kernel
theorem dX0_reachable_4 : decode cX0_reachable 4 = .ok (.iload_n 3, 1) := by decide +kernel
theorem dX0_reachable_5 : decode cX0_reachable 5 = .ok (.bipush 8, 2) := by decide +kernel
theorem dX0_reachable_7 : decode cX0_reachable 7 = .ok (.if_icmp .ge 29, 3) := by decide +kernel
theorem dX0_reachable_10 : decode cX0_reachable 10 = .ok (.aload_n 0, 1) := by decide +kernel
theorem dX0_reachable_11 : decode cX0_reachable 11 = .ok (.iload_n 1, 1) := by decide +kernel
theorem dX0_reachable_12 : decode cX0_reachable 12 = .ok (.iload_n 2, 1) := by decide +kernel
theorem dX0_reachable_13 : decode cX0_reachable 13 = .ok (.ior, 1) := by decide +kernel
theorem dX0_reachable_14 : decode cX0_reachable 14 = .ok (.invokevirtual 93, 3) := by decide +kernel
theorem dX0_reachable_17 : decode cX0_reachable 17 = .ok (.istore 4, 2) := by decide +kernel
theorem dX0_reachable_19 : decode cX0_reachable 19 = .ok (.iload 4, 2) := by decide +kernel
theorem dX0_reachable_21 : decode cX0_reachable 21 = .ok (.iload_n 2, 1) := by decide +kernel
theorem dX0_reachable_22 : decode cX0_reachable 22 = .ok (.if_icmp .ne 5, 3) := by decide +kernel
theorem dX0_reachable_25 : decode cX0_reachable 25 = .ok (.iload_n 2, 1) := by decide +kernel
theorem dX0_reachable_26 : decode cX0_reachable 26 = .ok (.ireturn, 1) := by decide +kernel
theorem dX0_reachable_27 : decode cX0_reachable 27 = .ok (.iload 4, 2) := by decide +kernel
theorem dX0_reachable_29 : decode cX0_reachable 29 = .ok (.istore_n 2, 1) := by decide +kernel
theorem dX0_reachable_30 : decode cX0_reachable 30 = .ok (.iinc 3 1, 3) := by decide +kernel
theorem dX0_reachable_33 : decode cX0_reachable 33 = .ok (.goto (-29), 3) := by decide +kernel
theorem dX0_reachable_36 : decode cX0_reachable 36 = .ok (.iload_n 2, 1) := by decide +kernel
theorem dX0_reachable_37 : decode cX0_reachable 37 = .ok (.ireturn, 1) := by decide +kernel
theorem dX0_canFollow_0 : decode cX0_canFollow 0 = .ok (.aload_n 0, 1) := by decide +kernel
theorem dX0_canFollow_1 : decode cX0_canFollow 1 = .ok (.iload_n 1, 1) := by decide +kernel
theorem dX0_canFollow_2 : decode cX0_canFollow 2 = .ok (.invokevirtual 96, 3) := by decide +kernel
theorem dX0_canFollow_5 : decode cX0_canFollow 5 = .ok (.ifCond .ne 12, 3) := by decide +kernel
theorem dX0_canFollow_8 : decode cX0_canFollow 8 = .ok (.aload_n 0, 1) := by decide +kernel
theorem dX0_canFollow_9 : decode cX0_canFollow 9 = .ok (.iload_n 1, 1) := by decide +kernel
theorem dX0_canFollow_10 : decode cX0_canFollow 10 = .ok (.iload_n 2, 1) := by decide +kernel
theorem dX0_canFollow_11 : decode cX0_canFollow 11 = .ok (.invokevirtual 90, 3) := by decide +kernel
theorem dX0_canFollow_14 : decode cX0_canFollow 14 = .ok (.ifCond .eq 7, 3) := by decide +kernel
theorem dX0_canFollow_17 : decode cX0_canFollow 17 = .ok (.iconst 1, 1) := by decide +kernel
theorem dX0_canFollow_18 : decode cX0_canFollow 18 = .ok (.goto 4, 3) := by decide +kernel
theorem dX0_canFollow_21 : decode cX0_canFollow 21 = .ok (.iconst 0, 1) := by decide +kernel
theorem dX0_canFollow_22 : decode cX0_canFollow 22 = .ok (.ireturn, 1) := by decide +kernel
end
section
theorem dX1_init_0 : decode cX1_init 0 = .ok (.aload_n 0, 1) := by decide +kernel
theorem dX1_init_1 : decode cX1_init 1 = .ok (.invokespecial 3, 3) := by decide +kernel
theorem dX1_init_4 : decode cX1_init 4 = .ok (.aload_n 0, 1) := by decide +kernel
theorem dX1_init_5 : decode cX1_init 5 = .ok (.bipush 30, 2) := by decide +kernel
theorem dX1_init_7 : decode cX1_init 7 = .ok (.newarray .int, 2) := by decide +kernel
theorem dX1_init_9 : decode cX1_init 9 = .ok (.putfield 9, 3) := by decide +kernel
theorem dX1_init_12 : decode cX1_init 12 = .ok (.aload_n 0, 1) := by decide +kernel
theorem dX1_init_13 : decode cX1_init 13 = .ok (.bipush 30, 2) := by decide +kernel
theorem dX1_init_15 : decode cX1_init 15 = .ok (.newarray .int, 2) := by decide +kernel
theorem dX1_init_17 : decode cX1_init 17 = .ok (.putfield 15, 3) := by decide +kernel
theorem dX1_init_20 : decode cX1_init 20 = .ok (.aload_n 0, 1) := by decide +kernel
theorem dX1_init_21 : decode cX1_init 21 = .ok (.bipush 30, 2) := by decide +kernel
theorem dX1_init_23 : decode cX1_init 23 = .ok (.newarray .int, 2) := by decide +kernel
theorem dX1_init_25 : decode cX1_init 25 = .ok (.putfield 18, 3) := by decide +kernel
theorem dX1_init_28 : decode cX1_init 28 = .ok (.aload_n 0, 1) := by decide +kernel
theorem dX1_init_29 : decode cX1_init 29 = .ok (.bipush 30, 2) := by decide +kernel
theorem dX1_init_31 : decode cX1_init 31 = .ok (.newarray .int, 2) := by decide +kernel
theorem dX1_init_33 : decode cX1_init 33 = .ok (.putfield 21, 3) := by decide +kernel
theorem dX1_init_36 : decode cX1_init 36 = .ok (.aload_n 0, 1) := by decide +kernel
theorem dX1_init_37 : decode cX1_init 37 = .ok (.bipush 30, 2) := by decide +kernel
theorem dX1_init_39 : decode cX1_init 39 = .ok (.newarray .int, 2) := by decide +kernel
theorem dX1_init_41 : decode cX1_init 41 = .ok (.putfield 24, 3) := by decide +kernel
theorem dX1_init_44 : decode cX1_init 44 = .ok (.aload_n 0, 1) := by decide +kernel
theorem dX1_init_45 : decode cX1_init 45 = .ok (.bipush 30, 2) := by decide +kernel
theorem dX1_init_47 : decode cX1_init 47 = .ok (.newarray .int, 2) := by decide +kernel
theorem dX1_init_49 : decode cX1_init 49 = .ok (.putfield 27, 3) := by decide +kernel
theorem dX1_init_52 : decode cX1_init 52 = .ok (.return_, 1) := by decide +kernel
theorem dX1_reset_0 : decode cX1_reset 0 = .ok (.aload_n 0, 1) := by decide +kernel
theorem dX1_reset_1 : decode cX1_reset 1 = .ok (.iconst 0, 1) := by decide +kernel
theorem dX1_reset_2 : decode cX1_reset 2 = .ok (.putfield 30, 3) := by decide +kernel
theorem dX1_reset_5 : decode cX1_reset 5 = .ok (.aload_n 0, 1) := by decide +kernel
theorem dX1_reset_6 : decode cX1_reset 6 = .ok (.iconst 0, 1) := by decide +kernel
theorem dX1_reset_7 : decode cX1_reset 7 = .ok (.putfield 34, 3) := by decide +kernel
theorem dX1_reset_10 : decode cX1_reset 10 = .ok (.aload_n 0, 1) := by decide +kernel
theorem dX1_reset_11 : decode cX1_reset 11 = .ok (.iconst 0, 1) := by decide +kernel
theorem dX1_reset_12 : decode cX1_reset 12 = .ok (.putfield 37, 3) := by decide +kernel
theorem dX1_reset_15 : decode cX1_reset 15 = .ok (.aload_n 0, 1) := by decide +kernel
theorem dX1_reset_16 : decode cX1_reset 16 = .ok (.iconst 0, 1) := by decide +kernel
theorem dX1_reset_17 : decode cX1_reset 17 = .ok (.putfield 40, 3) := by decide +kernel
theorem dX1_reset_20 : decode cX1_reset 20 = .ok (.return_, 1) := by decide +kernel
theorem dX1_become_0 : decode cX1_become 0 = .ok (.aload_n 1, 1) := by decide +kernel
theorem dX1_become_1 : decode cX1_become 1 = .ok (.getfield 9, 3) := by decide +kernel
theorem dX1_become_4 : decode cX1_become 4 = .ok (.iconst 0, 1) := by decide +kernel
theorem dX1_become_5 : decode cX1_become 5 = .ok (.aload_n 0, 1) := by decide +kernel
theorem dX1_become_6 : decode cX1_become 6 = .ok (.getfield 9, 3) := by decide +kernel
theorem dX1_become_9 : decode cX1_become 9 = .ok (.iconst 0, 1) := by decide +kernel
theorem dX1_become_10 : decode cX1_become 10 = .ok (.bipush 30, 2) := by decide +kernel
theorem dX1_become_12 : decode cX1_become 12 = .ok (.invokestatic 43, 3) := by decide +kernel
theorem dX1_become_15 : decode cX1_become 15 = .ok (.aload_n 1, 1) := by decide +kernel
theorem dX1_become_16 : decode cX1_become 16 = .ok (.getfield 15, 3) := by decide +kernel
theorem dX1_become_19 : decode cX1_become 19 = .ok (.iconst 0, 1) := by decide +kernel
theorem dX1_become_20 : decode cX1_become 20 = .ok (.aload_n 0, 1) := by decide +kernel
theorem dX1_become_21 : decode cX1_become 21 = .ok (.getfield 15, 3) := by decide +kernel
theorem dX1_become_24 : decode cX1_become 24 = .ok (.iconst 0, 1) := by decide +kernel
theorem dX1_become_25 : decode cX1_become 25 = .ok (.bipush 30, 2) := by decide +kernel
theorem dX1_become_27 : decode cX1_become 27 = .ok (.invokestatic 43, 3) := by decide +kernel
theorem dX1_become_30 : decode cX1_become 30 = .ok (.aload_n 1, 1) := by decide +kernel
theorem dX1_become_31 : decode cX1_become 31 = .ok (.getfield 18, 3) := by decide +kernel
theorem dX1_become_34 : decode cX1_become 34 = .ok (.iconst 0, 1) := by decide +kernel
theorem dX1_become_35 : decode cX1_become 35 = .ok (.aload_n 0, 1) := by decide +kernel
theorem dX1_become_36 : decode cX1_become 36 = .ok (.getfield 18, 3) := by decide +kernel
theorem dX1_become_39 : decode cX1_become 39 = .ok (.iconst 0, 1) := by decide +kernel
theorem dX1_become_40 : decode cX1_become 40 = .ok (.bipush 30, 2) := by decide +kernel
theorem dX1_become_42 : decode cX1_become 42 = .ok (.invokestatic 43, 3) := by decide +kernel
theorem dX1_become_45 : decode cX1_become 45 = .ok (.aload_n 1, 1) := by decide +kernel
theorem dX1_become_46 : decode cX1_become 46 = .ok (.getfield 21, 3) := by decide +kernel
theorem dX1_become_49 : decode cX1_become 49 = .ok (.iconst 0, 1) := by decide +kernel
theorem dX1_become_50 : decode cX1_become 50 = .ok (.aload_n 0, 1) := by decide +kernel
theorem dX1_become_51 : decode cX1_become 51 = .ok (.getfield 21, 3) := by decide +kernel
theorem dX1_become_54 : decode cX1_become 54 = .ok (.iconst 0, 1) := by decide +kernel
theorem dX1_become_55 : decode cX1_become 55 = .ok (.bipush 30, 2) := by decide +kernel
theorem dX1_become_57 : decode cX1_become 57 = .ok (.invokestatic 43, 3) := by decide +kernel
theorem dX1_become_60 : decode cX1_become 60 = .ok (.aload_n 1, 1) := by decide +kernel
theorem dX1_become_61 : decode cX1_become 61 = .ok (.getfield 24, 3) := by decide +kernel
theorem dX1_become_64 : decode cX1_become 64 = .ok (.iconst 0, 1) := by decide +kernel
theorem dX1_become_65 : decode cX1_become 65 = .ok (.aload_n 0, 1) := by decide +kernel
theorem dX1_become_66 : decode cX1_become 66 = .ok (.getfield 24, 3) := by decide +kernel
theorem dX1_become_69 : decode cX1_become 69 = .ok (.iconst 0, 1) := by decide +kernel
theorem dX1_become_70 : decode cX1_become 70 = .ok (.bipush 30, 2) := by decide +kernel
theorem dX1_become_72 : decode cX1_become 72 = .ok (.invokestatic 43, 3) := by decide +kernel
theorem dX1_become_75 : decode cX1_become 75 = .ok (.aload_n 1, 1) := by decide +kernel
theorem dX1_become_76 : decode cX1_become 76 = .ok (.getfield 27, 3) := by decide +kernel
theorem dX1_become_79 : decode cX1_become 79 = .ok (.iconst 0, 1) := by decide +kernel
theorem dX1_become_80 : decode cX1_become 80 = .ok (.aload_n 0, 1) := by decide +kernel
theorem dX1_become_81 : decode cX1_become 81 = .ok (.getfield 27, 3) := by decide +kernel
theorem dX1_become_84 : decode cX1_become 84 = .ok (.iconst 0, 1) := by decide +kernel
theorem dX1_become_85 : decode cX1_become 85 = .ok (.bipush 30, 2) := by decide +kernel
theorem dX1_become_87 : decode cX1_become 87 = .ok (.invokestatic 43, 3) := by decide +kernel
theorem dX1_become_90 : decode cX1_become 90 = .ok (.aload_n 0, 1) := by decide +kernel
theorem dX1_become_91 : decode cX1_become 91 = .ok (.aload_n 1, 1) := by decide +kernel
theorem dX1_become_92 : decode cX1_become 92 = .ok (.getfield 30, 3) := by decide +kernel
theorem dX1_become_95 : decode cX1_become 95 = .ok (.putfield 30, 3) := by decide +kernel
theorem dX1_become_98 : decode cX1_become 98 = .ok (.aload_n 0, 1) := by decide +kernel
theorem dX1_become_99 : decode cX1_become 99 = .ok (.aload_n 1, 1) := by decide +kernel
theorem dX1_become_100 : decode cX1_become 100 = .ok (.getfield 34, 3) := by decide +kernel
theorem dX1_become_103 : decode cX1_become 103 = .ok (.putfield 34, 3) := by decide +kernel
theorem dX1_become_106 : decode cX1_become 106 = .ok (.aload_n 0, 1) := by decide +kernel
theorem dX1_become_107 : decode cX1_become 107 = .ok (.aload_n 1, 1) := by decide +kernel
theorem dX1_become_108 : decode cX1_become 108 = .ok (.getfield 37, 3) := by decide +kernel
theorem dX1_become_111 : decode cX1_become 111 = .ok (.putfield 37, 3) := by decide +kernel
theorem dX1_become_114 : decode cX1_become 114 = .ok (.aload_n 0, 1) := by decide +kernel
theorem dX1_become_115 : decode cX1_become 115 = .ok (.aload_n 1, 1) := by decide +kernel
theorem dX1_become_116 : decode cX1_become 116 = .ok (.getfield 40, 3) := by decide +kernel
theorem dX1_become_119 : decode cX1_become 119 = .ok (.putfield 40, 3) := by decide +kernel
theorem dX1_become_122 : decode cX1_become 122 = .ok (.return_, 1) := by decide +kernel
theorem dX1_has_0 : decode cX1_has 0 = .ok (.iload_n 1, 1) := by decide +kernel
theorem dX1_has_1 : decode cX1_has 1 = .ok (.ifCond .lt 21, 3) := by decide +kernel
theorem dX1_has_4 : decode cX1_has 4 = .ok (.iload_n 1, 1) := by decide +kernel
theorem dX1_has_5 : decode cX1_has 5 = .ok (.aload_n 0, 1) := by decide +kernel
theorem dX1_has_6 : decode cX1_has 6 = .ok (.getfield 30, 3) := by decide +kernel
theorem dX1_has_9 : decode cX1_has 9 = .ok (.if_icmp .ge 13, 3) := by decide +kernel
theorem dX1_has_12 : decode cX1_has 12 = .ok (.iload_n 1, 1) := by decide +kernel
theorem dX1_has_13 : decode cX1_has 13 = .ok (.bipush 30, 2) := by decide +kernel
theorem dX1_has_15 : decode cX1_has 15 = .ok (.if_icmp .ge 7, 3) := by decide +kernel
theorem dX1_has_18 : decode cX1_has 18 = .ok (.iconst 1, 1) := by decide +kernel
theorem dX1_has_19 : decode cX1_has 19 = .ok (.goto 4, 3) := by decide +kernel
theorem dX1_has_22 : decode cX1_has 22 = .ok (.iconst 0, 1) := by decide +kernel
theorem dX1_has_23 : decode cX1_has 23 = .ok (.ireturn, 1) := by decide +kernel
theorem dX1_add_0 : decode cX1_add 0 = .ok (.aload_n 0, 1) := by decide +kernel
theorem dX1_add_1 : decode cX1_add 1 = .ok (.getfield 30, 3) := by decide +kernel
theorem dX1_add_4 : decode cX1_add 4 = .ok (.ifCond .lt 12, 3) := by decide +kernel
theorem dX1_add_7 : decode cX1_add 7 = .ok (.aload_n 0, 1) := by decide +kernel
theorem dX1_add_8 : decode cX1_add 8 = .ok (.getfield 30, 3) := by decide +kernel
theorem dX1_add_11 : decode cX1_add 11 = .ok (.bipush 30, 2) := by decide +kernel
theorem dX1_add_13 : decode cX1_add 13 = .ok (.if_icmp .lt 5, 3) := by decide +kernel
theorem dX1_add_16 : decode cX1_add 16 = .ok (.iconst 0, 1) := by decide +kernel
theorem dX1_add_17 : decode cX1_add 17 = .ok (.ireturn, 1) := by decide +kernel
theorem dX1_add_18 : decode cX1_add 18 = .ok (.aload_n 0, 1) := by decide +kernel
theorem dX1_add_19 : decode cX1_add 19 = .ok (.getfield 9, 3) := by decide +kernel
theorem dX1_add_22 : decode cX1_add 22 = .ok (.aload_n 0, 1) := by decide +kernel
theorem dX1_add_23 : decode cX1_add 23 = .ok (.getfield 30, 3) := by decide +kernel
theorem dX1_add_26 : decode cX1_add 26 = .ok (.iload_n 1, 1) := by decide +kernel
theorem dX1_add_27 : decode cX1_add 27 = .ok (.iastore, 1) := by decide +kernel
theorem dX1_add_28 : decode cX1_add 28 = .ok (.aload_n 0, 1) := by decide +kernel
theorem dX1_add_29 : decode cX1_add 29 = .ok (.getfield 15, 3) := by decide +kernel
theorem dX1_add_32 : decode cX1_add 32 = .ok (.aload_n 0, 1) := by decide +kernel
theorem dX1_add_33 : decode cX1_add 33 = .ok (.getfield 30, 3) := by decide +kernel
theorem dX1_add_36 : decode cX1_add 36 = .ok (.aload_n 0, 1) := by decide +kernel
theorem dX1_add_37 : decode cX1_add 37 = .ok (.getfield 34, 3) := by decide +kernel
theorem dX1_add_40 : decode cX1_add 40 = .ok (.iastore, 1) := by decide +kernel
theorem dX1_add_41 : decode cX1_add 41 = .ok (.aload_n 0, 1) := by decide +kernel
theorem dX1_add_42 : decode cX1_add 42 = .ok (.getfield 18, 3) := by decide +kernel
theorem dX1_add_45 : decode cX1_add 45 = .ok (.aload_n 0, 1) := by decide +kernel
theorem dX1_add_46 : decode cX1_add 46 = .ok (.getfield 30, 3) := by decide +kernel
theorem dX1_add_49 : decode cX1_add 49 = .ok (.iload_n 2, 1) := by decide +kernel
theorem dX1_add_50 : decode cX1_add 50 = .ok (.iastore, 1) := by decide +kernel
theorem dX1_add_51 : decode cX1_add 51 = .ok (.aload_n 0, 1) := by decide +kernel
theorem dX1_add_52 : decode cX1_add 52 = .ok (.getfield 21, 3) := by decide +kernel
theorem dX1_add_55 : decode cX1_add 55 = .ok (.aload_n 0, 1) := by decide +kernel
theorem dX1_add_56 : decode cX1_add 56 = .ok (.getfield 30, 3) := by decide +kernel
theorem dX1_add_59 : decode cX1_add 59 = .ok (.iload_n 3, 1) := by decide +kernel
theorem dX1_add_60 : decode cX1_add 60 = .ok (.iastore, 1) := by decide +kernel
theorem dX1_add_61 : decode cX1_add 61 = .ok (.aload_n 0, 1) := by decide +kernel
theorem dX1_add_62 : decode cX1_add 62 = .ok (.getfield 24, 3) := by decide +kernel
theorem dX1_add_65 : decode cX1_add 65 = .ok (.aload_n 0, 1) := by decide +kernel
theorem dX1_add_66 : decode cX1_add 66 = .ok (.getfield 30, 3) := by decide +kernel
theorem dX1_add_69 : decode cX1_add 69 = .ok (.aload_n 0, 1) := by decide +kernel
theorem dX1_add_70 : decode cX1_add 70 = .ok (.iload_n 3, 1) := by decide +kernel
theorem dX1_add_71 : decode cX1_add 71 = .ok (.invokevirtual 49, 3) := by decide +kernel
theorem dX1_add_74 : decode cX1_add 74 = .ok (.ifCond .eq 12, 3) := by decide +kernel
theorem dX1_add_77 : decode cX1_add 77 = .ok (.aload_n 0, 1) := by decide +kernel
theorem dX1_add_78 : decode cX1_add 78 = .ok (.getfield 24, 3) := by decide +kernel
theorem dX1_add_81 : decode cX1_add 81 = .ok (.iload_n 3, 1) := by decide +kernel
theorem dX1_add_82 : decode cX1_add 82 = .ok (.iaload, 1) := by decide +kernel
theorem dX1_add_83 : decode cX1_add 83 = .ok (.goto 7, 3) := by decide +kernel
theorem dX1_add_86 : decode cX1_add 86 = .ok (.aload_n 0, 1) := by decide +kernel
theorem dX1_add_87 : decode cX1_add 87 = .ok (.getfield 30, 3) := by decide +kernel
theorem dX1_add_90 : decode cX1_add 90 = .ok (.iastore, 1) := by decide +kernel
theorem dX1_add_91 : decode cX1_add 91 = .ok (.aload_n 0, 1) := by decide +kernel
theorem dX1_add_92 : decode cX1_add 92 = .ok (.getfield 27, 3) := by decide +kernel
theorem dX1_add_95 : decode cX1_add 95 = .ok (.aload_n 0, 1) := by decide +kernel
theorem dX1_add_96 : decode cX1_add 96 = .ok (.getfield 30, 3) := by decide +kernel
theorem dX1_add_99 : decode cX1_add 99 = .ok (.aload_n 0, 1) := by decide +kernel
theorem dX1_add_100 : decode cX1_add 100 = .ok (.iload_n 3, 1) := by decide +kernel
theorem dX1_add_101 : decode cX1_add 101 = .ok (.invokevirtual 49, 3) := by decide +kernel
theorem dX1_add_104 : decode cX1_add 104 = .ok (.ifCond .eq 14, 3) := by decide +kernel
theorem dX1_add_107 : decode cX1_add 107 = .ok (.aload_n 0, 1) := by decide +kernel
theorem dX1_add_108 : decode cX1_add 108 = .ok (.getfield 27, 3) := by decide +kernel
theorem dX1_add_111 : decode cX1_add 111 = .ok (.iload_n 3, 1) := by decide +kernel
theorem dX1_add_112 : decode cX1_add 112 = .ok (.iaload, 1) := by decide +kernel
theorem dX1_add_113 : decode cX1_add 113 = .ok (.iconst 1, 1) := by decide +kernel
theorem dX1_add_114 : decode cX1_add 114 = .ok (.iadd, 1) := by decide +kernel
theorem dX1_add_115 : decode cX1_add 115 = .ok (.goto 4, 3) := by decide +kernel
theorem dX1_add_118 : decode cX1_add 118 = .ok (.iconst 0, 1) := by decide +kernel
theorem dX1_add_119 : decode cX1_add 119 = .ok (.iastore, 1) := by decide +kernel
theorem dX1_add_120 : decode cX1_add 120 = .ok (.aload_n 0, 1) := by decide +kernel
theorem dX1_add_121 : decode cX1_add 121 = .ok (.dup, 1) := by decide +kernel
theorem dX1_add_122 : decode cX1_add 122 = .ok (.getfield 30, 3) := by decide +kernel
theorem dX1_add_125 : decode cX1_add 125 = .ok (.iconst 1, 1) := by decide +kernel
theorem dX1_add_126 : decode cX1_add 126 = .ok (.iadd, 1) := by decide +kernel
theorem dX1_add_127 : decode cX1_add 127 = .ok (.putfield 30, 3) := by decide +kernel
theorem dX1_add_130 : decode cX1_add 130 = .ok (.aload_n 0, 1) := by decide +kernel
theorem dX1_add_131 : decode cX1_add 131 = .ok (.iconst 0, 1) := by decide +kernel
theorem dX1_add_132 : decode cX1_add 132 = .ok (.invokevirtual 53, 3) := by decide +kernel
theorem dX1_add_135 : decode cX1_add 135 = .ok (.iconst 1, 1) := by decide +kernel
theorem dX1_add_136 : decode cX1_add 136 = .ok (.ireturn, 1) := by decide +kernel
theorem dX1_passHour_0 : decode cX1_passHour 0 = .ok (.aload_n 0, 1) := by decide +kernel
theorem dX1_passHour_1 : decode cX1_passHour 1 = .ok (.getfield 34, 3) := by decide +kernel
theorem dX1_passHour_4 : decode cX1_passHour 4 = .ok (.bipush 99, 2) := by decide +kernel
theorem dX1_passHour_6 : decode cX1_passHour 6 = .ok (.if_icmp .lt 5, 3) := by decide +kernel
theorem dX1_passHour_9 : decode cX1_passHour 9 = .ok (.iconst 0, 1) := by decide +kernel
theorem dX1_passHour_10 : decode cX1_passHour 10 = .ok (.ireturn, 1) := by decide +kernel
theorem dX1_passHour_11 : decode cX1_passHour 11 = .ok (.aload_n 0, 1) := by decide +kernel
theorem dX1_passHour_12 : decode cX1_passHour 12 = .ok (.dup, 1) := by decide +kernel
theorem dX1_passHour_13 : decode cX1_passHour 13 = .ok (.getfield 34, 3) := by decide +kernel
theorem dX1_passHour_16 : decode cX1_passHour 16 = .ok (.iconst 1, 1) := by decide +kernel
theorem dX1_passHour_17 : decode cX1_passHour 17 = .ok (.iadd, 1) := by decide +kernel
theorem dX1_passHour_18 : decode cX1_passHour 18 = .ok (.putfield 34, 3) := by decide +kernel
theorem dX1_passHour_21 : decode cX1_passHour 21 = .ok (.aload_n 0, 1) := by decide +kernel
theorem dX1_passHour_22 : decode cX1_passHour 22 = .ok (.iconst 1, 1) := by decide +kernel
theorem dX1_passHour_23 : decode cX1_passHour 23 = .ok (.invokevirtual 53, 3) := by decide +kernel
theorem dX1_passHour_26 : decode cX1_passHour 26 = .ok (.iconst 1, 1) := by decide +kernel
theorem dX1_passHour_27 : decode cX1_passHour 27 = .ok (.ireturn, 1) := by decide +kernel
theorem dX1_remember_0 : decode cX1_remember 0 = .ok (.aload_n 0, 1) := by decide +kernel
theorem dX1_remember_1 : decode cX1_remember 1 = .ok (.aload_n 0, 1) := by decide +kernel
theorem dX1_remember_2 : decode cX1_remember 2 = .ok (.getfield 40, 3) := by decide +kernel
theorem dX1_remember_5 : decode cX1_remember 5 = .ok (.iconst 1, 1) := by decide +kernel
theorem dX1_remember_6 : decode cX1_remember 6 = .ok (.ishl, 1) := by decide +kernel
theorem dX1_remember_7 : decode cX1_remember 7 = .ok (.iload_n 1, 1) := by decide +kernel
theorem dX1_remember_8 : decode cX1_remember 8 = .ok (.ior, 1) := by decide +kernel
theorem dX1_remember_9 : decode cX1_remember 9 = .ok (.sipush 4095, 3) := by decide +kernel
theorem dX1_remember_12 : decode cX1_remember 12 = .ok (.iand, 1) := by decide +kernel
theorem dX1_remember_13 : decode cX1_remember 13 = .ok (.putfield 40, 3) := by decide +kernel
theorem dX1_remember_16 : decode cX1_remember 16 = .ok (.aload_n 0, 1) := by decide +kernel
theorem dX1_remember_17 : decode cX1_remember 17 = .ok (.bipush 12, 2) := by decide +kernel
theorem dX1_remember_19 : decode cX1_remember 19 = .ok (.aload_n 0, 1) := by decide +kernel
theorem dX1_remember_20 : decode cX1_remember 20 = .ok (.getfield 37, 3) := by decide +kernel
theorem dX1_remember_23 : decode cX1_remember 23 = .ok (.iconst 1, 1) := by decide +kernel
theorem dX1_remember_24 : decode cX1_remember 24 = .ok (.iadd, 1) := by decide +kernel
theorem dX1_remember_25 : decode cX1_remember 25 = .ok (.invokestatic 57, 3) := by decide +kernel
theorem dX1_remember_28 : decode cX1_remember 28 = .ok (.putfield 37, 3) := by decide +kernel
theorem dX1_remember_31 : decode cX1_remember 31 = .ok (.return_, 1) := by decide +kernel
theorem dX1_takeBack_0 : decode cX1_takeBack 0 = .ok (.aload_n 0, 1) := by decide +kernel
theorem dX1_takeBack_1 : decode cX1_takeBack 1 = .ok (.getfield 37, 3) := by decide +kernel
theorem dX1_takeBack_4 : decode cX1_takeBack 4 = .ok (.ifCond .gt 5, 3) := by decide +kernel
theorem dX1_takeBack_7 : decode cX1_takeBack 7 = .ok (.iconst 0, 1) := by decide +kernel
theorem dX1_takeBack_8 : decode cX1_takeBack 8 = .ok (.ireturn, 1) := by decide +kernel
theorem dX1_takeBack_9 : decode cX1_takeBack 9 = .ok (.aload_n 0, 1) := by decide +kernel
theorem dX1_takeBack_10 : decode cX1_takeBack 10 = .ok (.getfield 40, 3) := by decide +kernel
theorem dX1_takeBack_13 : decode cX1_takeBack 13 = .ok (.iconst 1, 1) := by decide +kernel
theorem dX1_takeBack_14 : decode cX1_takeBack 14 = .ok (.iand, 1) := by decide +kernel
theorem dX1_takeBack_15 : decode cX1_takeBack 15 = .ok (.ifCond .eq 16, 3) := by decide +kernel
theorem dX1_takeBack_18 : decode cX1_takeBack 18 = .ok (.aload_n 0, 1) := by decide +kernel
theorem dX1_takeBack_19 : decode cX1_takeBack 19 = .ok (.dup, 1) := by decide +kernel
theorem dX1_takeBack_20 : decode cX1_takeBack 20 = .ok (.getfield 34, 3) := by decide +kernel
theorem dX1_takeBack_23 : decode cX1_takeBack 23 = .ok (.iconst 1, 1) := by decide +kernel
theorem dX1_takeBack_24 : decode cX1_takeBack 24 = .ok (.isub, 1) := by decide +kernel
theorem dX1_takeBack_25 : decode cX1_takeBack 25 = .ok (.putfield 34, 3) := by decide +kernel
theorem dX1_takeBack_28 : decode cX1_takeBack 28 = .ok (.goto 13, 3) := by decide +kernel
theorem dX1_takeBack_31 : decode cX1_takeBack 31 = .ok (.aload_n 0, 1) := by decide +kernel
theorem dX1_takeBack_32 : decode cX1_takeBack 32 = .ok (.dup, 1) := by decide +kernel
theorem dX1_takeBack_33 : decode cX1_takeBack 33 = .ok (.getfield 30, 3) := by decide +kernel
theorem dX1_takeBack_36 : decode cX1_takeBack 36 = .ok (.iconst 1, 1) := by decide +kernel
theorem dX1_takeBack_37 : decode cX1_takeBack 37 = .ok (.isub, 1) := by decide +kernel
theorem dX1_takeBack_38 : decode cX1_takeBack 38 = .ok (.putfield 30, 3) := by decide +kernel
theorem dX1_takeBack_41 : decode cX1_takeBack 41 = .ok (.aload_n 0, 1) := by decide +kernel
theorem dX1_takeBack_42 : decode cX1_takeBack 42 = .ok (.dup, 1) := by decide +kernel
theorem dX1_takeBack_43 : decode cX1_takeBack 43 = .ok (.getfield 40, 3) := by decide +kernel
theorem dX1_takeBack_46 : decode cX1_takeBack 46 = .ok (.iconst 1, 1) := by decide +kernel
theorem dX1_takeBack_47 : decode cX1_takeBack 47 = .ok (.ishr, 1) := by decide +kernel
theorem dX1_takeBack_48 : decode cX1_takeBack 48 = .ok (.putfield 40, 3) := by decide +kernel
theorem dX1_takeBack_51 : decode cX1_takeBack 51 = .ok (.aload_n 0, 1) := by decide +kernel
theorem dX1_takeBack_52 : decode cX1_takeBack 52 = .ok (.dup, 1) := by decide +kernel
theorem dX1_takeBack_53 : decode cX1_takeBack 53 = .ok (.getfield 37, 3) := by decide +kernel
theorem dX1_takeBack_56 : decode cX1_takeBack 56 = .ok (.iconst 1, 1) := by decide +kernel
theorem dX1_takeBack_57 : decode cX1_takeBack 57 = .ok (.isub, 1) := by decide +kernel
theorem dX1_takeBack_58 : decode cX1_takeBack 58 = .ok (.putfield 37, 3) := by decide +kernel
theorem dX1_takeBack_61 : decode cX1_takeBack 61 = .ok (.iconst 1, 1) := by decide +kernel
theorem dX1_takeBack_62 : decode cX1_takeBack 62 = .ok (.ireturn, 1) := by decide +kernel
theorem dX1_timesIn_0 : decode cX1_timesIn 0 = .ok (.iconst 0, 1) := by decide +kernel
theorem dX1_timesIn_1 : decode cX1_timesIn 1 = .ok (.istore_n 2, 1) := by decide +kernel
theorem dX1_timesIn_2 : decode cX1_timesIn 2 = .ok (.iconst 0, 1) := by decide +kernel
theorem dX1_timesIn_3 : decode cX1_timesIn 3 = .ok (.istore_n 3, 1) := by decide +kernel
theorem dX1_timesIn_4 : decode cX1_timesIn 4 = .ok (.iload_n 3, 1) := by decide +kernel
theorem dX1_timesIn_5 : decode cX1_timesIn 5 = .ok (.aload_n 0, 1) := by decide +kernel
theorem dX1_timesIn_6 : decode cX1_timesIn 6 = .ok (.getfield 30, 3) := by decide +kernel
theorem dX1_timesIn_9 : decode cX1_timesIn 9 = .ok (.if_icmp .ge 22, 3) := by decide +kernel
theorem dX1_timesIn_12 : decode cX1_timesIn 12 = .ok (.aload_n 0, 1) := by decide +kernel
theorem dX1_timesIn_13 : decode cX1_timesIn 13 = .ok (.getfield 9, 3) := by decide +kernel
theorem dX1_timesIn_16 : decode cX1_timesIn 16 = .ok (.iload_n 3, 1) := by decide +kernel
theorem dX1_timesIn_17 : decode cX1_timesIn 17 = .ok (.iaload, 1) := by decide +kernel
theorem dX1_timesIn_18 : decode cX1_timesIn 18 = .ok (.iload_n 1, 1) := by decide +kernel
theorem dX1_timesIn_19 : decode cX1_timesIn 19 = .ok (.if_icmp .ne 6, 3) := by decide +kernel
theorem dX1_timesIn_22 : decode cX1_timesIn 22 = .ok (.iinc 2 1, 3) := by decide +kernel
theorem dX1_timesIn_25 : decode cX1_timesIn 25 = .ok (.iinc 3 1, 3) := by decide +kernel
theorem dX1_timesIn_28 : decode cX1_timesIn 28 = .ok (.goto (-24), 3) := by decide +kernel
theorem dX1_timesIn_31 : decode cX1_timesIn 31 = .ok (.iload_n 2, 1) := by decide +kernel
theorem dX1_timesIn_32 : decode cX1_timesIn 32 = .ok (.ireturn, 1) := by decide +kernel
theorem dX1_timesBy_0 : decode cX1_timesBy 0 = .ok (.iconst 0, 1) := by decide +kernel
theorem dX1_timesBy_1 : decode cX1_timesBy 1 = .ok (.istore_n 2, 1) := by decide +kernel
theorem dX1_timesBy_2 : decode cX1_timesBy 2 = .ok (.iconst 0, 1) := by decide +kernel
theorem dX1_timesBy_3 : decode cX1_timesBy 3 = .ok (.istore_n 3, 1) := by decide +kernel
theorem dX1_timesBy_4 : decode cX1_timesBy 4 = .ok (.iload_n 3, 1) := by decide +kernel
theorem dX1_timesBy_5 : decode cX1_timesBy 5 = .ok (.aload_n 0, 1) := by decide +kernel
theorem dX1_timesBy_6 : decode cX1_timesBy 6 = .ok (.getfield 30, 3) := by decide +kernel
theorem dX1_timesBy_9 : decode cX1_timesBy 9 = .ok (.if_icmp .ge 22, 3) := by decide +kernel
theorem dX1_timesBy_12 : decode cX1_timesBy 12 = .ok (.aload_n 0, 1) := by decide +kernel
theorem dX1_timesBy_13 : decode cX1_timesBy 13 = .ok (.getfield 18, 3) := by decide +kernel
theorem dX1_timesBy_16 : decode cX1_timesBy 16 = .ok (.iload_n 3, 1) := by decide +kernel
theorem dX1_timesBy_17 : decode cX1_timesBy 17 = .ok (.iaload, 1) := by decide +kernel
theorem dX1_timesBy_18 : decode cX1_timesBy 18 = .ok (.iload_n 1, 1) := by decide +kernel
theorem dX1_timesBy_19 : decode cX1_timesBy 19 = .ok (.if_icmp .ne 6, 3) := by decide +kernel
theorem dX1_timesBy_22 : decode cX1_timesBy 22 = .ok (.iinc 2 1, 3) := by decide +kernel
theorem dX1_timesBy_25 : decode cX1_timesBy 25 = .ok (.iinc 3 1, 3) := by decide +kernel
theorem dX1_timesBy_28 : decode cX1_timesBy 28 = .ok (.goto (-24), 3) := by decide +kernel
theorem dX1_timesBy_31 : decode cX1_timesBy 31 = .ok (.iload_n 2, 1) := by decide +kernel
theorem dX1_timesBy_32 : decode cX1_timesBy 32 = .ok (.ireturn, 1) := by decide +kernel
theorem dX1_isOpen_0 : decode cX1_isOpen 0 = .ok (.aload_n 0, 1) := by decide +kernel
theorem dX1_isOpen_1 : decode cX1_isOpen 1 = .ok (.iload_n 1, 1) := by decide +kernel
theorem dX1_isOpen_2 : decode cX1_isOpen 2 = .ok (.invokevirtual 63, 3) := by decide +kernel
theorem dX1_isOpen_5 : decode cX1_isOpen 5 = .ok (.bipush (-9), 2) := by decide +kernel
theorem dX1_isOpen_7 : decode cX1_isOpen 7 = .ok (.if_icmp .ne 7, 3) := by decide +kernel
theorem dX1_isOpen_10 : decode cX1_isOpen 10 = .ok (.iconst 1, 1) := by decide +kernel
theorem dX1_isOpen_11 : decode cX1_isOpen 11 = .ok (.goto 4, 3) := by decide +kernel
theorem dX1_isOpen_14 : decode cX1_isOpen 14 = .ok (.iconst 0, 1) := by decide +kernel
theorem dX1_isOpen_15 : decode cX1_isOpen 15 = .ok (.ireturn, 1) := by decide +kernel
theorem dX1_firstAnswerTo_0 : decode cX1_firstAnswerTo 0 = .ok (.iconst 0, 1) := by decide +kernel
theorem dX1_firstAnswerTo_1 : decode cX1_firstAnswerTo 1 = .ok (.istore_n 2, 1) := by decide +kernel
theorem dX1_firstAnswerTo_2 : decode cX1_firstAnswerTo 2 = .ok (.iload_n 2, 1) := by decide +kernel
theorem dX1_firstAnswerTo_3 : decode cX1_firstAnswerTo 3 = .ok (.aload_n 0, 1) := by decide +kernel
theorem dX1_firstAnswerTo_4 : decode cX1_firstAnswerTo 4 = .ok (.getfield 30, 3) := by decide +kernel
theorem dX1_firstAnswerTo_7 : decode cX1_firstAnswerTo 7 = .ok (.if_icmp .ge 21, 3) := by decide +kernel
theorem dX1_firstAnswerTo_10 : decode cX1_firstAnswerTo 10 = .ok (.aload_n 0, 1) := by decide +kernel
theorem dX1_firstAnswerTo_11 : decode cX1_firstAnswerTo 11 = .ok (.getfield 21, 3) := by decide +kernel
theorem dX1_firstAnswerTo_14 : decode cX1_firstAnswerTo 14 = .ok (.iload_n 2, 1) := by decide +kernel
theorem dX1_firstAnswerTo_15 : decode cX1_firstAnswerTo 15 = .ok (.iaload, 1) := by decide +kernel
theorem dX1_firstAnswerTo_16 : decode cX1_firstAnswerTo 16 = .ok (.iload_n 1, 1) := by decide +kernel
theorem dX1_firstAnswerTo_17 : decode cX1_firstAnswerTo 17 = .ok (.if_icmp .ne 5, 3) := by decide +kernel
theorem dX1_firstAnswerTo_20 : decode cX1_firstAnswerTo 20 = .ok (.iload_n 2, 1) := by decide +kernel
theorem dX1_firstAnswerTo_21 : decode cX1_firstAnswerTo 21 = .ok (.ireturn, 1) := by decide +kernel
theorem dX1_firstAnswerTo_22 : decode cX1_firstAnswerTo 22 = .ok (.iinc 2 1, 3) := by decide +kernel
theorem dX1_firstAnswerTo_25 : decode cX1_firstAnswerTo 25 = .ok (.goto (-23), 3) := by decide +kernel
theorem dX1_firstAnswerTo_28 : decode cX1_firstAnswerTo 28 = .ok (.bipush (-9), 2) := by decide +kernel
theorem dX1_firstAnswerTo_30 : decode cX1_firstAnswerTo 30 = .ok (.ireturn, 1) := by decide +kernel
theorem dX1_isThere_0 : decode cX1_isThere 0 = .ok (.aload_n 0, 1) := by decide +kernel
theorem dX1_isThere_1 : decode cX1_isThere 1 = .ok (.iload_n 1, 1) := by decide +kernel
theorem dX1_isThere_2 : decode cX1_isThere 2 = .ok (.invokevirtual 49, 3) := by decide +kernel
theorem dX1_isThere_5 : decode cX1_isThere 5 = .ok (.ifCond .eq 24, 3) := by decide +kernel
theorem dX1_isThere_8 : decode cX1_isThere 8 = .ok (.aload_n 0, 1) := by decide +kernel
theorem dX1_isThere_9 : decode cX1_isThere 9 = .ok (.getfield 34, 3) := by decide +kernel
theorem dX1_isThere_12 : decode cX1_isThere 12 = .ok (.iload_n 2, 1) := by decide +kernel
theorem dX1_isThere_13 : decode cX1_isThere 13 = .ok (.iadd, 1) := by decide +kernel
theorem dX1_isThere_14 : decode cX1_isThere 14 = .ok (.aload_n 0, 1) := by decide +kernel
theorem dX1_isThere_15 : decode cX1_isThere 15 = .ok (.getfield 15, 3) := by decide +kernel
theorem dX1_isThere_18 : decode cX1_isThere 18 = .ok (.iload_n 1, 1) := by decide +kernel
theorem dX1_isThere_19 : decode cX1_isThere 19 = .ok (.iaload, 1) := by decide +kernel
theorem dX1_isThere_20 : decode cX1_isThere 20 = .ok (.isub, 1) := by decide +kernel
theorem dX1_isThere_21 : decode cX1_isThere 21 = .ok (.iload_n 3, 1) := by decide +kernel
theorem dX1_isThere_22 : decode cX1_isThere 22 = .ok (.if_icmp .gt 7, 3) := by decide +kernel
theorem dX1_isThere_25 : decode cX1_isThere 25 = .ok (.iconst 1, 1) := by decide +kernel
theorem dX1_isThere_26 : decode cX1_isThere 26 = .ok (.goto 4, 3) := by decide +kernel
theorem dX1_isThere_29 : decode cX1_isThere 29 = .ok (.iconst 0, 1) := by decide +kernel
theorem dX1_isThere_30 : decode cX1_isThere 30 = .ok (.ireturn, 1) := by decide +kernel
theorem dX1_there_0 : decode cX1_there 0 = .ok (.iconst 0, 1) := by decide +kernel
theorem dX1_there_1 : decode cX1_there 1 = .ok (.istore_n 3, 1) := by decide +kernel
theorem dX1_there_2 : decode cX1_there 2 = .ok (.iconst 0, 1) := by decide +kernel
theorem dX1_there_3 : decode cX1_there 3 = .ok (.istore 4, 2) := by decide +kernel
theorem dX1_there_5 : decode cX1_there 5 = .ok (.iload 4, 2) := by decide +kernel
theorem dX1_there_7 : decode cX1_there 7 = .ok (.aload_n 0, 1) := by decide +kernel
theorem dX1_there_8 : decode cX1_there 8 = .ok (.getfield 30, 3) := by decide +kernel
theorem dX1_there_11 : decode cX1_there 11 = .ok (.if_icmp .ge 32, 3) := by decide +kernel
theorem dX1_there_14 : decode cX1_there 14 = .ok (.aload_n 0, 1) := by decide +kernel
theorem dX1_there_15 : decode cX1_there 15 = .ok (.iload 4, 2) := by decide +kernel
theorem dX1_there_17 : decode cX1_there 17 = .ok (.iload_n 1, 1) := by decide +kernel
theorem dX1_there_18 : decode cX1_there 18 = .ok (.iload_n 2, 1) := by decide +kernel
theorem dX1_there_19 : decode cX1_there 19 = .ok (.invokevirtual 67, 3) := by decide +kernel
theorem dX1_there_22 : decode cX1_there 22 = .ok (.ifCond .eq 15, 3) := by decide +kernel
theorem dX1_there_25 : decode cX1_there 25 = .ok (.iload_n 3, 1) := by decide +kernel
theorem dX1_there_26 : decode cX1_there 26 = .ok (.iconst 1, 1) := by decide +kernel
theorem dX1_there_27 : decode cX1_there 27 = .ok (.aload_n 0, 1) := by decide +kernel
theorem dX1_there_28 : decode cX1_there 28 = .ok (.getfield 9, 3) := by decide +kernel
theorem dX1_there_31 : decode cX1_there 31 = .ok (.iload 4, 2) := by decide +kernel
theorem dX1_there_33 : decode cX1_there 33 = .ok (.iaload, 1) := by decide +kernel
theorem dX1_there_34 : decode cX1_there 34 = .ok (.ishl, 1) := by decide +kernel
theorem dX1_there_35 : decode cX1_there 35 = .ok (.ior, 1) := by decide +kernel
theorem dX1_there_36 : decode cX1_there 36 = .ok (.istore_n 3, 1) := by decide +kernel
theorem dX1_there_37 : decode cX1_there 37 = .ok (.iinc 4 1, 3) := by decide +kernel
theorem dX1_there_40 : decode cX1_there 40 = .ok (.goto (-35), 3) := by decide +kernel
theorem dX1_there_43 : decode cX1_there 43 = .ok (.iload_n 3, 1) := by decide +kernel
theorem dX1_there_44 : decode cX1_there 44 = .ok (.ireturn, 1) := by decide +kernel
theorem dX1_latestOf_0 : decode cX1_latestOf 0 = .ok (.aload_n 0, 1) := by decide +kernel
theorem dX1_latestOf_1 : decode cX1_latestOf 1 = .ok (.getfield 30, 3) := by decide +kernel
theorem dX1_latestOf_4 : decode cX1_latestOf 4 = .ok (.iconst 1, 1) := by decide +kernel
theorem dX1_latestOf_5 : decode cX1_latestOf 5 = .ok (.isub, 1) := by decide +kernel
theorem dX1_latestOf_6 : decode cX1_latestOf 6 = .ok (.istore_n 3, 1) := by decide +kernel
theorem dX1_latestOf_7 : decode cX1_latestOf 7 = .ok (.iload_n 3, 1) := by decide +kernel
theorem dX1_latestOf_8 : decode cX1_latestOf 8 = .ok (.ifCond .lt 34, 3) := by decide +kernel
theorem dX1_latestOf_11 : decode cX1_latestOf 11 = .ok (.iload_n 1, 1) := by decide +kernel
theorem dX1_latestOf_12 : decode cX1_latestOf 12 = .ok (.iconst 1, 1) := by decide +kernel
theorem dX1_latestOf_13 : decode cX1_latestOf 13 = .ok (.aload_n 0, 1) := by decide +kernel
theorem dX1_latestOf_14 : decode cX1_latestOf 14 = .ok (.getfield 9, 3) := by decide +kernel
theorem dX1_latestOf_17 : decode cX1_latestOf 17 = .ok (.iload_n 3, 1) := by decide +kernel
theorem dX1_latestOf_18 : decode cX1_latestOf 18 = .ok (.iaload, 1) := by decide +kernel
theorem dX1_latestOf_19 : decode cX1_latestOf 19 = .ok (.ishl, 1) := by decide +kernel
theorem dX1_latestOf_20 : decode cX1_latestOf 20 = .ok (.iand, 1) := by decide +kernel
theorem dX1_latestOf_21 : decode cX1_latestOf 21 = .ok (.ifCond .eq 15, 3) := by decide +kernel
theorem dX1_latestOf_24 : decode cX1_latestOf 24 = .ok (.aload_n 0, 1) := by decide +kernel
theorem dX1_latestOf_25 : decode cX1_latestOf 25 = .ok (.iload_n 3, 1) := by decide +kernel
theorem dX1_latestOf_26 : decode cX1_latestOf 26 = .ok (.iconst 0, 1) := by decide +kernel
theorem dX1_latestOf_27 : decode cX1_latestOf 27 = .ok (.iload_n 2, 1) := by decide +kernel
theorem dX1_latestOf_28 : decode cX1_latestOf 28 = .ok (.invokevirtual 67, 3) := by decide +kernel
theorem dX1_latestOf_31 : decode cX1_latestOf 31 = .ok (.ifCond .eq 5, 3) := by decide +kernel
theorem dX1_latestOf_34 : decode cX1_latestOf 34 = .ok (.iload_n 3, 1) := by decide +kernel
theorem dX1_latestOf_35 : decode cX1_latestOf 35 = .ok (.ireturn, 1) := by decide +kernel
theorem dX1_latestOf_36 : decode cX1_latestOf 36 = .ok (.iinc 3 (-1), 3) := by decide +kernel
theorem dX1_latestOf_39 : decode cX1_latestOf 39 = .ok (.goto (-32), 3) := by decide +kernel
theorem dX1_latestOf_42 : decode cX1_latestOf 42 = .ok (.bipush (-9), 2) := by decide +kernel
theorem dX1_latestOf_44 : decode cX1_latestOf 44 = .ok (.ireturn, 1) := by decide +kernel
theorem dX1_openOnes_0 : decode cX1_openOnes 0 = .ok (.iconst 0, 1) := by decide +kernel
theorem dX1_openOnes_1 : decode cX1_openOnes 1 = .ok (.istore_n 1, 1) := by decide +kernel
theorem dX1_openOnes_2 : decode cX1_openOnes 2 = .ok (.iconst 0, 1) := by decide +kernel
theorem dX1_openOnes_3 : decode cX1_openOnes 3 = .ok (.istore_n 2, 1) := by decide +kernel
theorem dX1_openOnes_4 : decode cX1_openOnes 4 = .ok (.iload_n 2, 1) := by decide +kernel
theorem dX1_openOnes_5 : decode cX1_openOnes 5 = .ok (.aload_n 0, 1) := by decide +kernel
theorem dX1_openOnes_6 : decode cX1_openOnes 6 = .ok (.getfield 30, 3) := by decide +kernel
theorem dX1_openOnes_9 : decode cX1_openOnes 9 = .ok (.if_icmp .ge 20, 3) := by decide +kernel
theorem dX1_openOnes_12 : decode cX1_openOnes 12 = .ok (.aload_n 0, 1) := by decide +kernel
theorem dX1_openOnes_13 : decode cX1_openOnes 13 = .ok (.iload_n 2, 1) := by decide +kernel
theorem dX1_openOnes_14 : decode cX1_openOnes 14 = .ok (.invokevirtual 71, 3) := by decide +kernel
theorem dX1_openOnes_17 : decode cX1_openOnes 17 = .ok (.ifCond .eq 6, 3) := by decide +kernel
theorem dX1_openOnes_20 : decode cX1_openOnes 20 = .ok (.iinc 1 1, 3) := by decide +kernel
theorem dX1_openOnes_23 : decode cX1_openOnes 23 = .ok (.iinc 2 1, 3) := by decide +kernel
theorem dX1_openOnes_26 : decode cX1_openOnes 26 = .ok (.goto (-22), 3) := by decide +kernel
theorem dX1_openOnes_29 : decode cX1_openOnes 29 = .ok (.iload_n 1, 1) := by decide +kernel
theorem dX1_openOnes_30 : decode cX1_openOnes 30 = .ok (.ireturn, 1) := by decide +kernel
theorem dX1_lastOpen_0 : decode cX1_lastOpen 0 = .ok (.aload_n 0, 1) := by decide +kernel
theorem dX1_lastOpen_1 : decode cX1_lastOpen 1 = .ok (.getfield 30, 3) := by decide +kernel
theorem dX1_lastOpen_4 : decode cX1_lastOpen 4 = .ok (.iconst 1, 1) := by decide +kernel
theorem dX1_lastOpen_5 : decode cX1_lastOpen 5 = .ok (.isub, 1) := by decide +kernel
theorem dX1_lastOpen_6 : decode cX1_lastOpen 6 = .ok (.istore_n 1, 1) := by decide +kernel
theorem dX1_lastOpen_7 : decode cX1_lastOpen 7 = .ok (.iload_n 1, 1) := by decide +kernel
theorem dX1_lastOpen_8 : decode cX1_lastOpen 8 = .ok (.ifCond .lt 19, 3) := by decide +kernel
theorem dX1_lastOpen_11 : decode cX1_lastOpen 11 = .ok (.aload_n 0, 1) := by decide +kernel
theorem dX1_lastOpen_12 : decode cX1_lastOpen 12 = .ok (.iload_n 1, 1) := by decide +kernel
theorem dX1_lastOpen_13 : decode cX1_lastOpen 13 = .ok (.invokevirtual 71, 3) := by decide +kernel
theorem dX1_lastOpen_16 : decode cX1_lastOpen 16 = .ok (.ifCond .eq 5, 3) := by decide +kernel
theorem dX1_lastOpen_19 : decode cX1_lastOpen 19 = .ok (.iload_n 1, 1) := by decide +kernel
theorem dX1_lastOpen_20 : decode cX1_lastOpen 20 = .ok (.ireturn, 1) := by decide +kernel
theorem dX1_lastOpen_21 : decode cX1_lastOpen 21 = .ok (.iinc 1 (-1), 3) := by decide +kernel
theorem dX1_lastOpen_24 : decode cX1_lastOpen 24 = .ok (.goto (-17), 3) := by decide +kernel
theorem dX1_lastOpen_27 : decode cX1_lastOpen 27 = .ok (.bipush (-9), 2) := by decide +kernel
theorem dX1_lastOpen_29 : decode cX1_lastOpen 29 = .ok (.ireturn, 1) := by decide +kernel
theorem dX1_farthest_0 : decode cX1_farthest 0 = .ok (.bipush (-9), 2) := by decide +kernel
theorem dX1_farthest_2 : decode cX1_farthest 2 = .ok (.istore_n 1, 1) := by decide +kernel
theorem dX1_farthest_3 : decode cX1_farthest 3 = .ok (.iconst 0, 1) := by decide +kernel
theorem dX1_farthest_4 : decode cX1_farthest 4 = .ok (.istore_n 2, 1) := by decide +kernel
theorem dX1_farthest_5 : decode cX1_farthest 5 = .ok (.iload_n 2, 1) := by decide +kernel
theorem dX1_farthest_6 : decode cX1_farthest 6 = .ok (.aload_n 0, 1) := by decide +kernel
theorem dX1_farthest_7 : decode cX1_farthest 7 = .ok (.getfield 30, 3) := by decide +kernel
theorem dX1_farthest_10 : decode cX1_farthest 10 = .ok (.if_icmp .ge 34, 3) := by decide +kernel
theorem dX1_farthest_13 : decode cX1_farthest 13 = .ok (.aload_n 0, 1) := by decide +kernel
theorem dX1_farthest_14 : decode cX1_farthest 14 = .ok (.iload_n 1, 1) := by decide +kernel
theorem dX1_farthest_15 : decode cX1_farthest 15 = .ok (.invokevirtual 49, 3) := by decide +kernel
theorem dX1_farthest_18 : decode cX1_farthest 18 = .ok (.ifCond .eq 18, 3) := by decide +kernel
theorem dX1_farthest_21 : decode cX1_farthest 21 = .ok (.aload_n 0, 1) := by decide +kernel
theorem dX1_farthest_22 : decode cX1_farthest 22 = .ok (.getfield 27, 3) := by decide +kernel
theorem dX1_farthest_25 : decode cX1_farthest 25 = .ok (.iload_n 2, 1) := by decide +kernel
theorem dX1_farthest_26 : decode cX1_farthest 26 = .ok (.iaload, 1) := by decide +kernel
theorem dX1_farthest_27 : decode cX1_farthest 27 = .ok (.aload_n 0, 1) := by decide +kernel
theorem dX1_farthest_28 : decode cX1_farthest 28 = .ok (.getfield 27, 3) := by decide +kernel
theorem dX1_farthest_31 : decode cX1_farthest 31 = .ok (.iload_n 1, 1) := by decide +kernel
theorem dX1_farthest_32 : decode cX1_farthest 32 = .ok (.iaload, 1) := by decide +kernel
theorem dX1_farthest_33 : decode cX1_farthest 33 = .ok (.if_icmp .le 5, 3) := by decide +kernel
theorem dX1_farthest_36 : decode cX1_farthest 36 = .ok (.iload_n 2, 1) := by decide +kernel
theorem dX1_farthest_37 : decode cX1_farthest 37 = .ok (.istore_n 1, 1) := by decide +kernel
theorem dX1_farthest_38 : decode cX1_farthest 38 = .ok (.iinc 2 1, 3) := by decide +kernel
theorem dX1_farthest_41 : decode cX1_farthest 41 = .ok (.goto (-36), 3) := by decide +kernel
theorem dX1_farthest_44 : decode cX1_farthest 44 = .ok (.iload_n 1, 1) := by decide +kernel
theorem dX1_farthest_45 : decode cX1_farthest 45 = .ok (.ireturn, 1) := by decide +kernel
theorem dX1_firstAnswerers_0 : decode cX1_firstAnswerers 0 = .ok (.iconst 0, 1) := by decide +kernel
theorem dX1_firstAnswerers_1 : decode cX1_firstAnswerers 1 = .ok (.istore_n 1, 1) := by decide +kernel
theorem dX1_firstAnswerers_2 : decode cX1_firstAnswerers 2 = .ok (.iconst 0, 1) := by decide +kernel
theorem dX1_firstAnswerers_3 : decode cX1_firstAnswerers 3 = .ok (.istore_n 2, 1) := by decide +kernel
theorem dX1_firstAnswerers_4 : decode cX1_firstAnswerers 4 = .ok (.iload_n 2, 1) := by decide +kernel
theorem dX1_firstAnswerers_5 : decode cX1_firstAnswerers 5 = .ok (.aload_n 0, 1) := by decide +kernel
theorem dX1_firstAnswerers_6 : decode cX1_firstAnswerers 6 = .ok (.getfield 30, 3) := by decide +kernel
theorem dX1_firstAnswerers_9 : decode cX1_firstAnswerers 9 = .ok (.if_icmp .ge 49, 3) := by decide +kernel
theorem dX1_firstAnswerers_12 : decode cX1_firstAnswerers 12 = .ok (.aload_n 0, 1) := by decide +kernel
theorem dX1_firstAnswerers_13 : decode cX1_firstAnswerers 13 = .ok (.getfield 24, 3) := by decide +kernel
theorem dX1_firstAnswerers_16 : decode cX1_firstAnswerers 16 = .ok (.iload_n 2, 1) := by decide +kernel
theorem dX1_firstAnswerers_17 : decode cX1_firstAnswerers 17 = .ok (.iaload, 1) := by decide +kernel
theorem dX1_firstAnswerers_18 : decode cX1_firstAnswerers 18 = .ok (.iload_n 2, 1) := by decide +kernel
theorem dX1_firstAnswerers_19 : decode cX1_firstAnswerers 19 = .ok (.if_icmp .ne 11, 3) := by decide +kernel
theorem dX1_firstAnswerers_22 : decode cX1_firstAnswerers 22 = .ok (.aload_n 0, 1) := by decide +kernel
theorem dX1_firstAnswerers_23 : decode cX1_firstAnswerers 23 = .ok (.iload_n 2, 1) := by decide +kernel
theorem dX1_firstAnswerers_24 : decode cX1_firstAnswerers 24 = .ok (.invokevirtual 63, 3) := by decide +kernel
theorem dX1_firstAnswerers_27 : decode cX1_firstAnswerers 27 = .ok (.goto 5, 3) := by decide +kernel
theorem dX1_firstAnswerers_30 : decode cX1_firstAnswerers 30 = .ok (.bipush (-9), 2) := by decide +kernel
theorem dX1_firstAnswerers_32 : decode cX1_firstAnswerers 32 = .ok (.istore_n 3, 1) := by decide +kernel
theorem dX1_firstAnswerers_33 : decode cX1_firstAnswerers 33 = .ok (.aload_n 0, 1) := by decide +kernel
theorem dX1_firstAnswerers_34 : decode cX1_firstAnswerers 34 = .ok (.iload_n 3, 1) := by decide +kernel
theorem dX1_firstAnswerers_35 : decode cX1_firstAnswerers 35 = .ok (.invokevirtual 49, 3) := by decide +kernel
theorem dX1_firstAnswerers_38 : decode cX1_firstAnswerers 38 = .ok (.ifCond .eq 14, 3) := by decide +kernel
theorem dX1_firstAnswerers_41 : decode cX1_firstAnswerers 41 = .ok (.iload_n 1, 1) := by decide +kernel
theorem dX1_firstAnswerers_42 : decode cX1_firstAnswerers 42 = .ok (.iconst 1, 1) := by decide +kernel
theorem dX1_firstAnswerers_43 : decode cX1_firstAnswerers 43 = .ok (.aload_n 0, 1) := by decide +kernel
theorem dX1_firstAnswerers_44 : decode cX1_firstAnswerers 44 = .ok (.getfield 18, 3) := by decide +kernel
theorem dX1_firstAnswerers_47 : decode cX1_firstAnswerers 47 = .ok (.iload_n 3, 1) := by decide +kernel
theorem dX1_firstAnswerers_48 : decode cX1_firstAnswerers 48 = .ok (.iaload, 1) := by decide +kernel
theorem dX1_firstAnswerers_49 : decode cX1_firstAnswerers 49 = .ok (.ishl, 1) := by decide +kernel
theorem dX1_firstAnswerers_50 : decode cX1_firstAnswerers 50 = .ok (.ior, 1) := by decide +kernel
theorem dX1_firstAnswerers_51 : decode cX1_firstAnswerers 51 = .ok (.istore_n 1, 1) := by decide +kernel
theorem dX1_firstAnswerers_52 : decode cX1_firstAnswerers 52 = .ok (.iinc 2 1, 3) := by decide +kernel
theorem dX1_firstAnswerers_55 : decode cX1_firstAnswerers 55 = .ok (.goto (-51), 3) := by decide +kernel
theorem dX1_firstAnswerers_58 : decode cX1_firstAnswerers 58 = .ok (.iload_n 1, 1) := by decide +kernel
theorem dX1_firstAnswerers_59 : decode cX1_firstAnswerers 59 = .ok (.ireturn, 1) := by decide +kernel
theorem dX1_aheadOf_0 : decode cX1_aheadOf 0 = .ok (.iconst 0, 1) := by decide +kernel
theorem dX1_aheadOf_1 : decode cX1_aheadOf 1 = .ok (.istore_n 2, 1) := by decide +kernel
theorem dX1_aheadOf_2 : decode cX1_aheadOf 2 = .ok (.iconst 0, 1) := by decide +kernel
theorem dX1_aheadOf_3 : decode cX1_aheadOf 3 = .ok (.istore_n 3, 1) := by decide +kernel
theorem dX1_aheadOf_4 : decode cX1_aheadOf 4 = .ok (.iload_n 3, 1) := by decide +kernel
theorem dX1_aheadOf_5 : decode cX1_aheadOf 5 = .ok (.aload_n 0, 1) := by decide +kernel
theorem dX1_aheadOf_6 : decode cX1_aheadOf 6 = .ok (.getfield 30, 3) := by decide +kernel
theorem dX1_aheadOf_9 : decode cX1_aheadOf 9 = .ok (.if_icmp .ge 32, 3) := by decide +kernel
theorem dX1_aheadOf_12 : decode cX1_aheadOf 12 = .ok (.aload_n 0, 1) := by decide +kernel
theorem dX1_aheadOf_13 : decode cX1_aheadOf 13 = .ok (.getfield 9, 3) := by decide +kernel
theorem dX1_aheadOf_16 : decode cX1_aheadOf 16 = .ok (.iload_n 3, 1) := by decide +kernel
theorem dX1_aheadOf_17 : decode cX1_aheadOf 17 = .ok (.iaload, 1) := by decide +kernel
theorem dX1_aheadOf_18 : decode cX1_aheadOf 18 = .ok (.iload_n 1, 1) := by decide +kernel
theorem dX1_aheadOf_19 : decode cX1_aheadOf 19 = .ok (.if_icmp .ne 5, 3) := by decide +kernel
theorem dX1_aheadOf_22 : decode cX1_aheadOf 22 = .ok (.iload_n 2, 1) := by decide +kernel
theorem dX1_aheadOf_23 : decode cX1_aheadOf 23 = .ok (.ireturn, 1) := by decide +kernel
theorem dX1_aheadOf_24 : decode cX1_aheadOf 24 = .ok (.iload_n 2, 1) := by decide +kernel
theorem dX1_aheadOf_25 : decode cX1_aheadOf 25 = .ok (.iconst 1, 1) := by decide +kernel
theorem dX1_aheadOf_26 : decode cX1_aheadOf 26 = .ok (.aload_n 0, 1) := by decide +kernel
theorem dX1_aheadOf_27 : decode cX1_aheadOf 27 = .ok (.getfield 9, 3) := by decide +kernel
theorem dX1_aheadOf_30 : decode cX1_aheadOf 30 = .ok (.iload_n 3, 1) := by decide +kernel
theorem dX1_aheadOf_31 : decode cX1_aheadOf 31 = .ok (.iaload, 1) := by decide +kernel
theorem dX1_aheadOf_32 : decode cX1_aheadOf 32 = .ok (.ishl, 1) := by decide +kernel
theorem dX1_aheadOf_33 : decode cX1_aheadOf 33 = .ok (.ior, 1) := by decide +kernel
theorem dX1_aheadOf_34 : decode cX1_aheadOf 34 = .ok (.istore_n 2, 1) := by decide +kernel
theorem dX1_aheadOf_35 : decode cX1_aheadOf 35 = .ok (.iinc 3 1, 3) := by decide +kernel
theorem dX1_aheadOf_38 : decode cX1_aheadOf 38 = .ok (.goto (-34), 3) := by decide +kernel
theorem dX1_aheadOf_41 : decode cX1_aheadOf 41 = .ok (.iconst 0, 1) := by decide +kernel
theorem dX1_aheadOf_42 : decode cX1_aheadOf 42 = .ok (.ireturn, 1) := by decide +kernel
end
section
theorem dX2_init_0 : decode cX2_init 0 = .ok (.aload_n 0, 1) := by decide +kernel
theorem dX2_init_1 : decode cX2_init 1 = .ok (.invokespecial 3, 3) := by decide +kernel
theorem dX2_init_4 : decode cX2_init 4 = .ok (.aload_n 0, 1) := by decide +kernel
theorem dX2_init_5 : decode cX2_init 5 = .ok (.sipush 200, 3) := by decide +kernel
theorem dX2_init_8 : decode cX2_init 8 = .ok (.newarray .int, 2) := by decide +kernel
theorem dX2_init_10 : decode cX2_init 10 = .ok (.putfield 9, 3) := by decide +kernel
theorem dX2_init_13 : decode cX2_init 13 = .ok (.aload_n 0, 1) := by decide +kernel
theorem dX2_init_14 : decode cX2_init 14 = .ok (.iconst 0, 1) := by decide +kernel
theorem dX2_init_15 : decode cX2_init 15 = .ok (.putfield 15, 3) := by decide +kernel
theorem dX2_init_18 : decode cX2_init 18 = .ok (.aload_n 0, 1) := by decide +kernel
theorem dX2_init_19 : decode cX2_init 19 = .ok (.iconst 0, 1) := by decide +kernel
theorem dX2_init_20 : decode cX2_init 20 = .ok (.putfield 19, 3) := by decide +kernel
theorem dX2_init_23 : decode cX2_init 23 = .ok (.aload_n 0, 1) := by decide +kernel
theorem dX2_init_24 : decode cX2_init 24 = .ok (.iconst 0, 1) := by decide +kernel
theorem dX2_init_25 : decode cX2_init 25 = .ok (.putfield 22, 3) := by decide +kernel
theorem dX2_init_28 : decode cX2_init 28 = .ok (.aload_n 0, 1) := by decide +kernel
theorem dX2_init_29 : decode cX2_init 29 = .ok (.iconst 0, 1) := by decide +kernel
theorem dX2_init_30 : decode cX2_init 30 = .ok (.putfield 25, 3) := by decide +kernel
theorem dX2_init_33 : decode cX2_init 33 = .ok (.aload_n 0, 1) := by decide +kernel
theorem dX2_init_34 : decode cX2_init 34 = .ok (.iconst 0, 1) := by decide +kernel
theorem dX2_init_35 : decode cX2_init 35 = .ok (.putfield 28, 3) := by decide +kernel
theorem dX2_init_38 : decode cX2_init 38 = .ok (.return_, 1) := by decide +kernel
theorem dX2_put_0 : decode cX2_put 0 = .ok (.aload_n 0, 1) := by decide +kernel
theorem dX2_put_1 : decode cX2_put 1 = .ok (.getfield 15, 3) := by decide +kernel
theorem dX2_put_4 : decode cX2_put 4 = .ok (.ifCond .lt 13, 3) := by decide +kernel
theorem dX2_put_7 : decode cX2_put 7 = .ok (.aload_n 0, 1) := by decide +kernel
theorem dX2_put_8 : decode cX2_put 8 = .ok (.getfield 15, 3) := by decide +kernel
theorem dX2_put_11 : decode cX2_put 11 = .ok (.sipush 200, 3) := by decide +kernel
theorem dX2_put_14 : decode cX2_put 14 = .ok (.if_icmp .lt 5, 3) := by decide +kernel
theorem dX2_put_17 : decode cX2_put 17 = .ok (.iconst 0, 1) := by decide +kernel
theorem dX2_put_18 : decode cX2_put 18 = .ok (.ireturn, 1) := by decide +kernel
theorem dX2_put_19 : decode cX2_put 19 = .ok (.aload_n 0, 1) := by decide +kernel
theorem dX2_put_20 : decode cX2_put 20 = .ok (.getfield 9, 3) := by decide +kernel
theorem dX2_put_23 : decode cX2_put 23 = .ok (.aload_n 0, 1) := by decide +kernel
theorem dX2_put_24 : decode cX2_put 24 = .ok (.getfield 15, 3) := by decide +kernel
theorem dX2_put_27 : decode cX2_put 27 = .ok (.iload_n 1, 1) := by decide +kernel
theorem dX2_put_28 : decode cX2_put 28 = .ok (.iastore, 1) := by decide +kernel
theorem dX2_put_29 : decode cX2_put 29 = .ok (.aload_n 0, 1) := by decide +kernel
theorem dX2_put_30 : decode cX2_put 30 = .ok (.dup, 1) := by decide +kernel
theorem dX2_put_31 : decode cX2_put 31 = .ok (.getfield 15, 3) := by decide +kernel
theorem dX2_put_34 : decode cX2_put 34 = .ok (.iconst 1, 1) := by decide +kernel
theorem dX2_put_35 : decode cX2_put 35 = .ok (.iadd, 1) := by decide +kernel
theorem dX2_put_36 : decode cX2_put 36 = .ok (.putfield 15, 3) := by decide +kernel
theorem dX2_put_39 : decode cX2_put 39 = .ok (.iconst 1, 1) := by decide +kernel
theorem dX2_put_40 : decode cX2_put 40 = .ok (.ireturn, 1) := by decide +kernel
theorem dX2_rewind_0 : decode cX2_rewind 0 = .ok (.aload_n 0, 1) := by decide +kernel
theorem dX2_rewind_1 : decode cX2_rewind 1 = .ok (.iconst 0, 1) := by decide +kernel
theorem dX2_rewind_2 : decode cX2_rewind 2 = .ok (.putfield 25, 3) := by decide +kernel
theorem dX2_rewind_5 : decode cX2_rewind 5 = .ok (.aload_n 0, 1) := by decide +kernel
theorem dX2_rewind_6 : decode cX2_rewind 6 = .ok (.invokevirtual 31, 3) := by decide +kernel
theorem dX2_rewind_9 : decode cX2_rewind 9 = .ok (.return_, 1) := by decide +kernel
theorem dX2_advance_0 : decode cX2_advance 0 = .ok (.aload_n 0, 1) := by decide +kernel
theorem dX2_advance_1 : decode cX2_advance 1 = .ok (.aload_n 0, 1) := by decide +kernel
theorem dX2_advance_2 : decode cX2_advance 2 = .ok (.getfield 25, 3) := by decide +kernel
theorem dX2_advance_5 : decode cX2_advance 5 = .ok (.putfield 22, 3) := by decide +kernel
theorem dX2_advance_8 : decode cX2_advance 8 = .ok (.aload_n 0, 1) := by decide +kernel
theorem dX2_advance_9 : decode cX2_advance 9 = .ok (.getfield 22, 3) := by decide +kernel
theorem dX2_advance_12 : decode cX2_advance 12 = .ok (.aload_n 0, 1) := by decide +kernel
theorem dX2_advance_13 : decode cX2_advance 13 = .ok (.getfield 15, 3) := by decide +kernel
theorem dX2_advance_16 : decode cX2_advance 16 = .ok (.if_icmp .ge 29, 3) := by decide +kernel
theorem dX2_advance_19 : decode cX2_advance 19 = .ok (.aload_n 0, 1) := by decide +kernel
theorem dX2_advance_20 : decode cX2_advance 20 = .ok (.aload_n 0, 1) := by decide +kernel
theorem dX2_advance_21 : decode cX2_advance 21 = .ok (.getfield 22, 3) := by decide +kernel
theorem dX2_advance_24 : decode cX2_advance 24 = .ok (.invokevirtual 34, 3) := by decide +kernel
theorem dX2_advance_27 : decode cX2_advance 27 = .ok (.bipush 32, 2) := by decide +kernel
theorem dX2_advance_29 : decode cX2_advance 29 = .ok (.if_icmp .ne 16, 3) := by decide +kernel
theorem dX2_advance_32 : decode cX2_advance 32 = .ok (.aload_n 0, 1) := by decide +kernel
theorem dX2_advance_33 : decode cX2_advance 33 = .ok (.dup, 1) := by decide +kernel
theorem dX2_advance_34 : decode cX2_advance 34 = .ok (.getfield 22, 3) := by decide +kernel
theorem dX2_advance_37 : decode cX2_advance 37 = .ok (.iconst 1, 1) := by decide +kernel
theorem dX2_advance_38 : decode cX2_advance 38 = .ok (.iadd, 1) := by decide +kernel
theorem dX2_advance_39 : decode cX2_advance 39 = .ok (.putfield 22, 3) := by decide +kernel
theorem dX2_advance_42 : decode cX2_advance 42 = .ok (.goto (-34), 3) := by decide +kernel
theorem dX2_advance_45 : decode cX2_advance 45 = .ok (.aload_n 0, 1) := by decide +kernel
theorem dX2_advance_46 : decode cX2_advance 46 = .ok (.aload_n 0, 1) := by decide +kernel
theorem dX2_advance_47 : decode cX2_advance 47 = .ok (.getfield 22, 3) := by decide +kernel
theorem dX2_advance_50 : decode cX2_advance 50 = .ok (.iconst 1, 1) := by decide +kernel
theorem dX2_advance_51 : decode cX2_advance 51 = .ok (.iadd, 1) := by decide +kernel
theorem dX2_advance_52 : decode cX2_advance 52 = .ok (.putfield 25, 3) := by decide +kernel
theorem dX2_advance_55 : decode cX2_advance 55 = .ok (.aload_n 0, 1) := by decide +kernel
theorem dX2_advance_56 : decode cX2_advance 56 = .ok (.iconst 0, 1) := by decide +kernel
theorem dX2_advance_57 : decode cX2_advance 57 = .ok (.putfield 28, 3) := by decide +kernel
theorem dX2_advance_60 : decode cX2_advance 60 = .ok (.aload_n 0, 1) := by decide +kernel
theorem dX2_advance_61 : decode cX2_advance 61 = .ok (.aload_n 0, 1) := by decide +kernel
theorem dX2_advance_62 : decode cX2_advance 62 = .ok (.getfield 22, 3) := by decide +kernel
theorem dX2_advance_65 : decode cX2_advance 65 = .ok (.invokevirtual 34, 3) := by decide +kernel
theorem dX2_advance_68 : decode cX2_advance 68 = .ok (.istore_n 1, 1) := by decide +kernel
theorem dX2_advance_69 : decode cX2_advance 69 = .ok (.iload_n 1, 1) := by decide +kernel
theorem dX2_advance_70 : decode cX2_advance 70 = .ok (.bipush (-9), 2) := by decide +kernel
theorem dX2_advance_72 : decode cX2_advance 72 = .ok (.if_icmp .ne 19, 3) := by decide +kernel
theorem dX2_advance_75 : decode cX2_advance 75 = .ok (.aload_n 0, 1) := by decide +kernel
theorem dX2_advance_76 : decode cX2_advance 76 = .ok (.iconst 0, 1) := by decide +kernel
theorem dX2_advance_77 : decode cX2_advance 77 = .ok (.putfield 19, 3) := by decide +kernel
theorem dX2_advance_80 : decode cX2_advance 80 = .ok (.aload_n 0, 1) := by decide +kernel
theorem dX2_advance_81 : decode cX2_advance 81 = .ok (.aload_n 0, 1) := by decide +kernel
theorem dX2_advance_82 : decode cX2_advance 82 = .ok (.getfield 22, 3) := by decide +kernel
theorem dX2_advance_85 : decode cX2_advance 85 = .ok (.putfield 25, 3) := by decide +kernel
theorem dX2_advance_88 : decode cX2_advance 88 = .ok (.goto 52, 3) := by decide +kernel
theorem dX2_advance_91 : decode cX2_advance 91 = .ok (.iload_n 1, 1) := by decide +kernel
theorem dX2_advance_92 : decode cX2_advance 92 = .ok (.bipush 59, 2) := by decide +kernel
theorem dX2_advance_94 : decode cX2_advance 94 = .ok (.if_icmp .ne 11, 3) := by decide +kernel
theorem dX2_advance_97 : decode cX2_advance 97 = .ok (.aload_n 0, 1) := by decide +kernel
theorem dX2_advance_98 : decode cX2_advance 98 = .ok (.iconst 3, 1) := by decide +kernel
theorem dX2_advance_99 : decode cX2_advance 99 = .ok (.putfield 19, 3) := by decide +kernel
theorem dX2_advance_102 : decode cX2_advance 102 = .ok (.goto 38, 3) := by decide +kernel
theorem dX2_advance_105 : decode cX2_advance 105 = .ok (.iload_n 1, 1) := by decide +kernel
theorem dX2_advance_106 : decode cX2_advance 106 = .ok (.invokestatic 38, 3) := by decide +kernel
theorem dX2_advance_109 : decode cX2_advance 109 = .ok (.ifCond .eq 11, 3) := by decide +kernel
theorem dX2_advance_112 : decode cX2_advance 112 = .ok (.aload_n 0, 1) := by decide +kernel
theorem dX2_advance_113 : decode cX2_advance 113 = .ok (.iload_n 1, 1) := by decide +kernel
theorem dX2_advance_114 : decode cX2_advance 114 = .ok (.invokevirtual 42, 3) := by decide +kernel
theorem dX2_advance_117 : decode cX2_advance 117 = .ok (.goto 23, 3) := by decide +kernel
theorem dX2_advance_120 : decode cX2_advance 120 = .ok (.iload_n 1, 1) := by decide +kernel
theorem dX2_advance_121 : decode cX2_advance 121 = .ok (.invokestatic 46, 3) := by decide +kernel
theorem dX2_advance_124 : decode cX2_advance 124 = .ok (.ifCond .eq 11, 3) := by decide +kernel
theorem dX2_advance_127 : decode cX2_advance 127 = .ok (.aload_n 0, 1) := by decide +kernel
theorem dX2_advance_128 : decode cX2_advance 128 = .ok (.iload_n 1, 1) := by decide +kernel
theorem dX2_advance_129 : decode cX2_advance 129 = .ok (.invokevirtual 49, 3) := by decide +kernel
theorem dX2_advance_132 : decode cX2_advance 132 = .ok (.goto 8, 3) := by decide +kernel
theorem dX2_advance_135 : decode cX2_advance 135 = .ok (.aload_n 0, 1) := by decide +kernel
theorem dX2_advance_136 : decode cX2_advance 136 = .ok (.iconst 4, 1) := by decide +kernel
theorem dX2_advance_137 : decode cX2_advance 137 = .ok (.putfield 19, 3) := by decide +kernel
theorem dX2_advance_140 : decode cX2_advance 140 = .ok (.return_, 1) := by decide +kernel
theorem dX2_takeWord_0 : decode cX2_takeWord 0 = .ok (.aload_n 0, 1) := by decide +kernel
theorem dX2_takeWord_1 : decode cX2_takeWord 1 = .ok (.getfield 25, 3) := by decide +kernel
theorem dX2_takeWord_4 : decode cX2_takeWord 4 = .ok (.aload_n 0, 1) := by decide +kernel
theorem dX2_takeWord_5 : decode cX2_takeWord 5 = .ok (.getfield 15, 3) := by decide +kernel
theorem dX2_takeWord_8 : decode cX2_takeWord 8 = .ok (.if_icmp .ge 30, 3) := by decide +kernel
theorem dX2_takeWord_11 : decode cX2_takeWord 11 = .ok (.aload_n 0, 1) := by decide +kernel
theorem dX2_takeWord_12 : decode cX2_takeWord 12 = .ok (.aload_n 0, 1) := by decide +kernel
theorem dX2_takeWord_13 : decode cX2_takeWord 13 = .ok (.getfield 25, 3) := by decide +kernel
theorem dX2_takeWord_16 : decode cX2_takeWord 16 = .ok (.invokevirtual 34, 3) := by decide +kernel
theorem dX2_takeWord_19 : decode cX2_takeWord 19 = .ok (.invokestatic 38, 3) := by decide +kernel
theorem dX2_takeWord_22 : decode cX2_takeWord 22 = .ok (.ifCond .eq 16, 3) := by decide +kernel
theorem dX2_takeWord_25 : decode cX2_takeWord 25 = .ok (.aload_n 0, 1) := by decide +kernel
theorem dX2_takeWord_26 : decode cX2_takeWord 26 = .ok (.dup, 1) := by decide +kernel
theorem dX2_takeWord_27 : decode cX2_takeWord 27 = .ok (.getfield 25, 3) := by decide +kernel
theorem dX2_takeWord_30 : decode cX2_takeWord 30 = .ok (.iconst 1, 1) := by decide +kernel
theorem dX2_takeWord_31 : decode cX2_takeWord 31 = .ok (.iadd, 1) := by decide +kernel
theorem dX2_takeWord_32 : decode cX2_takeWord 32 = .ok (.putfield 25, 3) := by decide +kernel
theorem dX2_takeWord_35 : decode cX2_takeWord 35 = .ok (.goto (-35), 3) := by decide +kernel
theorem dX2_takeWord_38 : decode cX2_takeWord 38 = .ok (.aload_n 0, 1) := by decide +kernel
theorem dX2_takeWord_39 : decode cX2_takeWord 39 = .ok (.iconst 1, 1) := by decide +kernel
theorem dX2_takeWord_40 : decode cX2_takeWord 40 = .ok (.putfield 19, 3) := by decide +kernel
theorem dX2_takeWord_43 : decode cX2_takeWord 43 = .ok (.aload_n 0, 1) := by decide +kernel
theorem dX2_takeWord_44 : decode cX2_takeWord 44 = .ok (.aload_n 0, 1) := by decide +kernel
theorem dX2_takeWord_45 : decode cX2_takeWord 45 = .ok (.getfield 25, 3) := by decide +kernel
theorem dX2_takeWord_48 : decode cX2_takeWord 48 = .ok (.aload_n 0, 1) := by decide +kernel
theorem dX2_takeWord_49 : decode cX2_takeWord 49 = .ok (.getfield 22, 3) := by decide +kernel
theorem dX2_takeWord_52 : decode cX2_takeWord 52 = .ok (.iconst 1, 1) := by decide +kernel
theorem dX2_takeWord_53 : decode cX2_takeWord 53 = .ok (.iadd, 1) := by decide +kernel
theorem dX2_takeWord_54 : decode cX2_takeWord 54 = .ok (.if_icmp .ne 7, 3) := by decide +kernel
theorem dX2_takeWord_57 : decode cX2_takeWord 57 = .ok (.iload_n 1, 1) := by decide +kernel
theorem dX2_takeWord_58 : decode cX2_takeWord 58 = .ok (.goto 4, 3) := by decide +kernel
theorem dX2_takeWord_61 : decode cX2_takeWord 61 = .ok (.iconst 0, 1) := by decide +kernel
theorem dX2_takeWord_62 : decode cX2_takeWord 62 = .ok (.putfield 28, 3) := by decide +kernel
theorem dX2_takeWord_65 : decode cX2_takeWord 65 = .ok (.return_, 1) := by decide +kernel
theorem dX2_takeNumber_0 : decode cX2_takeNumber 0 = .ok (.aload_n 0, 1) := by decide +kernel
theorem dX2_takeNumber_1 : decode cX2_takeNumber 1 = .ok (.iload_n 1, 1) := by decide +kernel
theorem dX2_takeNumber_2 : decode cX2_takeNumber 2 = .ok (.bipush 48, 2) := by decide +kernel
theorem dX2_takeNumber_4 : decode cX2_takeNumber 4 = .ok (.isub, 1) := by decide +kernel
theorem dX2_takeNumber_5 : decode cX2_takeNumber 5 = .ok (.putfield 28, 3) := by decide +kernel
theorem dX2_takeNumber_8 : decode cX2_takeNumber 8 = .ok (.aload_n 0, 1) := by decide +kernel
theorem dX2_takeNumber_9 : decode cX2_takeNumber 9 = .ok (.getfield 25, 3) := by decide +kernel
theorem dX2_takeNumber_12 : decode cX2_takeNumber 12 = .ok (.aload_n 0, 1) := by decide +kernel
theorem dX2_takeNumber_13 : decode cX2_takeNumber 13 = .ok (.getfield 15, 3) := by decide +kernel
theorem dX2_takeNumber_16 : decode cX2_takeNumber 16 = .ok (.if_icmp .ge 58, 3) := by decide +kernel
theorem dX2_takeNumber_19 : decode cX2_takeNumber 19 = .ok (.aload_n 0, 1) := by decide +kernel
theorem dX2_takeNumber_20 : decode cX2_takeNumber 20 = .ok (.aload_n 0, 1) := by decide +kernel
theorem dX2_takeNumber_21 : decode cX2_takeNumber 21 = .ok (.getfield 25, 3) := by decide +kernel
theorem dX2_takeNumber_24 : decode cX2_takeNumber 24 = .ok (.invokevirtual 34, 3) := by decide +kernel
theorem dX2_takeNumber_27 : decode cX2_takeNumber 27 = .ok (.invokestatic 46, 3) := by decide +kernel
theorem dX2_takeNumber_30 : decode cX2_takeNumber 30 = .ok (.ifCond .eq 44, 3) := by decide +kernel
theorem dX2_takeNumber_33 : decode cX2_takeNumber 33 = .ok (.aload_n 0, 1) := by decide +kernel
theorem dX2_takeNumber_34 : decode cX2_takeNumber 34 = .ok (.bipush 100, 2) := by decide +kernel
theorem dX2_takeNumber_36 : decode cX2_takeNumber 36 = .ok (.aload_n 0, 1) := by decide +kernel
theorem dX2_takeNumber_37 : decode cX2_takeNumber 37 = .ok (.getfield 28, 3) := by decide +kernel
theorem dX2_takeNumber_40 : decode cX2_takeNumber 40 = .ok (.bipush 10, 2) := by decide +kernel
theorem dX2_takeNumber_42 : decode cX2_takeNumber 42 = .ok (.imul, 1) := by decide +kernel
theorem dX2_takeNumber_43 : decode cX2_takeNumber 43 = .ok (.aload_n 0, 1) := by decide +kernel
theorem dX2_takeNumber_44 : decode cX2_takeNumber 44 = .ok (.aload_n 0, 1) := by decide +kernel
theorem dX2_takeNumber_45 : decode cX2_takeNumber 45 = .ok (.getfield 25, 3) := by decide +kernel
theorem dX2_takeNumber_48 : decode cX2_takeNumber 48 = .ok (.invokevirtual 34, 3) := by decide +kernel
theorem dX2_takeNumber_51 : decode cX2_takeNumber 51 = .ok (.iadd, 1) := by decide +kernel
theorem dX2_takeNumber_52 : decode cX2_takeNumber 52 = .ok (.bipush 48, 2) := by decide +kernel
theorem dX2_takeNumber_54 : decode cX2_takeNumber 54 = .ok (.isub, 1) := by decide +kernel
theorem dX2_takeNumber_55 : decode cX2_takeNumber 55 = .ok (.invokestatic 52, 3) := by decide +kernel
theorem dX2_takeNumber_58 : decode cX2_takeNumber 58 = .ok (.putfield 28, 3) := by decide +kernel
theorem dX2_takeNumber_61 : decode cX2_takeNumber 61 = .ok (.aload_n 0, 1) := by decide +kernel
theorem dX2_takeNumber_62 : decode cX2_takeNumber 62 = .ok (.dup, 1) := by decide +kernel
theorem dX2_takeNumber_63 : decode cX2_takeNumber 63 = .ok (.getfield 25, 3) := by decide +kernel
theorem dX2_takeNumber_66 : decode cX2_takeNumber 66 = .ok (.iconst 1, 1) := by decide +kernel
theorem dX2_takeNumber_67 : decode cX2_takeNumber 67 = .ok (.iadd, 1) := by decide +kernel
theorem dX2_takeNumber_68 : decode cX2_takeNumber 68 = .ok (.putfield 25, 3) := by decide +kernel
theorem dX2_takeNumber_71 : decode cX2_takeNumber 71 = .ok (.goto (-63), 3) := by decide +kernel
theorem dX2_takeNumber_74 : decode cX2_takeNumber 74 = .ok (.iload_n 1, 1) := by decide +kernel
theorem dX2_takeNumber_75 : decode cX2_takeNumber 75 = .ok (.bipush 48, 2) := by decide +kernel
theorem dX2_takeNumber_77 : decode cX2_takeNumber 77 = .ok (.if_icmp .ne 20, 3) := by decide +kernel
theorem dX2_takeNumber_80 : decode cX2_takeNumber 80 = .ok (.aload_n 0, 1) := by decide +kernel
theorem dX2_takeNumber_81 : decode cX2_takeNumber 81 = .ok (.getfield 25, 3) := by decide +kernel
theorem dX2_takeNumber_84 : decode cX2_takeNumber 84 = .ok (.aload_n 0, 1) := by decide +kernel
theorem dX2_takeNumber_85 : decode cX2_takeNumber 85 = .ok (.getfield 22, 3) := by decide +kernel
theorem dX2_takeNumber_88 : decode cX2_takeNumber 88 = .ok (.iconst 1, 1) := by decide +kernel
theorem dX2_takeNumber_89 : decode cX2_takeNumber 89 = .ok (.iadd, 1) := by decide +kernel
theorem dX2_takeNumber_90 : decode cX2_takeNumber 90 = .ok (.if_icmp .le 7, 3) := by decide +kernel
theorem dX2_takeNumber_93 : decode cX2_takeNumber 93 = .ok (.iconst 1, 1) := by decide +kernel
theorem dX2_takeNumber_94 : decode cX2_takeNumber 94 = .ok (.goto 4, 3) := by decide +kernel
theorem dX2_takeNumber_97 : decode cX2_takeNumber 97 = .ok (.iconst 0, 1) := by decide +kernel
theorem dX2_takeNumber_98 : decode cX2_takeNumber 98 = .ok (.istore_n 2, 1) := by decide +kernel
theorem dX2_takeNumber_99 : decode cX2_takeNumber 99 = .ok (.aload_n 0, 1) := by decide +kernel
theorem dX2_takeNumber_100 : decode cX2_takeNumber 100 = .ok (.iload_n 2, 1) := by decide +kernel
theorem dX2_takeNumber_101 : decode cX2_takeNumber 101 = .ok (.ifCond .ne 12, 3) := by decide +kernel
theorem dX2_takeNumber_104 : decode cX2_takeNumber 104 = .ok (.aload_n 0, 1) := by decide +kernel
theorem dX2_takeNumber_105 : decode cX2_takeNumber 105 = .ok (.getfield 28, 3) := by decide +kernel
theorem dX2_takeNumber_108 : decode cX2_takeNumber 108 = .ok (.bipush 100, 2) := by decide +kernel
theorem dX2_takeNumber_110 : decode cX2_takeNumber 110 = .ok (.if_icmp .lt 7, 3) := by decide +kernel
theorem dX2_takeNumber_113 : decode cX2_takeNumber 113 = .ok (.iconst 4, 1) := by decide +kernel
theorem dX2_takeNumber_114 : decode cX2_takeNumber 114 = .ok (.goto 4, 3) := by decide +kernel
theorem dX2_takeNumber_117 : decode cX2_takeNumber 117 = .ok (.iconst 2, 1) := by decide +kernel
theorem dX2_takeNumber_118 : decode cX2_takeNumber 118 = .ok (.putfield 19, 3) := by decide +kernel
theorem dX2_takeNumber_121 : decode cX2_takeNumber 121 = .ok (.return_, 1) := by decide +kernel
theorem dX2_byteAt_0 : decode cX2_byteAt 0 = .ok (.iload_n 1, 1) := by decide +kernel
theorem dX2_byteAt_1 : decode cX2_byteAt 1 = .ok (.ifCond .lt 27, 3) := by decide +kernel
theorem dX2_byteAt_4 : decode cX2_byteAt 4 = .ok (.iload_n 1, 1) := by decide +kernel
theorem dX2_byteAt_5 : decode cX2_byteAt 5 = .ok (.aload_n 0, 1) := by decide +kernel
theorem dX2_byteAt_6 : decode cX2_byteAt 6 = .ok (.getfield 15, 3) := by decide +kernel
theorem dX2_byteAt_9 : decode cX2_byteAt 9 = .ok (.if_icmp .ge 19, 3) := by decide +kernel
theorem dX2_byteAt_12 : decode cX2_byteAt 12 = .ok (.iload_n 1, 1) := by decide +kernel
theorem dX2_byteAt_13 : decode cX2_byteAt 13 = .ok (.sipush 200, 3) := by decide +kernel
theorem dX2_byteAt_16 : decode cX2_byteAt 16 = .ok (.if_icmp .ge 12, 3) := by decide +kernel
theorem dX2_byteAt_19 : decode cX2_byteAt 19 = .ok (.aload_n 0, 1) := by decide +kernel
theorem dX2_byteAt_20 : decode cX2_byteAt 20 = .ok (.getfield 9, 3) := by decide +kernel
theorem dX2_byteAt_23 : decode cX2_byteAt 23 = .ok (.iload_n 1, 1) := by decide +kernel
theorem dX2_byteAt_24 : decode cX2_byteAt 24 = .ok (.iaload, 1) := by decide +kernel
theorem dX2_byteAt_25 : decode cX2_byteAt 25 = .ok (.goto 5, 3) := by decide +kernel
theorem dX2_byteAt_28 : decode cX2_byteAt 28 = .ok (.bipush (-9), 2) := by decide +kernel
theorem dX2_byteAt_30 : decode cX2_byteAt 30 = .ok (.ireturn, 1) := by decide +kernel
theorem dX2_isNumber_0 : decode cX2_isNumber 0 = .ok (.aload_n 0, 1) := by decide +kernel
theorem dX2_isNumber_1 : decode cX2_isNumber 1 = .ok (.getfield 19, 3) := by decide +kernel
theorem dX2_isNumber_4 : decode cX2_isNumber 4 = .ok (.iconst 2, 1) := by decide +kernel
theorem dX2_isNumber_5 : decode cX2_isNumber 5 = .ok (.if_icmp .ne 23, 3) := by decide +kernel
theorem dX2_isNumber_8 : decode cX2_isNumber 8 = .ok (.aload_n 0, 1) := by decide +kernel
theorem dX2_isNumber_9 : decode cX2_isNumber 9 = .ok (.getfield 28, 3) := by decide +kernel
theorem dX2_isNumber_12 : decode cX2_isNumber 12 = .ok (.iload_n 1, 1) := by decide +kernel
theorem dX2_isNumber_13 : decode cX2_isNumber 13 = .ok (.if_icmp .lt 15, 3) := by decide +kernel
theorem dX2_isNumber_16 : decode cX2_isNumber 16 = .ok (.aload_n 0, 1) := by decide +kernel
theorem dX2_isNumber_17 : decode cX2_isNumber 17 = .ok (.getfield 28, 3) := by decide +kernel
theorem dX2_isNumber_20 : decode cX2_isNumber 20 = .ok (.iload_n 2, 1) := by decide +kernel
theorem dX2_isNumber_21 : decode cX2_isNumber 21 = .ok (.if_icmp .gt 7, 3) := by decide +kernel
theorem dX2_isNumber_24 : decode cX2_isNumber 24 = .ok (.iconst 1, 1) := by decide +kernel
theorem dX2_isNumber_25 : decode cX2_isNumber 25 = .ok (.goto 4, 3) := by decide +kernel
theorem dX2_isNumber_28 : decode cX2_isNumber 28 = .ok (.iconst 0, 1) := by decide +kernel
theorem dX2_isNumber_29 : decode cX2_isNumber 29 = .ok (.ireturn, 1) := by decide +kernel
theorem dX2_isLetter_0 : decode cX2_isLetter 0 = .ok (.iload_n 0, 1) := by decide +kernel
theorem dX2_isLetter_1 : decode cX2_isLetter 1 = .ok (.bipush 97, 2) := by decide +kernel
theorem dX2_isLetter_3 : decode cX2_isLetter 3 = .ok (.if_icmp .lt 13, 3) := by decide +kernel
theorem dX2_isLetter_6 : decode cX2_isLetter 6 = .ok (.iload_n 0, 1) := by decide +kernel
theorem dX2_isLetter_7 : decode cX2_isLetter 7 = .ok (.bipush 122, 2) := by decide +kernel
theorem dX2_isLetter_9 : decode cX2_isLetter 9 = .ok (.if_icmp .gt 7, 3) := by decide +kernel
theorem dX2_isLetter_12 : decode cX2_isLetter 12 = .ok (.iconst 1, 1) := by decide +kernel
theorem dX2_isLetter_13 : decode cX2_isLetter 13 = .ok (.goto 4, 3) := by decide +kernel
theorem dX2_isLetter_16 : decode cX2_isLetter 16 = .ok (.iconst 0, 1) := by decide +kernel
theorem dX2_isLetter_17 : decode cX2_isLetter 17 = .ok (.ireturn, 1) := by decide +kernel
theorem dX2_isDigit_0 : decode cX2_isDigit 0 = .ok (.iload_n 0, 1) := by decide +kernel
theorem dX2_isDigit_1 : decode cX2_isDigit 1 = .ok (.bipush 48, 2) := by decide +kernel
theorem dX2_isDigit_3 : decode cX2_isDigit 3 = .ok (.if_icmp .lt 13, 3) := by decide +kernel
theorem dX2_isDigit_6 : decode cX2_isDigit 6 = .ok (.iload_n 0, 1) := by decide +kernel
theorem dX2_isDigit_7 : decode cX2_isDigit 7 = .ok (.bipush 57, 2) := by decide +kernel
theorem dX2_isDigit_9 : decode cX2_isDigit 9 = .ok (.if_icmp .gt 7, 3) := by decide +kernel
theorem dX2_isDigit_12 : decode cX2_isDigit 12 = .ok (.iconst 1, 1) := by decide +kernel
theorem dX2_isDigit_13 : decode cX2_isDigit 13 = .ok (.goto 4, 3) := by decide +kernel
theorem dX2_isDigit_16 : decode cX2_isDigit 16 = .ok (.iconst 0, 1) := by decide +kernel
theorem dX2_isDigit_17 : decode cX2_isDigit 17 = .ok (.ireturn, 1) := by decide +kernel
end
section
theorem dX3_init_0 : decode cX3_init 0 = .ok (.aload_n 0, 1) := by decide +kernel
theorem dX3_init_1 : decode cX3_init 1 = .ok (.invokespecial 3, 3) := by decide +kernel
theorem dX3_init_4 : decode cX3_init 4 = .ok (.aload_n 0, 1) := by decide +kernel
theorem dX3_init_5 : decode cX3_init 5 = .ok (.new 9, 3) := by decide +kernel
theorem dX3_init_8 : decode cX3_init 8 = .ok (.dup, 1) := by decide +kernel
theorem dX3_init_9 : decode cX3_init 9 = .ok (.invokespecial 11, 3) := by decide +kernel
theorem dX3_init_12 : decode cX3_init 12 = .ok (.putfield 12, 3) := by decide +kernel
theorem dX3_init_15 : decode cX3_init 15 = .ok (.aload_n 0, 1) := by decide +kernel
theorem dX3_init_16 : decode cX3_init 16 = .ok (.new 16, 3) := by decide +kernel
theorem dX3_init_19 : decode cX3_init 19 = .ok (.dup, 1) := by decide +kernel
theorem dX3_init_20 : decode cX3_init 20 = .ok (.invokespecial 18, 3) := by decide +kernel
theorem dX3_init_23 : decode cX3_init 23 = .ok (.putfield 19, 3) := by decide +kernel
theorem dX3_init_26 : decode cX3_init 26 = .ok (.aload_n 0, 1) := by decide +kernel
theorem dX3_init_27 : decode cX3_init 27 = .ok (.new 16, 3) := by decide +kernel
theorem dX3_init_30 : decode cX3_init 30 = .ok (.dup, 1) := by decide +kernel
theorem dX3_init_31 : decode cX3_init 31 = .ok (.invokespecial 18, 3) := by decide +kernel
theorem dX3_init_34 : decode cX3_init 34 = .ok (.putfield 23, 3) := by decide +kernel
theorem dX3_init_37 : decode cX3_init 37 = .ok (.aload_n 0, 1) := by decide +kernel
theorem dX3_init_38 : decode cX3_init 38 = .ok (.new 26, 3) := by decide +kernel
theorem dX3_init_41 : decode cX3_init 41 = .ok (.dup, 1) := by decide +kernel
theorem dX3_init_42 : decode cX3_init 42 = .ok (.invokespecial 28, 3) := by decide +kernel
theorem dX3_init_45 : decode cX3_init 45 = .ok (.putfield 29, 3) := by decide +kernel
theorem dX3_init_48 : decode cX3_init 48 = .ok (.aload_n 0, 1) := by decide +kernel
theorem dX3_init_49 : decode cX3_init 49 = .ok (.new 26, 3) := by decide +kernel
theorem dX3_init_52 : decode cX3_init 52 = .ok (.dup, 1) := by decide +kernel
theorem dX3_init_53 : decode cX3_init 53 = .ok (.invokespecial 28, 3) := by decide +kernel
theorem dX3_init_56 : decode cX3_init 56 = .ok (.putfield 33, 3) := by decide +kernel
theorem dX3_init_59 : decode cX3_init 59 = .ok (.aload_n 0, 1) := by decide +kernel
theorem dX3_init_60 : decode cX3_init 60 = .ok (.new 26, 3) := by decide +kernel
theorem dX3_init_63 : decode cX3_init 63 = .ok (.dup, 1) := by decide +kernel
theorem dX3_init_64 : decode cX3_init 64 = .ok (.invokespecial 28, 3) := by decide +kernel
theorem dX3_init_67 : decode cX3_init 67 = .ok (.putfield 36, 3) := by decide +kernel
theorem dX3_init_70 : decode cX3_init 70 = .ok (.aload_n 0, 1) := by decide +kernel
theorem dX3_init_71 : decode cX3_init 71 = .ok (.bipush 8, 2) := by decide +kernel
theorem dX3_init_73 : decode cX3_init 73 = .ok (.newarray .int, 2) := by decide +kernel
theorem dX3_init_75 : decode cX3_init 75 = .ok (.putfield 39, 3) := by decide +kernel
theorem dX3_init_78 : decode cX3_init 78 = .ok (.aload_n 0, 1) := by decide +kernel
theorem dX3_init_79 : decode cX3_init 79 = .ok (.iconst 0, 1) := by decide +kernel
theorem dX3_init_80 : decode cX3_init 80 = .ok (.putfield 43, 3) := by decide +kernel
theorem dX3_init_83 : decode cX3_init 83 = .ok (.aload_n 0, 1) := by decide +kernel
theorem dX3_init_84 : decode cX3_init 84 = .ok (.bipush 8, 2) := by decide +kernel
theorem dX3_init_86 : decode cX3_init 86 = .ok (.newarray .int, 2) := by decide +kernel
theorem dX3_init_88 : decode cX3_init 88 = .ok (.putfield 47, 3) := by decide +kernel
theorem dX3_init_91 : decode cX3_init 91 = .ok (.aload_n 0, 1) := by decide +kernel
theorem dX3_init_92 : decode cX3_init 92 = .ok (.sipush 256, 3) := by decide +kernel
theorem dX3_init_95 : decode cX3_init 95 = .ok (.newarray .int, 2) := by decide +kernel
theorem dX3_init_97 : decode cX3_init 97 = .ok (.putfield 50, 3) := by decide +kernel
theorem dX3_init_100 : decode cX3_init 100 = .ok (.aload_n 0, 1) := by decide +kernel
theorem dX3_init_101 : decode cX3_init 101 = .ok (.lconst 0, 1) := by decide +kernel
theorem dX3_init_102 : decode cX3_init 102 = .ok (.putfield 53, 3) := by decide +kernel
theorem dX3_init_105 : decode cX3_init 105 = .ok (.return_, 1) := by decide +kernel
theorem dX3_type_0 : decode cX3_type 0 = .ok (.iload_n 1, 1) := by decide +kernel
theorem dX3_type_1 : decode cX3_type 1 = .ok (.ifCond .lt 10, 3) := by decide +kernel
theorem dX3_type_4 : decode cX3_type 4 = .ok (.iload_n 1, 1) := by decide +kernel
theorem dX3_type_5 : decode cX3_type 5 = .ok (.sipush 255, 3) := by decide +kernel
theorem dX3_type_8 : decode cX3_type 8 = .ok (.if_icmp .le 5, 3) := by decide +kernel
theorem dX3_type_11 : decode cX3_type 11 = .ok (.iconst (-1), 1) := by decide +kernel
theorem dX3_type_12 : decode cX3_type 12 = .ok (.ireturn, 1) := by decide +kernel
theorem dX3_type_13 : decode cX3_type 13 = .ok (.aload_n 0, 1) := by decide +kernel
theorem dX3_type_14 : decode cX3_type 14 = .ok (.getfield 12, 3) := by decide +kernel
theorem dX3_type_17 : decode cX3_type 17 = .ok (.iload_n 1, 1) := by decide +kernel
theorem dX3_type_18 : decode cX3_type 18 = .ok (.invokevirtual 57, 3) := by decide +kernel
theorem dX3_type_21 : decode cX3_type 21 = .ok (.ifCond .eq 13, 3) := by decide +kernel
theorem dX3_type_24 : decode cX3_type 24 = .ok (.aload_n 0, 1) := by decide +kernel
theorem dX3_type_25 : decode cX3_type 25 = .ok (.getfield 12, 3) := by decide +kernel
theorem dX3_type_28 : decode cX3_type 28 = .ok (.getfield 61, 3) := by decide +kernel
theorem dX3_type_31 : decode cX3_type 31 = .ok (.goto 5, 3) := by decide +kernel
theorem dX3_type_34 : decode cX3_type 34 = .ok (.bipush (-3), 2) := by decide +kernel
theorem dX3_type_36 : decode cX3_type 36 = .ok (.ireturn, 1) := by decide +kernel
theorem dX3_clear_0 : decode cX3_clear 0 = .ok (.aload_n 0, 1) := by decide +kernel
theorem dX3_clear_1 : decode cX3_clear 1 = .ok (.getfield 12, 3) := by decide +kernel
theorem dX3_clear_4 : decode cX3_clear 4 = .ok (.getfield 61, 3) := by decide +kernel
theorem dX3_clear_7 : decode cX3_clear 7 = .ok (.istore_n 1, 1) := by decide +kernel
theorem dX3_clear_8 : decode cX3_clear 8 = .ok (.aload_n 0, 1) := by decide +kernel
theorem dX3_clear_9 : decode cX3_clear 9 = .ok (.getfield 12, 3) := by decide +kernel
theorem dX3_clear_12 : decode cX3_clear 12 = .ok (.iconst 0, 1) := by decide +kernel
theorem dX3_clear_13 : decode cX3_clear 13 = .ok (.putfield 61, 3) := by decide +kernel
theorem dX3_clear_16 : decode cX3_clear 16 = .ok (.iload_n 1, 1) := by decide +kernel
theorem dX3_clear_17 : decode cX3_clear 17 = .ok (.ireturn, 1) := by decide +kernel
theorem dX3_duchy_0 : decode cX3_duchy 0 = .ok (.aload_n 0, 1) := by decide +kernel
theorem dX3_duchy_1 : decode cX3_duchy 1 = .ok (.getfield 23, 3) := by decide +kernel
theorem dX3_duchy_4 : decode cX3_duchy 4 = .ok (.aload_n 0, 1) := by decide +kernel
theorem dX3_duchy_5 : decode cX3_duchy 5 = .ok (.getfield 12, 3) := by decide +kernel
theorem dX3_duchy_8 : decode cX3_duchy 8 = .ok (.invokevirtual 64, 3) := by decide +kernel
theorem dX3_duchy_11 : decode cX3_duchy 11 = .ok (.istore_n 1, 1) := by decide +kernel
theorem dX3_duchy_12 : decode cX3_duchy 12 = .ok (.iload_n 1, 1) := by decide +kernel
theorem dX3_duchy_13 : decode cX3_duchy 13 = .ok (.ifCond .ge 5, 3) := by decide +kernel
theorem dX3_duchy_16 : decode cX3_duchy 16 = .ok (.iload_n 1, 1) := by decide +kernel
theorem dX3_duchy_17 : decode cX3_duchy 17 = .ok (.ireturn, 1) := by decide +kernel
theorem dX3_duchy_18 : decode cX3_duchy 18 = .ok (.aload_n 0, 1) := by decide +kernel
theorem dX3_duchy_19 : decode cX3_duchy 19 = .ok (.getfield 19, 3) := by decide +kernel
theorem dX3_duchy_22 : decode cX3_duchy 22 = .ok (.astore_n 2, 1) := by decide +kernel
theorem dX3_duchy_23 : decode cX3_duchy 23 = .ok (.aload_n 0, 1) := by decide +kernel
theorem dX3_duchy_24 : decode cX3_duchy 24 = .ok (.aload_n 0, 1) := by decide +kernel
theorem dX3_duchy_25 : decode cX3_duchy 25 = .ok (.getfield 23, 3) := by decide +kernel
theorem dX3_duchy_28 : decode cX3_duchy 28 = .ok (.putfield 19, 3) := by decide +kernel
theorem dX3_duchy_31 : decode cX3_duchy 31 = .ok (.aload_n 0, 1) := by decide +kernel
theorem dX3_duchy_32 : decode cX3_duchy 32 = .ok (.aload_n 2, 1) := by decide +kernel
theorem dX3_duchy_33 : decode cX3_duchy 33 = .ok (.putfield 23, 3) := by decide +kernel
theorem dX3_duchy_36 : decode cX3_duchy 36 = .ok (.aload_n 0, 1) := by decide +kernel
theorem dX3_duchy_37 : decode cX3_duchy 37 = .ok (.getfield 12, 3) := by decide +kernel
theorem dX3_duchy_40 : decode cX3_duchy 40 = .ok (.iconst 0, 1) := by decide +kernel
theorem dX3_duchy_41 : decode cX3_duchy 41 = .ok (.putfield 61, 3) := by decide +kernel
theorem dX3_duchy_44 : decode cX3_duchy 44 = .ok (.aload_n 0, 1) := by decide +kernel
theorem dX3_duchy_45 : decode cX3_duchy 45 = .ok (.getfield 29, 3) := by decide +kernel
theorem dX3_duchy_48 : decode cX3_duchy 48 = .ok (.invokevirtual 68, 3) := by decide +kernel
theorem dX3_duchy_51 : decode cX3_duchy 51 = .ok (.aload_n 0, 1) := by decide +kernel
theorem dX3_duchy_52 : decode cX3_duchy 52 = .ok (.getfield 33, 3) := by decide +kernel
theorem dX3_duchy_55 : decode cX3_duchy 55 = .ok (.iconst 0, 1) := by decide +kernel
theorem dX3_duchy_56 : decode cX3_duchy 56 = .ok (.putfield 71, 3) := by decide +kernel
theorem dX3_duchy_59 : decode cX3_duchy 59 = .ok (.aload_n 0, 1) := by decide +kernel
theorem dX3_duchy_60 : decode cX3_duchy 60 = .ok (.getfield 36, 3) := by decide +kernel
theorem dX3_duchy_63 : decode cX3_duchy 63 = .ok (.iconst 0, 1) := by decide +kernel
theorem dX3_duchy_64 : decode cX3_duchy 64 = .ok (.putfield 71, 3) := by decide +kernel
theorem dX3_duchy_67 : decode cX3_duchy 67 = .ok (.aload_n 0, 1) := by decide +kernel
theorem dX3_duchy_68 : decode cX3_duchy 68 = .ok (.invokevirtual 75, 3) := by decide +kernel
theorem dX3_duchy_71 : decode cX3_duchy 71 = .ok (.iload_n 1, 1) := by decide +kernel
theorem dX3_duchy_72 : decode cX3_duchy 72 = .ok (.ireturn, 1) := by decide +kernel
theorem dX3_saying_0 : decode cX3_saying 0 = .ok (.aload_n 0, 1) := by decide +kernel
theorem dX3_saying_1 : decode cX3_saying 1 = .ok (.getfield 19, 3) := by decide +kernel
theorem dX3_saying_4 : decode cX3_saying 4 = .ok (.iload_n 1, 1) := by decide +kernel
theorem dX3_saying_5 : decode cX3_saying 5 = .ok (.invokevirtual 78, 3) := by decide +kernel
theorem dX3_saying_8 : decode cX3_saying 8 = .ok (.ifCond .ne 5, 3) := by decide +kernel
theorem dX3_saying_11 : decode cX3_saying 11 = .ok (.iconst (-1), 1) := by decide +kernel
theorem dX3_saying_12 : decode cX3_saying 12 = .ok (.ireturn, 1) := by decide +kernel
theorem dX3_saying_13 : decode cX3_saying 13 = .ok (.iload_n 2, 1) := by decide +kernel
theorem dX3_saying_14 : decode cX3_saying 14 = .ok (.tableswitch 89 0 4 #[34, 51, 61, 71, 80], 34) := by decide +kernel
theorem dX3_saying_48 : decode cX3_saying 48 = .ok (.aload_n 0, 1) := by decide +kernel
theorem dX3_saying_49 : decode cX3_saying 49 = .ok (.getfield 19, 3) := by decide +kernel
theorem dX3_saying_52 : decode cX3_saying 52 = .ok (.iload_n 1, 1) := by decide +kernel
theorem dX3_saying_53 : decode cX3_saying 53 = .ok (.invokevirtual 81, 3) := by decide +kernel
theorem dX3_saying_56 : decode cX3_saying 56 = .ok (.ifCond .eq 7, 3) := by decide +kernel
theorem dX3_saying_59 : decode cX3_saying 59 = .ok (.iconst 1, 1) := by decide +kernel
theorem dX3_saying_60 : decode cX3_saying 60 = .ok (.goto 4, 3) := by decide +kernel
theorem dX3_saying_63 : decode cX3_saying 63 = .ok (.iconst 0, 1) := by decide +kernel
theorem dX3_saying_64 : decode cX3_saying 64 = .ok (.ireturn, 1) := by decide +kernel
theorem dX3_saying_65 : decode cX3_saying 65 = .ok (.aload_n 0, 1) := by decide +kernel
theorem dX3_saying_66 : decode cX3_saying 66 = .ok (.getfield 19, 3) := by decide +kernel
theorem dX3_saying_69 : decode cX3_saying 69 = .ok (.getfield 84, 3) := by decide +kernel
theorem dX3_saying_72 : decode cX3_saying 72 = .ok (.iload_n 1, 1) := by decide +kernel
theorem dX3_saying_73 : decode cX3_saying 73 = .ok (.iaload, 1) := by decide +kernel
theorem dX3_saying_74 : decode cX3_saying 74 = .ok (.ireturn, 1) := by decide +kernel
theorem dX3_saying_75 : decode cX3_saying 75 = .ok (.aload_n 0, 1) := by decide +kernel
theorem dX3_saying_76 : decode cX3_saying 76 = .ok (.getfield 19, 3) := by decide +kernel
theorem dX3_saying_79 : decode cX3_saying 79 = .ok (.getfield 87, 3) := by decide +kernel
theorem dX3_saying_82 : decode cX3_saying 82 = .ok (.iload_n 1, 1) := by decide +kernel
theorem dX3_saying_83 : decode cX3_saying 83 = .ok (.iaload, 1) := by decide +kernel
theorem dX3_saying_84 : decode cX3_saying 84 = .ok (.ireturn, 1) := by decide +kernel
theorem dX3_saying_85 : decode cX3_saying 85 = .ok (.aload_n 0, 1) := by decide +kernel
theorem dX3_saying_86 : decode cX3_saying 86 = .ok (.getfield 19, 3) := by decide +kernel
theorem dX3_saying_89 : decode cX3_saying 89 = .ok (.iload_n 1, 1) := by decide +kernel
theorem dX3_saying_90 : decode cX3_saying 90 = .ok (.invokevirtual 90, 3) := by decide +kernel
theorem dX3_saying_93 : decode cX3_saying 93 = .ok (.ireturn, 1) := by decide +kernel
theorem dX3_saying_94 : decode cX3_saying 94 = .ok (.aload_n 0, 1) := by decide +kernel
theorem dX3_saying_95 : decode cX3_saying 95 = .ok (.getfield 29, 3) := by decide +kernel
theorem dX3_saying_98 : decode cX3_saying 98 = .ok (.iload_n 1, 1) := by decide +kernel
theorem dX3_saying_99 : decode cX3_saying 99 = .ok (.invokevirtual 94, 3) := by decide +kernel
theorem dX3_saying_102 : decode cX3_saying 102 = .ok (.ireturn, 1) := by decide +kernel
theorem dX3_saying_103 : decode cX3_saying 103 = .ok (.iconst (-1), 1) := by decide +kernel
theorem dX3_saying_104 : decode cX3_saying 104 = .ok (.ireturn, 1) := by decide +kernel
theorem dX3_person_0 : decode cX3_person 0 = .ok (.aload_n 0, 1) := by decide +kernel
theorem dX3_person_1 : decode cX3_person 1 = .ok (.getfield 19, 3) := by decide +kernel
theorem dX3_person_4 : decode cX3_person 4 = .ok (.iload_n 1, 1) := by decide +kernel
theorem dX3_person_5 : decode cX3_person 5 = .ok (.invokevirtual 97, 3) := by decide +kernel
theorem dX3_person_8 : decode cX3_person 8 = .ok (.ifCond .ne 5, 3) := by decide +kernel
theorem dX3_person_11 : decode cX3_person 11 = .ok (.iconst (-1), 1) := by decide +kernel
theorem dX3_person_12 : decode cX3_person 12 = .ok (.ireturn, 1) := by decide +kernel
theorem dX3_person_13 : decode cX3_person 13 = .ok (.iload_n 2, 1) := by decide +kernel
theorem dX3_person_14 : decode cX3_person 14 = .ok (.tableswitch 67 0 2 #[26, 36, 58], 26) := by decide +kernel
theorem dX3_person_40 : decode cX3_person 40 = .ok (.aload_n 0, 1) := by decide +kernel
theorem dX3_person_41 : decode cX3_person 41 = .ok (.getfield 19, 3) := by decide +kernel
theorem dX3_person_44 : decode cX3_person 44 = .ok (.getfield 100, 3) := by decide +kernel
theorem dX3_person_47 : decode cX3_person 47 = .ok (.iload_n 1, 1) := by decide +kernel
theorem dX3_person_48 : decode cX3_person 48 = .ok (.iaload, 1) := by decide +kernel
theorem dX3_person_49 : decode cX3_person 49 = .ok (.ireturn, 1) := by decide +kernel
theorem dX3_person_50 : decode cX3_person 50 = .ok (.aload_n 0, 1) := by decide +kernel
theorem dX3_person_51 : decode cX3_person 51 = .ok (.getfield 19, 3) := by decide +kernel
theorem dX3_person_54 : decode cX3_person 54 = .ok (.getfield 100, 3) := by decide +kernel
theorem dX3_person_57 : decode cX3_person 57 = .ok (.iload_n 1, 1) := by decide +kernel
theorem dX3_person_58 : decode cX3_person 58 = .ok (.iaload, 1) := by decide +kernel
theorem dX3_person_59 : decode cX3_person 59 = .ok (.aload_n 0, 1) := by decide +kernel
theorem dX3_person_60 : decode cX3_person 60 = .ok (.getfield 19, 3) := by decide +kernel
theorem dX3_person_63 : decode cX3_person 63 = .ok (.aload_n 0, 1) := by decide +kernel
theorem dX3_person_64 : decode cX3_person 64 = .ok (.invokevirtual 103, 3) := by decide +kernel
theorem dX3_person_67 : decode cX3_person 67 = .ok (.invokevirtual 107, 3) := by decide +kernel
theorem dX3_person_70 : decode cX3_person 70 = .ok (.iand, 1) := by decide +kernel
theorem dX3_person_71 : decode cX3_person 71 = .ok (.ireturn, 1) := by decide +kernel
theorem dX3_person_72 : decode cX3_person 72 = .ok (.aload_n 0, 1) := by decide +kernel
theorem dX3_person_73 : decode cX3_person 73 = .ok (.getfield 29, 3) := by decide +kernel
theorem dX3_person_76 : decode cX3_person 76 = .ok (.iload_n 1, 1) := by decide +kernel
theorem dX3_person_77 : decode cX3_person 77 = .ok (.invokevirtual 110, 3) := by decide +kernel
theorem dX3_person_80 : decode cX3_person 80 = .ok (.ireturn, 1) := by decide +kernel
theorem dX3_person_81 : decode cX3_person 81 = .ok (.iconst (-1), 1) := by decide +kernel
theorem dX3_person_82 : decode cX3_person 82 = .ok (.ireturn, 1) := by decide +kernel
theorem dX3_talk_0 : decode cX3_talk 0 = .ok (.aload_n 0, 1) := by decide +kernel
theorem dX3_talk_1 : decode cX3_talk 1 = .ok (.getfield 29, 3) := by decide +kernel
theorem dX3_talk_4 : decode cX3_talk 4 = .ok (.iload_n 1, 1) := by decide +kernel
theorem dX3_talk_5 : decode cX3_talk 5 = .ok (.invokevirtual 113, 3) := by decide +kernel
theorem dX3_talk_8 : decode cX3_talk 8 = .ok (.ifCond .ne 5, 3) := by decide +kernel
theorem dX3_talk_11 : decode cX3_talk 11 = .ok (.iconst (-1), 1) := by decide +kernel
theorem dX3_talk_12 : decode cX3_talk 12 = .ok (.ireturn, 1) := by decide +kernel
theorem dX3_talk_13 : decode cX3_talk 13 = .ok (.iload_n 2, 1) := by decide +kernel
theorem dX3_talk_14 : decode cX3_talk 14 = .ok (.tableswitch 148 0 7 #[46, 56, 66, 76, 86, 96, 106, 123], 46) := by decide +kernel
theorem dX3_talk_60 : decode cX3_talk 60 = .ok (.aload_n 0, 1) := by decide +kernel
theorem dX3_talk_61 : decode cX3_talk 61 = .ok (.getfield 29, 3) := by decide +kernel
theorem dX3_talk_64 : decode cX3_talk 64 = .ok (.getfield 116, 3) := by decide +kernel
theorem dX3_talk_67 : decode cX3_talk 67 = .ok (.iload_n 1, 1) := by decide +kernel
theorem dX3_talk_68 : decode cX3_talk 68 = .ok (.iaload, 1) := by decide +kernel
theorem dX3_talk_69 : decode cX3_talk 69 = .ok (.ireturn, 1) := by decide +kernel
theorem dX3_talk_70 : decode cX3_talk 70 = .ok (.aload_n 0, 1) := by decide +kernel
theorem dX3_talk_71 : decode cX3_talk 71 = .ok (.getfield 29, 3) := by decide +kernel
theorem dX3_talk_74 : decode cX3_talk 74 = .ok (.getfield 119, 3) := by decide +kernel
theorem dX3_talk_77 : decode cX3_talk 77 = .ok (.iload_n 1, 1) := by decide +kernel
theorem dX3_talk_78 : decode cX3_talk 78 = .ok (.iaload, 1) := by decide +kernel
theorem dX3_talk_79 : decode cX3_talk 79 = .ok (.ireturn, 1) := by decide +kernel
theorem dX3_talk_80 : decode cX3_talk 80 = .ok (.aload_n 0, 1) := by decide +kernel
theorem dX3_talk_81 : decode cX3_talk 81 = .ok (.getfield 29, 3) := by decide +kernel
theorem dX3_talk_84 : decode cX3_talk 84 = .ok (.getfield 122, 3) := by decide +kernel
theorem dX3_talk_87 : decode cX3_talk 87 = .ok (.iload_n 1, 1) := by decide +kernel
theorem dX3_talk_88 : decode cX3_talk 88 = .ok (.iaload, 1) := by decide +kernel
theorem dX3_talk_89 : decode cX3_talk 89 = .ok (.ireturn, 1) := by decide +kernel
theorem dX3_talk_90 : decode cX3_talk 90 = .ok (.aload_n 0, 1) := by decide +kernel
theorem dX3_talk_91 : decode cX3_talk 91 = .ok (.getfield 29, 3) := by decide +kernel
theorem dX3_talk_94 : decode cX3_talk 94 = .ok (.getfield 125, 3) := by decide +kernel
theorem dX3_talk_97 : decode cX3_talk 97 = .ok (.iload_n 1, 1) := by decide +kernel
theorem dX3_talk_98 : decode cX3_talk 98 = .ok (.iaload, 1) := by decide +kernel
theorem dX3_talk_99 : decode cX3_talk 99 = .ok (.ireturn, 1) := by decide +kernel
theorem dX3_talk_100 : decode cX3_talk 100 = .ok (.aload_n 0, 1) := by decide +kernel
theorem dX3_talk_101 : decode cX3_talk 101 = .ok (.getfield 29, 3) := by decide +kernel
theorem dX3_talk_104 : decode cX3_talk 104 = .ok (.getfield 128, 3) := by decide +kernel
theorem dX3_talk_107 : decode cX3_talk 107 = .ok (.iload_n 1, 1) := by decide +kernel
theorem dX3_talk_108 : decode cX3_talk 108 = .ok (.iaload, 1) := by decide +kernel
theorem dX3_talk_109 : decode cX3_talk 109 = .ok (.ireturn, 1) := by decide +kernel
theorem dX3_talk_110 : decode cX3_talk 110 = .ok (.aload_n 0, 1) := by decide +kernel
theorem dX3_talk_111 : decode cX3_talk 111 = .ok (.getfield 29, 3) := by decide +kernel
theorem dX3_talk_114 : decode cX3_talk 114 = .ok (.getfield 131, 3) := by decide +kernel
theorem dX3_talk_117 : decode cX3_talk 117 = .ok (.iload_n 1, 1) := by decide +kernel
theorem dX3_talk_118 : decode cX3_talk 118 = .ok (.iaload, 1) := by decide +kernel
theorem dX3_talk_119 : decode cX3_talk 119 = .ok (.ireturn, 1) := by decide +kernel
theorem dX3_talk_120 : decode cX3_talk 120 = .ok (.aload_n 0, 1) := by decide +kernel
theorem dX3_talk_121 : decode cX3_talk 121 = .ok (.getfield 29, 3) := by decide +kernel
theorem dX3_talk_124 : decode cX3_talk 124 = .ok (.iload_n 1, 1) := by decide +kernel
theorem dX3_talk_125 : decode cX3_talk 125 = .ok (.invokevirtual 134, 3) := by decide +kernel
theorem dX3_talk_128 : decode cX3_talk 128 = .ok (.ifCond .eq 7, 3) := by decide +kernel
theorem dX3_talk_131 : decode cX3_talk 131 = .ok (.iconst 1, 1) := by decide +kernel
theorem dX3_talk_132 : decode cX3_talk 132 = .ok (.goto 4, 3) := by decide +kernel
theorem dX3_talk_135 : decode cX3_talk 135 = .ok (.iconst 0, 1) := by decide +kernel
theorem dX3_talk_136 : decode cX3_talk 136 = .ok (.ireturn, 1) := by decide +kernel
theorem dX3_talk_137 : decode cX3_talk 137 = .ok (.aload_n 0, 1) := by decide +kernel
theorem dX3_talk_138 : decode cX3_talk 138 = .ok (.getfield 29, 3) := by decide +kernel
theorem dX3_talk_141 : decode cX3_talk 141 = .ok (.iload_n 1, 1) := by decide +kernel
theorem dX3_talk_142 : decode cX3_talk 142 = .ok (.iconst 0, 1) := by decide +kernel
theorem dX3_talk_143 : decode cX3_talk 143 = .ok (.aload_n 0, 1) := by decide +kernel
theorem dX3_talk_144 : decode cX3_talk 144 = .ok (.getfield 19, 3) := by decide +kernel
theorem dX3_talk_147 : decode cX3_talk 147 = .ok (.getfield 137, 3) := by decide +kernel
theorem dX3_talk_150 : decode cX3_talk 150 = .ok (.invokevirtual 140, 3) := by decide +kernel
theorem dX3_talk_153 : decode cX3_talk 153 = .ok (.ifCond .eq 7, 3) := by decide +kernel
theorem dX3_talk_156 : decode cX3_talk 156 = .ok (.iconst 1, 1) := by decide +kernel
theorem dX3_talk_157 : decode cX3_talk 157 = .ok (.goto 4, 3) := by decide +kernel
theorem dX3_talk_160 : decode cX3_talk 160 = .ok (.iconst 0, 1) := by decide +kernel
theorem dX3_talk_161 : decode cX3_talk 161 = .ok (.ireturn, 1) := by decide +kernel
theorem dX3_talk_162 : decode cX3_talk 162 = .ok (.iconst (-1), 1) := by decide +kernel
theorem dX3_talk_163 : decode cX3_talk 163 = .ok (.ireturn, 1) := by decide +kernel
theorem dX3_hears_0 : decode cX3_hears 0 = .ok (.aload_n 0, 1) := by decide +kernel
theorem dX3_hears_1 : decode cX3_hears 1 = .ok (.getfield 19, 3) := by decide +kernel
theorem dX3_hears_4 : decode cX3_hears 4 = .ok (.iload_n 1, 1) := by decide +kernel
theorem dX3_hears_5 : decode cX3_hears 5 = .ok (.invokevirtual 78, 3) := by decide +kernel
theorem dX3_hears_8 : decode cX3_hears 8 = .ok (.ifCond .eq 14, 3) := by decide +kernel
theorem dX3_hears_11 : decode cX3_hears 11 = .ok (.aload_n 0, 1) := by decide +kernel
theorem dX3_hears_12 : decode cX3_hears 12 = .ok (.getfield 19, 3) := by decide +kernel
theorem dX3_hears_15 : decode cX3_hears 15 = .ok (.iload_n 1, 1) := by decide +kernel
theorem dX3_hears_16 : decode cX3_hears 16 = .ok (.invokevirtual 81, 3) := by decide +kernel
theorem dX3_hears_19 : decode cX3_hears 19 = .ok (.ifCond .ne 5, 3) := by decide +kernel
theorem dX3_hears_22 : decode cX3_hears 22 = .ok (.iconst (-1), 1) := by decide +kernel
theorem dX3_hears_23 : decode cX3_hears 23 = .ok (.ireturn, 1) := by decide +kernel
theorem dX3_hears_24 : decode cX3_hears 24 = .ok (.aload_n 0, 1) := by decide +kernel
theorem dX3_hears_25 : decode cX3_hears 25 = .ok (.getfield 29, 3) := by decide +kernel
theorem dX3_hears_28 : decode cX3_hears 28 = .ok (.iload_n 1, 1) := by decide +kernel
theorem dX3_hears_29 : decode cX3_hears 29 = .ok (.bipush (-9), 2) := by decide +kernel
theorem dX3_hears_31 : decode cX3_hears 31 = .ok (.bipush (-9), 2) := by decide +kernel
theorem dX3_hears_33 : decode cX3_hears 33 = .ok (.invokevirtual 144, 3) := by decide +kernel
theorem dX3_hears_36 : decode cX3_hears 36 = .ok (.ifCond .eq 15, 3) := by decide +kernel
theorem dX3_hears_39 : decode cX3_hears 39 = .ok (.aload_n 0, 1) := by decide +kernel
theorem dX3_hears_40 : decode cX3_hears 40 = .ok (.getfield 29, 3) := by decide +kernel
theorem dX3_hears_43 : decode cX3_hears 43 = .ok (.getfield 147, 3) := by decide +kernel
theorem dX3_hears_46 : decode cX3_hears 46 = .ok (.iconst 1, 1) := by decide +kernel
theorem dX3_hears_47 : decode cX3_hears 47 = .ok (.isub, 1) := by decide +kernel
theorem dX3_hears_48 : decode cX3_hears 48 = .ok (.goto 5, 3) := by decide +kernel
theorem dX3_hears_51 : decode cX3_hears 51 = .ok (.bipush (-3), 2) := by decide +kernel
theorem dX3_hears_53 : decode cX3_hears 53 = .ok (.ireturn, 1) := by decide +kernel
theorem dX3_says_0 : decode cX3_says 0 = .ok (.aload_n 0, 1) := by decide +kernel
theorem dX3_says_1 : decode cX3_says 1 = .ok (.getfield 19, 3) := by decide +kernel
theorem dX3_says_4 : decode cX3_says 4 = .ok (.iload_n 1, 1) := by decide +kernel
theorem dX3_says_5 : decode cX3_says 5 = .ok (.invokevirtual 97, 3) := by decide +kernel
theorem dX3_says_8 : decode cX3_says 8 = .ok (.ifCond .eq 25, 3) := by decide +kernel
theorem dX3_says_11 : decode cX3_says 11 = .ok (.aload_n 0, 1) := by decide +kernel
theorem dX3_says_12 : decode cX3_says 12 = .ok (.getfield 19, 3) := by decide +kernel
theorem dX3_says_15 : decode cX3_says 15 = .ok (.iload_n 2, 1) := by decide +kernel
theorem dX3_says_16 : decode cX3_says 16 = .ok (.invokevirtual 78, 3) := by decide +kernel
theorem dX3_says_19 : decode cX3_says 19 = .ok (.ifCond .eq 14, 3) := by decide +kernel
theorem dX3_says_22 : decode cX3_says 22 = .ok (.aload_n 0, 1) := by decide +kernel
theorem dX3_says_23 : decode cX3_says 23 = .ok (.getfield 19, 3) := by decide +kernel
theorem dX3_says_26 : decode cX3_says 26 = .ok (.iload_n 2, 1) := by decide +kernel
theorem dX3_says_27 : decode cX3_says 27 = .ok (.invokevirtual 81, 3) := by decide +kernel
theorem dX3_says_30 : decode cX3_says 30 = .ok (.ifCond .eq 5, 3) := by decide +kernel
theorem dX3_says_33 : decode cX3_says 33 = .ok (.iconst (-1), 1) := by decide +kernel
theorem dX3_says_34 : decode cX3_says 34 = .ok (.ireturn, 1) := by decide +kernel
theorem dX3_says_35 : decode cX3_says 35 = .ok (.aload_n 0, 1) := by decide +kernel
theorem dX3_says_36 : decode cX3_says 36 = .ok (.getfield 19, 3) := by decide +kernel
theorem dX3_says_39 : decode cX3_says 39 = .ok (.getfield 100, 3) := by decide +kernel
theorem dX3_says_42 : decode cX3_says 42 = .ok (.iload_n 1, 1) := by decide +kernel
theorem dX3_says_43 : decode cX3_says 43 = .ok (.iaload, 1) := by decide +kernel
theorem dX3_says_44 : decode cX3_says 44 = .ok (.iconst 1, 1) := by decide +kernel
theorem dX3_says_45 : decode cX3_says 45 = .ok (.iload_n 2, 1) := by decide +kernel
theorem dX3_says_46 : decode cX3_says 46 = .ok (.ishl, 1) := by decide +kernel
theorem dX3_says_47 : decode cX3_says 47 = .ok (.iand, 1) := by decide +kernel
theorem dX3_says_48 : decode cX3_says 48 = .ok (.ifCond .ne 6, 3) := by decide +kernel
theorem dX3_says_51 : decode cX3_says 51 = .ok (.bipush (-2), 2) := by decide +kernel
theorem dX3_says_53 : decode cX3_says 53 = .ok (.ireturn, 1) := by decide +kernel
theorem dX3_says_54 : decode cX3_says 54 = .ok (.aload_n 0, 1) := by decide +kernel
theorem dX3_says_55 : decode cX3_says 55 = .ok (.getfield 29, 3) := by decide +kernel
theorem dX3_says_58 : decode cX3_says 58 = .ok (.aload_n 0, 1) := by decide +kernel
theorem dX3_says_59 : decode cX3_says 59 = .ok (.getfield 19, 3) := by decide +kernel
theorem dX3_says_62 : decode cX3_says 62 = .ok (.getfield 87, 3) := by decide +kernel
theorem dX3_says_65 : decode cX3_says 65 = .ok (.iload_n 2, 1) := by decide +kernel
theorem dX3_says_66 : decode cX3_says 66 = .ok (.iaload, 1) := by decide +kernel
theorem dX3_says_67 : decode cX3_says 67 = .ok (.aload_n 0, 1) := by decide +kernel
theorem dX3_says_68 : decode cX3_says 68 = .ok (.getfield 19, 3) := by decide +kernel
theorem dX3_says_71 : decode cX3_says 71 = .ok (.getfield 137, 3) := by decide +kernel
theorem dX3_says_74 : decode cX3_says 74 = .ok (.invokevirtual 150, 3) := by decide +kernel
theorem dX3_says_77 : decode cX3_says 77 = .ok (.istore_n 3, 1) := by decide +kernel
theorem dX3_says_78 : decode cX3_says 78 = .ok (.iload_n 3, 1) := by decide +kernel
theorem dX3_says_79 : decode cX3_says 79 = .ok (.bipush (-9), 2) := by decide +kernel
theorem dX3_says_81 : decode cX3_says 81 = .ok (.if_icmp .ne 6, 3) := by decide +kernel
theorem dX3_says_84 : decode cX3_says 84 = .ok (.bipush (-2), 2) := by decide +kernel
theorem dX3_says_86 : decode cX3_says 86 = .ok (.ireturn, 1) := by decide +kernel
theorem dX3_says_87 : decode cX3_says 87 = .ok (.aload_n 0, 1) := by decide +kernel
theorem dX3_says_88 : decode cX3_says 88 = .ok (.getfield 29, 3) := by decide +kernel
theorem dX3_says_91 : decode cX3_says 91 = .ok (.iload_n 2, 1) := by decide +kernel
theorem dX3_says_92 : decode cX3_says 92 = .ok (.iload_n 1, 1) := by decide +kernel
theorem dX3_says_93 : decode cX3_says 93 = .ok (.iload_n 3, 1) := by decide +kernel
theorem dX3_says_94 : decode cX3_says 94 = .ok (.invokevirtual 144, 3) := by decide +kernel
theorem dX3_says_97 : decode cX3_says 97 = .ok (.ifCond .eq 7, 3) := by decide +kernel
theorem dX3_says_100 : decode cX3_says 100 = .ok (.iload_n 3, 1) := by decide +kernel
theorem dX3_says_101 : decode cX3_says 101 = .ok (.goto 5, 3) := by decide +kernel
theorem dX3_says_104 : decode cX3_says 104 = .ok (.bipush (-3), 2) := by decide +kernel
theorem dX3_says_106 : decode cX3_says 106 = .ok (.ireturn, 1) := by decide +kernel
theorem dX3_hour_0 : decode cX3_hour 0 = .ok (.aload_n 0, 1) := by decide +kernel
theorem dX3_hour_1 : decode cX3_hour 1 = .ok (.getfield 29, 3) := by decide +kernel
theorem dX3_hour_4 : decode cX3_hour 4 = .ok (.invokevirtual 154, 3) := by decide +kernel
theorem dX3_hour_7 : decode cX3_hour 7 = .ok (.ifCond .eq 13, 3) := by decide +kernel
theorem dX3_hour_10 : decode cX3_hour 10 = .ok (.aload_n 0, 1) := by decide +kernel
theorem dX3_hour_11 : decode cX3_hour 11 = .ok (.getfield 29, 3) := by decide +kernel
theorem dX3_hour_14 : decode cX3_hour 14 = .ok (.getfield 158, 3) := by decide +kernel
theorem dX3_hour_17 : decode cX3_hour 17 = .ok (.goto 5, 3) := by decide +kernel
theorem dX3_hour_20 : decode cX3_hour 20 = .ok (.bipush (-2), 2) := by decide +kernel
theorem dX3_hour_22 : decode cX3_hour 22 = .ok (.ireturn, 1) := by decide +kernel
theorem dX3_undo_0 : decode cX3_undo 0 = .ok (.aload_n 0, 1) := by decide +kernel
theorem dX3_undo_1 : decode cX3_undo 1 = .ok (.getfield 29, 3) := by decide +kernel
theorem dX3_undo_4 : decode cX3_undo 4 = .ok (.invokevirtual 161, 3) := by decide +kernel
theorem dX3_undo_7 : decode cX3_undo 7 = .ok (.ifCond .eq 13, 3) := by decide +kernel
theorem dX3_undo_10 : decode cX3_undo 10 = .ok (.aload_n 0, 1) := by decide +kernel
theorem dX3_undo_11 : decode cX3_undo 11 = .ok (.getfield 29, 3) := by decide +kernel
theorem dX3_undo_14 : decode cX3_undo 14 = .ok (.getfield 164, 3) := by decide +kernel
theorem dX3_undo_17 : decode cX3_undo 17 = .ok (.goto 5, 3) := by decide +kernel
theorem dX3_undo_20 : decode cX3_undo 20 = .ok (.bipush (-2), 2) := by decide +kernel
theorem dX3_undo_22 : decode cX3_undo 22 = .ok (.ireturn, 1) := by decide +kernel
theorem dX3_now_0 : decode cX3_now 0 = .ok (.iload_n 1, 1) := by decide +kernel
theorem dX3_now_1 : decode cX3_now 1 = .ok (.tableswitch 105 0 7 #[47, 55, 63, 68, 76, 84, 92, 100], 47) := by decide +kernel
theorem dX3_now_48 : decode cX3_now 48 = .ok (.aload_n 0, 1) := by decide +kernel
theorem dX3_now_49 : decode cX3_now 49 = .ok (.getfield 29, 3) := by decide +kernel
theorem dX3_now_52 : decode cX3_now 52 = .ok (.getfield 158, 3) := by decide +kernel
theorem dX3_now_55 : decode cX3_now 55 = .ok (.ireturn, 1) := by decide +kernel
theorem dX3_now_56 : decode cX3_now 56 = .ok (.aload_n 0, 1) := by decide +kernel
theorem dX3_now_57 : decode cX3_now 57 = .ok (.getfield 29, 3) := by decide +kernel
theorem dX3_now_60 : decode cX3_now 60 = .ok (.getfield 147, 3) := by decide +kernel
theorem dX3_now_63 : decode cX3_now 63 = .ok (.ireturn, 1) := by decide +kernel
theorem dX3_now_64 : decode cX3_now 64 = .ok (.aload_n 0, 1) := by decide +kernel
theorem dX3_now_65 : decode cX3_now 65 = .ok (.invokevirtual 103, 3) := by decide +kernel
theorem dX3_now_68 : decode cX3_now 68 = .ok (.ireturn, 1) := by decide +kernel
theorem dX3_now_69 : decode cX3_now 69 = .ok (.aload_n 0, 1) := by decide +kernel
theorem dX3_now_70 : decode cX3_now 70 = .ok (.getfield 29, 3) := by decide +kernel
theorem dX3_now_73 : decode cX3_now 73 = .ok (.invokevirtual 167, 3) := by decide +kernel
theorem dX3_now_76 : decode cX3_now 76 = .ok (.ireturn, 1) := by decide +kernel
theorem dX3_now_77 : decode cX3_now 77 = .ok (.aload_n 0, 1) := by decide +kernel
theorem dX3_now_78 : decode cX3_now 78 = .ok (.getfield 29, 3) := by decide +kernel
theorem dX3_now_81 : decode cX3_now 81 = .ok (.invokevirtual 170, 3) := by decide +kernel
theorem dX3_now_84 : decode cX3_now 84 = .ok (.ireturn, 1) := by decide +kernel
theorem dX3_now_85 : decode cX3_now 85 = .ok (.aload_n 0, 1) := by decide +kernel
theorem dX3_now_86 : decode cX3_now 86 = .ok (.getfield 29, 3) := by decide +kernel
theorem dX3_now_89 : decode cX3_now 89 = .ok (.invokevirtual 173, 3) := by decide +kernel
theorem dX3_now_92 : decode cX3_now 92 = .ok (.ireturn, 1) := by decide +kernel
theorem dX3_now_93 : decode cX3_now 93 = .ok (.aload_n 0, 1) := by decide +kernel
theorem dX3_now_94 : decode cX3_now 94 = .ok (.getfield 29, 3) := by decide +kernel
theorem dX3_now_97 : decode cX3_now 97 = .ok (.invokevirtual 176, 3) := by decide +kernel
theorem dX3_now_100 : decode cX3_now 100 = .ok (.ireturn, 1) := by decide +kernel
theorem dX3_now_101 : decode cX3_now 101 = .ok (.aload_n 0, 1) := by decide +kernel
theorem dX3_now_102 : decode cX3_now 102 = .ok (.invokevirtual 179, 3) := by decide +kernel
theorem dX3_now_105 : decode cX3_now 105 = .ok (.ireturn, 1) := by decide +kernel
theorem dX3_now_106 : decode cX3_now 106 = .ok (.iconst (-1), 1) := by decide +kernel
theorem dX3_now_107 : decode cX3_now 107 = .ok (.ireturn, 1) := by decide +kernel
theorem dX3_worth_0 : decode cX3_worth 0 = .ok (.aload_n 0, 1) := by decide +kernel
theorem dX3_worth_1 : decode cX3_worth 1 = .ok (.getfield 29, 3) := by decide +kernel
theorem dX3_worth_4 : decode cX3_worth 4 = .ok (.iload_n 1, 1) := by decide +kernel
theorem dX3_worth_5 : decode cX3_worth 5 = .ok (.invokevirtual 113, 3) := by decide +kernel
theorem dX3_worth_8 : decode cX3_worth 8 = .ok (.ifCond .eq 16, 3) := by decide +kernel
theorem dX3_worth_11 : decode cX3_worth 11 = .ok (.aload_n 0, 1) := by decide +kernel
theorem dX3_worth_12 : decode cX3_worth 12 = .ok (.getfield 29, 3) := by decide +kernel
theorem dX3_worth_15 : decode cX3_worth 15 = .ok (.getfield 128, 3) := by decide +kernel
theorem dX3_worth_18 : decode cX3_worth 18 = .ok (.iload_n 1, 1) := by decide +kernel
theorem dX3_worth_19 : decode cX3_worth 19 = .ok (.iaload, 1) := by decide +kernel
theorem dX3_worth_20 : decode cX3_worth 20 = .ok (.iload_n 1, 1) := by decide +kernel
theorem dX3_worth_21 : decode cX3_worth 21 = .ok (.if_icmp .eq 5, 3) := by decide +kernel
theorem dX3_worth_24 : decode cX3_worth 24 = .ok (.iconst (-1), 1) := by decide +kernel
theorem dX3_worth_25 : decode cX3_worth 25 = .ok (.ireturn, 1) := by decide +kernel
theorem dX3_worth_26 : decode cX3_worth 26 = .ok (.iconst 0, 1) := by decide +kernel
theorem dX3_worth_27 : decode cX3_worth 27 = .ok (.istore_n 2, 1) := by decide +kernel
theorem dX3_worth_28 : decode cX3_worth 28 = .ok (.iconst 0, 1) := by decide +kernel
theorem dX3_worth_29 : decode cX3_worth 29 = .ok (.istore_n 3, 1) := by decide +kernel
theorem dX3_worth_30 : decode cX3_worth 30 = .ok (.iload_n 3, 1) := by decide +kernel
theorem dX3_worth_31 : decode cX3_worth 31 = .ok (.aload_n 0, 1) := by decide +kernel
theorem dX3_worth_32 : decode cX3_worth 32 = .ok (.getfield 29, 3) := by decide +kernel
theorem dX3_worth_35 : decode cX3_worth 35 = .ok (.getfield 147, 3) := by decide +kernel
theorem dX3_worth_38 : decode cX3_worth 38 = .ok (.if_icmp .ge 41, 3) := by decide +kernel
theorem dX3_worth_41 : decode cX3_worth 41 = .ok (.aload_n 0, 1) := by decide +kernel
theorem dX3_worth_42 : decode cX3_worth 42 = .ok (.getfield 29, 3) := by decide +kernel
theorem dX3_worth_45 : decode cX3_worth 45 = .ok (.getfield 128, 3) := by decide +kernel
theorem dX3_worth_48 : decode cX3_worth 48 = .ok (.iload_n 3, 1) := by decide +kernel
theorem dX3_worth_49 : decode cX3_worth 49 = .ok (.iaload, 1) := by decide +kernel
theorem dX3_worth_50 : decode cX3_worth 50 = .ok (.iload_n 1, 1) := by decide +kernel
theorem dX3_worth_51 : decode cX3_worth 51 = .ok (.if_icmp .ne 22, 3) := by decide +kernel
theorem dX3_worth_54 : decode cX3_worth 54 = .ok (.iload_n 2, 1) := by decide +kernel
theorem dX3_worth_55 : decode cX3_worth 55 = .ok (.aload_n 0, 1) := by decide +kernel
theorem dX3_worth_56 : decode cX3_worth 56 = .ok (.getfield 19, 3) := by decide +kernel
theorem dX3_worth_59 : decode cX3_worth 59 = .ok (.aload_n 0, 1) := by decide +kernel
theorem dX3_worth_60 : decode cX3_worth 60 = .ok (.getfield 29, 3) := by decide +kernel
theorem dX3_worth_63 : decode cX3_worth 63 = .ok (.getfield 116, 3) := by decide +kernel
theorem dX3_worth_66 : decode cX3_worth 66 = .ok (.iload_n 3, 1) := by decide +kernel
theorem dX3_worth_67 : decode cX3_worth 67 = .ok (.iaload, 1) := by decide +kernel
theorem dX3_worth_68 : decode cX3_worth 68 = .ok (.invokevirtual 182, 3) := by decide +kernel
theorem dX3_worth_71 : decode cX3_worth 71 = .ok (.iadd, 1) := by decide +kernel
theorem dX3_worth_72 : decode cX3_worth 72 = .ok (.istore_n 2, 1) := by decide +kernel
theorem dX3_worth_73 : decode cX3_worth 73 = .ok (.iinc 3 1, 3) := by decide +kernel
theorem dX3_worth_76 : decode cX3_worth 76 = .ok (.goto (-46), 3) := by decide +kernel
theorem dX3_worth_79 : decode cX3_worth 79 = .ok (.iload_n 2, 1) := by decide +kernel
theorem dX3_worth_80 : decode cX3_worth 80 = .ok (.ireturn, 1) := by decide +kernel
theorem dX3_thereNow_0 : decode cX3_thereNow 0 = .ok (.aload_n 0, 1) := by decide +kernel
theorem dX3_thereNow_1 : decode cX3_thereNow 1 = .ok (.getfield 29, 3) := by decide +kernel
theorem dX3_thereNow_4 : decode cX3_thereNow 4 = .ok (.iconst 0, 1) := by decide +kernel
theorem dX3_thereNow_5 : decode cX3_thereNow 5 = .ok (.aload_n 0, 1) := by decide +kernel
theorem dX3_thereNow_6 : decode cX3_thereNow 6 = .ok (.getfield 19, 3) := by decide +kernel
theorem dX3_thereNow_9 : decode cX3_thereNow 9 = .ok (.getfield 137, 3) := by decide +kernel
theorem dX3_thereNow_12 : decode cX3_thereNow 12 = .ok (.invokevirtual 185, 3) := by decide +kernel
theorem dX3_thereNow_15 : decode cX3_thereNow 15 = .ok (.ireturn, 1) := by decide +kernel
theorem dX3_hoursToSilence_0 : decode cX3_hoursToSilence 0 = .ok (.iconst 0, 1) := by decide +kernel
theorem dX3_hoursToSilence_1 : decode cX3_hoursToSilence 1 = .ok (.istore_n 1, 1) := by decide +kernel
theorem dX3_hoursToSilence_2 : decode cX3_hoursToSilence 2 = .ok (.iload_n 1, 1) := by decide +kernel
theorem dX3_hoursToSilence_3 : decode cX3_hoursToSilence 3 = .ok (.bipush 9, 2) := by decide +kernel
theorem dX3_hoursToSilence_5 : decode cX3_hoursToSilence 5 = .ok (.if_icmp .gt 36, 3) := by decide +kernel
theorem dX3_hoursToSilence_8 : decode cX3_hoursToSilence 8 = .ok (.aload_n 0, 1) := by decide +kernel
theorem dX3_hoursToSilence_9 : decode cX3_hoursToSilence 9 = .ok (.getfield 19, 3) := by decide +kernel
theorem dX3_hoursToSilence_12 : decode cX3_hoursToSilence 12 = .ok (.aload_n 0, 1) := by decide +kernel
theorem dX3_hoursToSilence_13 : decode cX3_hoursToSilence 13 = .ok (.getfield 29, 3) := by decide +kernel
theorem dX3_hoursToSilence_16 : decode cX3_hoursToSilence 16 = .ok (.iload_n 1, 1) := by decide +kernel
theorem dX3_hoursToSilence_17 : decode cX3_hoursToSilence 17 = .ok (.aload_n 0, 1) := by decide +kernel
theorem dX3_hoursToSilence_18 : decode cX3_hoursToSilence 18 = .ok (.getfield 19, 3) := by decide +kernel
theorem dX3_hoursToSilence_21 : decode cX3_hoursToSilence 21 = .ok (.getfield 137, 3) := by decide +kernel
theorem dX3_hoursToSilence_24 : decode cX3_hoursToSilence 24 = .ok (.invokevirtual 185, 3) := by decide +kernel
theorem dX3_hoursToSilence_27 : decode cX3_hoursToSilence 27 = .ok (.invokevirtual 107, 3) := by decide +kernel
theorem dX3_hoursToSilence_30 : decode cX3_hoursToSilence 30 = .ok (.ifCond .ne 5, 3) := by decide +kernel
theorem dX3_hoursToSilence_33 : decode cX3_hoursToSilence 33 = .ok (.iload_n 1, 1) := by decide +kernel
theorem dX3_hoursToSilence_34 : decode cX3_hoursToSilence 34 = .ok (.ireturn, 1) := by decide +kernel
theorem dX3_hoursToSilence_35 : decode cX3_hoursToSilence 35 = .ok (.iinc 1 1, 3) := by decide +kernel
theorem dX3_hoursToSilence_38 : decode cX3_hoursToSilence 38 = .ok (.goto (-36), 3) := by decide +kernel
theorem dX3_hoursToSilence_41 : decode cX3_hoursToSilence 41 = .ok (.bipush (-9), 2) := by decide +kernel
theorem dX3_hoursToSilence_43 : decode cX3_hoursToSilence 43 = .ok (.ireturn, 1) := by decide +kernel
theorem dX3_chain_0 : decode cX3_chain 0 = .ok (.aload_n 0, 1) := by decide +kernel
theorem dX3_chain_1 : decode cX3_chain 1 = .ok (.getfield 19, 3) := by decide +kernel
theorem dX3_chain_4 : decode cX3_chain 4 = .ok (.iload_n 1, 1) := by decide +kernel
theorem dX3_chain_5 : decode cX3_chain 5 = .ok (.invokevirtual 78, 3) := by decide +kernel
theorem dX3_chain_8 : decode cX3_chain 8 = .ok (.ifCond .eq 8, 3) := by decide +kernel
theorem dX3_chain_11 : decode cX3_chain 11 = .ok (.iload_n 2, 1) := by decide +kernel
theorem dX3_chain_12 : decode cX3_chain 12 = .ok (.iconst (-1), 1) := by decide +kernel
theorem dX3_chain_13 : decode cX3_chain 13 = .ok (.if_icmp .ge 5, 3) := by decide +kernel
theorem dX3_chain_16 : decode cX3_chain 16 = .ok (.iconst (-1), 1) := by decide +kernel
theorem dX3_chain_17 : decode cX3_chain 17 = .ok (.ireturn, 1) := by decide +kernel
theorem dX3_chain_18 : decode cX3_chain 18 = .ok (.aload_n 0, 1) := by decide +kernel
theorem dX3_chain_19 : decode cX3_chain 19 = .ok (.getfield 19, 3) := by decide +kernel
theorem dX3_chain_22 : decode cX3_chain 22 = .ok (.aload_n 0, 1) := by decide +kernel
theorem dX3_chain_23 : decode cX3_chain 23 = .ok (.invokevirtual 103, 3) := by decide +kernel
theorem dX3_chain_26 : decode cX3_chain 26 = .ok (.invokevirtual 107, 3) := by decide +kernel
theorem dX3_chain_29 : decode cX3_chain 29 = .ok (.istore_n 3, 1) := by decide +kernel
theorem dX3_chain_30 : decode cX3_chain 30 = .ok (.aload_n 0, 1) := by decide +kernel
theorem dX3_chain_31 : decode cX3_chain 31 = .ok (.iload_n 1, 1) := by decide +kernel
theorem dX3_chain_32 : decode cX3_chain 32 = .ok (.iload_n 3, 1) := by decide +kernel
theorem dX3_chain_33 : decode cX3_chain 33 = .ok (.invokevirtual 188, 3) := by decide +kernel
theorem dX3_chain_36 : decode cX3_chain 36 = .ok (.istore 4, 2) := by decide +kernel
theorem dX3_chain_38 : decode cX3_chain 38 = .ok (.iload 4, 2) := by decide +kernel
theorem dX3_chain_40 : decode cX3_chain 40 = .ok (.bipush (-9), 2) := by decide +kernel
theorem dX3_chain_42 : decode cX3_chain 42 = .ok (.if_icmp .eq 8, 3) := by decide +kernel
theorem dX3_chain_45 : decode cX3_chain 45 = .ok (.iload_n 2, 1) := by decide +kernel
theorem dX3_chain_46 : decode cX3_chain 46 = .ok (.iconst (-1), 1) := by decide +kernel
theorem dX3_chain_47 : decode cX3_chain 47 = .ok (.if_icmp .ne 6, 3) := by decide +kernel
theorem dX3_chain_50 : decode cX3_chain 50 = .ok (.iload 4, 2) := by decide +kernel
theorem dX3_chain_52 : decode cX3_chain 52 = .ok (.ireturn, 1) := by decide +kernel
theorem dX3_chain_53 : decode cX3_chain 53 = .ok (.iload_n 2, 1) := by decide +kernel
theorem dX3_chain_54 : decode cX3_chain 54 = .ok (.iload 4, 2) := by decide +kernel
theorem dX3_chain_56 : decode cX3_chain 56 = .ok (.if_icmp .ge 14, 3) := by decide +kernel
theorem dX3_chain_59 : decode cX3_chain 59 = .ok (.aload_n 0, 1) := by decide +kernel
theorem dX3_chain_60 : decode cX3_chain 60 = .ok (.iload 4, 2) := by decide +kernel
theorem dX3_chain_62 : decode cX3_chain 62 = .ok (.iload_n 2, 1) := by decide +kernel
theorem dX3_chain_63 : decode cX3_chain 63 = .ok (.iload_n 3, 1) := by decide +kernel
theorem dX3_chain_64 : decode cX3_chain 64 = .ok (.invokevirtual 191, 3) := by decide +kernel
theorem dX3_chain_67 : decode cX3_chain 67 = .ok (.goto 5, 3) := by decide +kernel
theorem dX3_chain_70 : decode cX3_chain 70 = .ok (.bipush (-9), 2) := by decide +kernel
theorem dX3_chain_72 : decode cX3_chain 72 = .ok (.ireturn, 1) := by decide +kernel
theorem dX3_chainLength_0 : decode cX3_chainLength 0 = .ok (.aload_n 0, 1) := by decide +kernel
theorem dX3_chainLength_1 : decode cX3_chainLength 1 = .ok (.getfield 19, 3) := by decide +kernel
theorem dX3_chainLength_4 : decode cX3_chainLength 4 = .ok (.getfield 195, 3) := by decide +kernel
theorem dX3_chainLength_7 : decode cX3_chainLength 7 = .ok (.iconst 1, 1) := by decide +kernel
theorem dX3_chainLength_8 : decode cX3_chainLength 8 = .ok (.iload_n 1, 1) := by decide +kernel
theorem dX3_chainLength_9 : decode cX3_chainLength 9 = .ok (.ishl, 1) := by decide +kernel
theorem dX3_chainLength_10 : decode cX3_chainLength 10 = .ok (.iand, 1) := by decide +kernel
theorem dX3_chainLength_11 : decode cX3_chainLength 11 = .ok (.istore_n 3, 1) := by decide +kernel
theorem dX3_chainLength_12 : decode cX3_chainLength 12 = .ok (.iconst 0, 1) := by decide +kernel
theorem dX3_chainLength_13 : decode cX3_chainLength 13 = .ok (.istore 4, 2) := by decide +kernel
theorem dX3_chainLength_15 : decode cX3_chainLength 15 = .ok (.iload 4, 2) := by decide +kernel
theorem dX3_chainLength_17 : decode cX3_chainLength 17 = .ok (.bipush 8, 2) := by decide +kernel
theorem dX3_chainLength_19 : decode cX3_chainLength 19 = .ok (.if_icmp .ge 45, 3) := by decide +kernel
theorem dX3_chainLength_22 : decode cX3_chainLength 22 = .ok (.aload_n 0, 1) := by decide +kernel
theorem dX3_chainLength_23 : decode cX3_chainLength 23 = .ok (.getfield 47, 3) := by decide +kernel
theorem dX3_chainLength_26 : decode cX3_chainLength 26 = .ok (.iload 4, 2) := by decide +kernel
theorem dX3_chainLength_28 : decode cX3_chainLength 28 = .ok (.iload_n 3, 1) := by decide +kernel
theorem dX3_chainLength_29 : decode cX3_chainLength 29 = .ok (.iastore, 1) := by decide +kernel
theorem dX3_chainLength_30 : decode cX3_chainLength 30 = .ok (.iload_n 3, 1) := by decide +kernel
theorem dX3_chainLength_31 : decode cX3_chainLength 31 = .ok (.iload_n 2, 1) := by decide +kernel
theorem dX3_chainLength_32 : decode cX3_chainLength 32 = .ok (.iand, 1) := by decide +kernel
theorem dX3_chainLength_33 : decode cX3_chainLength 33 = .ok (.ifCond .eq 8, 3) := by decide +kernel
theorem dX3_chainLength_36 : decode cX3_chainLength 36 = .ok (.iload 4, 2) := by decide +kernel
theorem dX3_chainLength_38 : decode cX3_chainLength 38 = .ok (.iconst 1, 1) := by decide +kernel
theorem dX3_chainLength_39 : decode cX3_chainLength 39 = .ok (.iadd, 1) := by decide +kernel
theorem dX3_chainLength_40 : decode cX3_chainLength 40 = .ok (.ireturn, 1) := by decide +kernel
theorem dX3_chainLength_41 : decode cX3_chainLength 41 = .ok (.aload_n 0, 1) := by decide +kernel
theorem dX3_chainLength_42 : decode cX3_chainLength 42 = .ok (.getfield 19, 3) := by decide +kernel
theorem dX3_chainLength_45 : decode cX3_chainLength 45 = .ok (.iload_n 3, 1) := by decide +kernel
theorem dX3_chainLength_46 : decode cX3_chainLength 46 = .ok (.invokevirtual 198, 3) := by decide +kernel
theorem dX3_chainLength_49 : decode cX3_chainLength 49 = .ok (.aload_n 0, 1) := by decide +kernel
theorem dX3_chainLength_50 : decode cX3_chainLength 50 = .ok (.getfield 19, 3) := by decide +kernel
theorem dX3_chainLength_53 : decode cX3_chainLength 53 = .ok (.getfield 195, 3) := by decide +kernel
theorem dX3_chainLength_56 : decode cX3_chainLength 56 = .ok (.iand, 1) := by decide +kernel
theorem dX3_chainLength_57 : decode cX3_chainLength 57 = .ok (.istore_n 3, 1) := by decide +kernel
theorem dX3_chainLength_58 : decode cX3_chainLength 58 = .ok (.iinc 4 1, 3) := by decide +kernel
theorem dX3_chainLength_61 : decode cX3_chainLength 61 = .ok (.goto (-46), 3) := by decide +kernel
theorem dX3_chainLength_64 : decode cX3_chainLength 64 = .ok (.bipush (-9), 2) := by decide +kernel
theorem dX3_chainLength_66 : decode cX3_chainLength 66 = .ok (.ireturn, 1) := by decide +kernel
theorem dX3_chainStep_0 : decode cX3_chainStep 0 = .ok (.iload_n 3, 1) := by decide +kernel
theorem dX3_chainStep_1 : decode cX3_chainStep 1 = .ok (.istore 4, 2) := by decide +kernel
theorem dX3_chainStep_3 : decode cX3_chainStep 3 = .ok (.bipush (-9), 2) := by decide +kernel
theorem dX3_chainStep_5 : decode cX3_chainStep 5 = .ok (.istore 5, 2) := by decide +kernel
theorem dX3_chainStep_7 : decode cX3_chainStep 7 = .ok (.iconst 0, 1) := by decide +kernel
theorem dX3_chainStep_8 : decode cX3_chainStep 8 = .ok (.istore 6, 2) := by decide +kernel
theorem dX3_chainStep_10 : decode cX3_chainStep 10 = .ok (.iload 6, 2) := by decide +kernel
theorem dX3_chainStep_12 : decode cX3_chainStep 12 = .ok (.iload_n 2, 1) := by decide +kernel
theorem dX3_chainStep_13 : decode cX3_chainStep 13 = .ok (.if_icmp .gt 47, 3) := by decide +kernel
theorem dX3_chainStep_16 : decode cX3_chainStep 16 = .ok (.iload 6, 2) := by decide +kernel
theorem dX3_chainStep_18 : decode cX3_chainStep 18 = .ok (.iload_n 1, 1) := by decide +kernel
theorem dX3_chainStep_19 : decode cX3_chainStep 19 = .ok (.if_icmp .ge 41, 3) := by decide +kernel
theorem dX3_chainStep_22 : decode cX3_chainStep 22 = .ok (.iload 4, 2) := by decide +kernel
theorem dX3_chainStep_24 : decode cX3_chainStep 24 = .ok (.aload_n 0, 1) := by decide +kernel
theorem dX3_chainStep_25 : decode cX3_chainStep 25 = .ok (.getfield 47, 3) := by decide +kernel
theorem dX3_chainStep_28 : decode cX3_chainStep 28 = .ok (.iload_n 1, 1) := by decide +kernel
theorem dX3_chainStep_29 : decode cX3_chainStep 29 = .ok (.iconst 1, 1) := by decide +kernel
theorem dX3_chainStep_30 : decode cX3_chainStep 30 = .ok (.isub, 1) := by decide +kernel
theorem dX3_chainStep_31 : decode cX3_chainStep 31 = .ok (.iload 6, 2) := by decide +kernel
theorem dX3_chainStep_33 : decode cX3_chainStep 33 = .ok (.isub, 1) := by decide +kernel
theorem dX3_chainStep_34 : decode cX3_chainStep 34 = .ok (.iaload, 1) := by decide +kernel
theorem dX3_chainStep_35 : decode cX3_chainStep 35 = .ok (.iand, 1) := by decide +kernel
theorem dX3_chainStep_36 : decode cX3_chainStep 36 = .ok (.invokestatic 201, 3) := by decide +kernel
theorem dX3_chainStep_39 : decode cX3_chainStep 39 = .ok (.istore 5, 2) := by decide +kernel
theorem dX3_chainStep_41 : decode cX3_chainStep 41 = .ok (.aload_n 0, 1) := by decide +kernel
theorem dX3_chainStep_42 : decode cX3_chainStep 42 = .ok (.getfield 19, 3) := by decide +kernel
theorem dX3_chainStep_45 : decode cX3_chainStep 45 = .ok (.iconst 1, 1) := by decide +kernel
theorem dX3_chainStep_46 : decode cX3_chainStep 46 = .ok (.iload 5, 2) := by decide +kernel
theorem dX3_chainStep_48 : decode cX3_chainStep 48 = .ok (.ishl, 1) := by decide +kernel
theorem dX3_chainStep_49 : decode cX3_chainStep 49 = .ok (.invokevirtual 107, 3) := by decide +kernel
theorem dX3_chainStep_52 : decode cX3_chainStep 52 = .ok (.istore 4, 2) := by decide +kernel
theorem dX3_chainStep_54 : decode cX3_chainStep 54 = .ok (.iinc 6 1, 3) := by decide +kernel
theorem dX3_chainStep_57 : decode cX3_chainStep 57 = .ok (.goto (-47), 3) := by decide +kernel
theorem dX3_chainStep_60 : decode cX3_chainStep 60 = .ok (.iload 5, 2) := by decide +kernel
theorem dX3_chainStep_62 : decode cX3_chainStep 62 = .ok (.ireturn, 1) := by decide +kernel
theorem dX3_lowest_0 : decode cX3_lowest 0 = .ok (.iconst 0, 1) := by decide +kernel
theorem dX3_lowest_1 : decode cX3_lowest 1 = .ok (.istore_n 1, 1) := by decide +kernel
theorem dX3_lowest_2 : decode cX3_lowest 2 = .ok (.iload_n 1, 1) := by decide +kernel
theorem dX3_lowest_3 : decode cX3_lowest 3 = .ok (.bipush 8, 2) := by decide +kernel
theorem dX3_lowest_5 : decode cX3_lowest 5 = .ok (.if_icmp .ge 19, 3) := by decide +kernel
theorem dX3_lowest_8 : decode cX3_lowest 8 = .ok (.iload_n 0, 1) := by decide +kernel
theorem dX3_lowest_9 : decode cX3_lowest 9 = .ok (.iconst 1, 1) := by decide +kernel
theorem dX3_lowest_10 : decode cX3_lowest 10 = .ok (.iload_n 1, 1) := by decide +kernel
theorem dX3_lowest_11 : decode cX3_lowest 11 = .ok (.ishl, 1) := by decide +kernel
theorem dX3_lowest_12 : decode cX3_lowest 12 = .ok (.iand, 1) := by decide +kernel
theorem dX3_lowest_13 : decode cX3_lowest 13 = .ok (.ifCond .eq 5, 3) := by decide +kernel
theorem dX3_lowest_16 : decode cX3_lowest 16 = .ok (.iload_n 1, 1) := by decide +kernel
theorem dX3_lowest_17 : decode cX3_lowest 17 = .ok (.ireturn, 1) := by decide +kernel
theorem dX3_lowest_18 : decode cX3_lowest 18 = .ok (.iinc 1 1, 3) := by decide +kernel
theorem dX3_lowest_21 : decode cX3_lowest 21 = .ok (.goto (-19), 3) := by decide +kernel
theorem dX3_lowest_24 : decode cX3_lowest 24 = .ok (.bipush (-9), 2) := by decide +kernel
theorem dX3_lowest_26 : decode cX3_lowest 26 = .ok (.ireturn, 1) := by decide +kernel
theorem dX3_sounds_0 : decode cX3_sounds 0 = .ok (.aload_n 0, 1) := by decide +kernel
theorem dX3_sounds_1 : decode cX3_sounds 1 = .ok (.getfield 19, 3) := by decide +kernel
theorem dX3_sounds_4 : decode cX3_sounds 4 = .ok (.iload_n 1, 1) := by decide +kernel
theorem dX3_sounds_5 : decode cX3_sounds 5 = .ok (.invokevirtual 204, 3) := by decide +kernel
theorem dX3_sounds_8 : decode cX3_sounds 8 = .ok (.ifCond .ne 5, 3) := by decide +kernel
theorem dX3_sounds_11 : decode cX3_sounds 11 = .ok (.iconst (-1), 1) := by decide +kernel
theorem dX3_sounds_12 : decode cX3_sounds 12 = .ok (.ireturn, 1) := by decide +kernel
theorem dX3_sounds_13 : decode cX3_sounds 13 = .ok (.aload_n 0, 1) := by decide +kernel
theorem dX3_sounds_14 : decode cX3_sounds 14 = .ok (.invokevirtual 103, 3) := by decide +kernel
theorem dX3_sounds_17 : decode cX3_sounds 17 = .ok (.istore_n 2, 1) := by decide +kernel
theorem dX3_sounds_18 : decode cX3_sounds 18 = .ok (.bipush (-9), 2) := by decide +kernel
theorem dX3_sounds_20 : decode cX3_sounds 20 = .ok (.istore_n 3, 1) := by decide +kernel
theorem dX3_sounds_21 : decode cX3_sounds 21 = .ok (.iconst 0, 1) := by decide +kernel
theorem dX3_sounds_22 : decode cX3_sounds 22 = .ok (.istore 4, 2) := by decide +kernel
theorem dX3_sounds_24 : decode cX3_sounds 24 = .ok (.iload 4, 2) := by decide +kernel
theorem dX3_sounds_26 : decode cX3_sounds 26 = .ok (.iconst 1, 1) := by decide +kernel
theorem dX3_sounds_27 : decode cX3_sounds 27 = .ok (.aload_n 0, 1) := by decide +kernel
theorem dX3_sounds_28 : decode cX3_sounds 28 = .ok (.getfield 19, 3) := by decide +kernel
theorem dX3_sounds_31 : decode cX3_sounds 31 = .ok (.getfield 207, 3) := by decide +kernel
theorem dX3_sounds_34 : decode cX3_sounds 34 = .ok (.ishl, 1) := by decide +kernel
theorem dX3_sounds_35 : decode cX3_sounds 35 = .ok (.if_icmp .ge 57, 3) := by decide +kernel
theorem dX3_sounds_38 : decode cX3_sounds 38 = .ok (.iload 4, 2) := by decide +kernel
theorem dX3_sounds_40 : decode cX3_sounds 40 = .ok (.aload_n 0, 1) := by decide +kernel
theorem dX3_sounds_41 : decode cX3_sounds 41 = .ok (.getfield 19, 3) := by decide +kernel
theorem dX3_sounds_44 : decode cX3_sounds 44 = .ok (.getfield 210, 3) := by decide +kernel
theorem dX3_sounds_47 : decode cX3_sounds 47 = .ok (.iconst (-1), 1) := by decide +kernel
theorem dX3_sounds_48 : decode cX3_sounds 48 = .ok (.ixor, 1) := by decide +kernel
theorem dX3_sounds_49 : decode cX3_sounds 49 = .ok (.iand, 1) := by decide +kernel
theorem dX3_sounds_50 : decode cX3_sounds 50 = .ok (.ifCond .ne 36, 3) := by decide +kernel
theorem dX3_sounds_53 : decode cX3_sounds 53 = .ok (.aload_n 0, 1) := by decide +kernel
theorem dX3_sounds_54 : decode cX3_sounds 54 = .ok (.iload_n 2, 1) := by decide +kernel
theorem dX3_sounds_55 : decode cX3_sounds 55 = .ok (.iload 4, 2) := by decide +kernel
theorem dX3_sounds_57 : decode cX3_sounds 57 = .ok (.ior, 1) := by decide +kernel
theorem dX3_sounds_58 : decode cX3_sounds 58 = .ok (.iload_n 1, 1) := by decide +kernel
theorem dX3_sounds_59 : decode cX3_sounds 59 = .ok (.invokevirtual 213, 3) := by decide +kernel
theorem dX3_sounds_62 : decode cX3_sounds 62 = .ok (.ifCond .eq 24, 3) := by decide +kernel
theorem dX3_sounds_65 : decode cX3_sounds 65 = .ok (.iload_n 3, 1) := by decide +kernel
theorem dX3_sounds_66 : decode cX3_sounds 66 = .ok (.bipush (-9), 2) := by decide +kernel
theorem dX3_sounds_68 : decode cX3_sounds 68 = .ok (.if_icmp .eq 15, 3) := by decide +kernel
theorem dX3_sounds_71 : decode cX3_sounds 71 = .ok (.iload 4, 2) := by decide +kernel
theorem dX3_sounds_73 : decode cX3_sounds 73 = .ok (.invokestatic 217, 3) := by decide +kernel
theorem dX3_sounds_76 : decode cX3_sounds 76 = .ok (.iload_n 3, 1) := by decide +kernel
theorem dX3_sounds_77 : decode cX3_sounds 77 = .ok (.invokestatic 217, 3) := by decide +kernel
theorem dX3_sounds_80 : decode cX3_sounds 80 = .ok (.if_icmp .ge 6, 3) := by decide +kernel
theorem dX3_sounds_83 : decode cX3_sounds 83 = .ok (.iload 4, 2) := by decide +kernel
theorem dX3_sounds_85 : decode cX3_sounds 85 = .ok (.istore_n 3, 1) := by decide +kernel
theorem dX3_sounds_86 : decode cX3_sounds 86 = .ok (.iinc 4 1, 3) := by decide +kernel
theorem dX3_sounds_89 : decode cX3_sounds 89 = .ok (.goto (-65), 3) := by decide +kernel
theorem dX3_sounds_92 : decode cX3_sounds 92 = .ok (.iload_n 3, 1) := by decide +kernel
theorem dX3_sounds_93 : decode cX3_sounds 93 = .ok (.ireturn, 1) := by decide +kernel
theorem dX3_began_0 : decode cX3_began 0 = .ok (.aload_n 0, 1) := by decide +kernel
theorem dX3_began_1 : decode cX3_began 1 = .ok (.getfield 19, 3) := by decide +kernel
theorem dX3_began_4 : decode cX3_began 4 = .ok (.iload_n 1, 1) := by decide +kernel
theorem dX3_began_5 : decode cX3_began 5 = .ok (.invokevirtual 204, 3) := by decide +kernel
theorem dX3_began_8 : decode cX3_began 8 = .ok (.ifCond .eq 11, 3) := by decide +kernel
theorem dX3_began_11 : decode cX3_began 11 = .ok (.aload_n 0, 1) := by decide +kernel
theorem dX3_began_12 : decode cX3_began 12 = .ok (.iload_n 1, 1) := by decide +kernel
theorem dX3_began_13 : decode cX3_began 13 = .ok (.invokevirtual 222, 3) := by decide +kernel
theorem dX3_began_16 : decode cX3_began 16 = .ok (.goto 4, 3) := by decide +kernel
theorem dX3_began_19 : decode cX3_began 19 = .ok (.iconst (-1), 1) := by decide +kernel
theorem dX3_began_20 : decode cX3_began 20 = .ok (.ireturn, 1) := by decide +kernel
theorem dX3_beginnings_0 : decode cX3_beginnings 0 = .ok (.iconst 0, 1) := by decide +kernel
theorem dX3_beginnings_1 : decode cX3_beginnings 1 = .ok (.istore_n 2, 1) := by decide +kernel
theorem dX3_beginnings_2 : decode cX3_beginnings 2 = .ok (.iconst 0, 1) := by decide +kernel
theorem dX3_beginnings_3 : decode cX3_beginnings 3 = .ok (.istore_n 3, 1) := by decide +kernel
theorem dX3_beginnings_4 : decode cX3_beginnings 4 = .ok (.iload_n 3, 1) := by decide +kernel
theorem dX3_beginnings_5 : decode cX3_beginnings 5 = .ok (.aload_n 0, 1) := by decide +kernel
theorem dX3_beginnings_6 : decode cX3_beginnings 6 = .ok (.getfield 19, 3) := by decide +kernel
theorem dX3_beginnings_9 : decode cX3_beginnings 9 = .ok (.getfield 207, 3) := by decide +kernel
theorem dX3_beginnings_12 : decode cX3_beginnings 12 = .ok (.if_icmp .ge 37, 3) := by decide +kernel
theorem dX3_beginnings_15 : decode cX3_beginnings 15 = .ok (.aload_n 0, 1) := by decide +kernel
theorem dX3_beginnings_16 : decode cX3_beginnings 16 = .ok (.getfield 19, 3) := by decide +kernel
theorem dX3_beginnings_19 : decode cX3_beginnings 19 = .ok (.iload_n 3, 1) := by decide +kernel
theorem dX3_beginnings_20 : decode cX3_beginnings 20 = .ok (.invokevirtual 81, 3) := by decide +kernel
theorem dX3_beginnings_23 : decode cX3_beginnings 23 = .ok (.ifCond .eq 20, 3) := by decide +kernel
theorem dX3_beginnings_26 : decode cX3_beginnings 26 = .ok (.aload_n 0, 1) := by decide +kernel
theorem dX3_beginnings_27 : decode cX3_beginnings 27 = .ok (.iconst 1, 1) := by decide +kernel
theorem dX3_beginnings_28 : decode cX3_beginnings 28 = .ok (.iload_n 3, 1) := by decide +kernel
theorem dX3_beginnings_29 : decode cX3_beginnings 29 = .ok (.ishl, 1) := by decide +kernel
theorem dX3_beginnings_30 : decode cX3_beginnings 30 = .ok (.iload_n 1, 1) := by decide +kernel
theorem dX3_beginnings_31 : decode cX3_beginnings 31 = .ok (.invokevirtual 213, 3) := by decide +kernel
theorem dX3_beginnings_34 : decode cX3_beginnings 34 = .ok (.ifCond .eq 9, 3) := by decide +kernel
theorem dX3_beginnings_37 : decode cX3_beginnings 37 = .ok (.iload_n 2, 1) := by decide +kernel
theorem dX3_beginnings_38 : decode cX3_beginnings 38 = .ok (.iconst 1, 1) := by decide +kernel
theorem dX3_beginnings_39 : decode cX3_beginnings 39 = .ok (.iload_n 3, 1) := by decide +kernel
theorem dX3_beginnings_40 : decode cX3_beginnings 40 = .ok (.ishl, 1) := by decide +kernel
theorem dX3_beginnings_41 : decode cX3_beginnings 41 = .ok (.ior, 1) := by decide +kernel
theorem dX3_beginnings_42 : decode cX3_beginnings 42 = .ok (.istore_n 2, 1) := by decide +kernel
theorem dX3_beginnings_43 : decode cX3_beginnings 43 = .ok (.iinc 3 1, 3) := by decide +kernel
theorem dX3_beginnings_46 : decode cX3_beginnings 46 = .ok (.goto (-42), 3) := by decide +kernel
theorem dX3_beginnings_49 : decode cX3_beginnings 49 = .ok (.iload_n 2, 1) := by decide +kernel
theorem dX3_beginnings_50 : decode cX3_beginnings 50 = .ok (.ireturn, 1) := by decide +kernel
theorem dX3_suffices_0 : decode cX3_suffices 0 = .ok (.iload_n 2, 1) := by decide +kernel
end
section
theorem dX3_suffices_1 : decode cX3_suffices 1 = .ok (.aload_n 0, 1) := by decide +kernel
theorem dX3_suffices_2 : decode cX3_suffices 2 = .ok (.getfield 19, 3) := by decide +kernel
theorem dX3_suffices_5 : decode cX3_suffices 5 = .ok (.getfield 210, 3) := by decide +kernel
theorem dX3_suffices_8 : decode cX3_suffices 8 = .ok (.iconst (-1), 1) := by decide +kernel
theorem dX3_suffices_9 : decode cX3_suffices 9 = .ok (.ixor, 1) := by decide +kernel
theorem dX3_suffices_10 : decode cX3_suffices 10 = .ok (.iand, 1) := by decide +kernel
theorem dX3_suffices_11 : decode cX3_suffices 11 = .ok (.aload_n 0, 1) := by decide +kernel
theorem dX3_suffices_12 : decode cX3_suffices 12 = .ok (.getfield 19, 3) := by decide +kernel
theorem dX3_suffices_15 : decode cX3_suffices 15 = .ok (.iload_n 1, 1) := by decide +kernel
theorem dX3_suffices_16 : decode cX3_suffices 16 = .ok (.invokevirtual 225, 3) := by decide +kernel
theorem dX3_suffices_19 : decode cX3_suffices 19 = .ok (.iconst (-1), 1) := by decide +kernel
theorem dX3_suffices_20 : decode cX3_suffices 20 = .ok (.ixor, 1) := by decide +kernel
theorem dX3_suffices_21 : decode cX3_suffices 21 = .ok (.iand, 1) := by decide +kernel
theorem dX3_suffices_22 : decode cX3_suffices 22 = .ok (.ifCond .ne 7, 3) := by decide +kernel
theorem dX3_suffices_25 : decode cX3_suffices 25 = .ok (.iconst 1, 1) := by decide +kernel
theorem dX3_suffices_26 : decode cX3_suffices 26 = .ok (.goto 4, 3) := by decide +kernel
theorem dX3_suffices_29 : decode cX3_suffices 29 = .ok (.iconst 0, 1) := by decide +kernel
theorem dX3_suffices_30 : decode cX3_suffices 30 = .ok (.ireturn, 1) := by decide +kernel
theorem dX3_odds_0 : decode cX3_odds 0 = .ok (.aload_n 0, 1) := by decide +kernel
theorem dX3_odds_1 : decode cX3_odds 1 = .ok (.getfield 19, 3) := by decide +kernel
theorem dX3_odds_4 : decode cX3_odds 4 = .ok (.iload_n 1, 1) := by decide +kernel
theorem dX3_odds_5 : decode cX3_odds 5 = .ok (.invokevirtual 78, 3) := by decide +kernel
theorem dX3_odds_8 : decode cX3_odds 8 = .ok (.ifCond .eq 22, 3) := by decide +kernel
theorem dX3_odds_11 : decode cX3_odds 11 = .ok (.iload_n 2, 1) := by decide +kernel
theorem dX3_odds_12 : decode cX3_odds 12 = .ok (.ifCond .lt 18, 3) := by decide +kernel
theorem dX3_odds_15 : decode cX3_odds 15 = .ok (.iload_n 2, 1) := by decide +kernel
theorem dX3_odds_16 : decode cX3_odds 16 = .ok (.bipush 10, 2) := by decide +kernel
theorem dX3_odds_18 : decode cX3_odds 18 = .ok (.if_icmp .gt 12, 3) := by decide +kernel
theorem dX3_odds_21 : decode cX3_odds 21 = .ok (.iload_n 3, 1) := by decide +kernel
theorem dX3_odds_22 : decode cX3_odds 22 = .ok (.ifCond .lt 8, 3) := by decide +kernel
theorem dX3_odds_25 : decode cX3_odds 25 = .ok (.iload_n 3, 1) := by decide +kernel
theorem dX3_odds_26 : decode cX3_odds 26 = .ok (.iconst 1, 1) := by decide +kernel
theorem dX3_odds_27 : decode cX3_odds 27 = .ok (.if_icmp .le 5, 3) := by decide +kernel
theorem dX3_odds_30 : decode cX3_odds 30 = .ok (.iconst (-1), 1) := by decide +kernel
theorem dX3_odds_31 : decode cX3_odds 31 = .ok (.ireturn, 1) := by decide +kernel
theorem dX3_odds_32 : decode cX3_odds 32 = .ok (.aload_n 0, 1) := by decide +kernel
theorem dX3_odds_33 : decode cX3_odds 33 = .ok (.getfield 19, 3) := by decide +kernel
theorem dX3_odds_36 : decode cX3_odds 36 = .ok (.iload_n 1, 1) := by decide +kernel
theorem dX3_odds_37 : decode cX3_odds 37 = .ok (.invokevirtual 81, 3) := by decide +kernel
theorem dX3_odds_40 : decode cX3_odds 40 = .ok (.ifCond .eq 7, 3) := by decide +kernel
theorem dX3_odds_43 : decode cX3_odds 43 = .ok (.iconst 1, 1) := by decide +kernel
theorem dX3_odds_44 : decode cX3_odds 44 = .ok (.goto 13, 3) := by decide +kernel
theorem dX3_odds_47 : decode cX3_odds 47 = .ok (.aload_n 0, 1) := by decide +kernel
theorem dX3_odds_48 : decode cX3_odds 48 = .ok (.iconst 1, 1) := by decide +kernel
theorem dX3_odds_49 : decode cX3_odds 49 = .ok (.iload_n 1, 1) := by decide +kernel
theorem dX3_odds_50 : decode cX3_odds 50 = .ok (.ishl, 1) := by decide +kernel
theorem dX3_odds_51 : decode cX3_odds 51 = .ok (.invokevirtual 222, 3) := by decide +kernel
theorem dX3_odds_54 : decode cX3_odds 54 = .ok (.invokestatic 217, 3) := by decide +kernel
theorem dX3_odds_57 : decode cX3_odds 57 = .ok (.istore 4, 2) := by decide +kernel
theorem dX3_odds_59 : decode cX3_odds 59 = .ok (.iconst 1, 1) := by decide +kernel
theorem dX3_odds_60 : decode cX3_odds 60 = .ok (.istore 5, 2) := by decide +kernel
theorem dX3_odds_62 : decode cX3_odds 62 = .ok (.iconst 1, 1) := by decide +kernel
theorem dX3_odds_63 : decode cX3_odds 63 = .ok (.istore 6, 2) := by decide +kernel
theorem dX3_odds_65 : decode cX3_odds 65 = .ok (.iconst 0, 1) := by decide +kernel
theorem dX3_odds_66 : decode cX3_odds 66 = .ok (.istore 7, 2) := by decide +kernel
theorem dX3_odds_68 : decode cX3_odds 68 = .ok (.iload 7, 2) := by decide +kernel
theorem dX3_odds_70 : decode cX3_odds 70 = .ok (.iload 4, 2) := by decide +kernel
theorem dX3_odds_72 : decode cX3_odds 72 = .ok (.if_icmp .ge 25, 3) := by decide +kernel
theorem dX3_odds_75 : decode cX3_odds 75 = .ok (.iload 5, 2) := by decide +kernel
theorem dX3_odds_77 : decode cX3_odds 77 = .ok (.bipush 10, 2) := by decide +kernel
theorem dX3_odds_79 : decode cX3_odds 79 = .ok (.imul, 1) := by decide +kernel
theorem dX3_odds_80 : decode cX3_odds 80 = .ok (.istore 5, 2) := by decide +kernel
theorem dX3_odds_82 : decode cX3_odds 82 = .ok (.iload 6, 2) := by decide +kernel
theorem dX3_odds_84 : decode cX3_odds 84 = .ok (.bipush 10, 2) := by decide +kernel
theorem dX3_odds_86 : decode cX3_odds 86 = .ok (.iload_n 2, 1) := by decide +kernel
theorem dX3_odds_87 : decode cX3_odds 87 = .ok (.isub, 1) := by decide +kernel
theorem dX3_odds_88 : decode cX3_odds 88 = .ok (.imul, 1) := by decide +kernel
theorem dX3_odds_89 : decode cX3_odds 89 = .ok (.istore 6, 2) := by decide +kernel
theorem dX3_odds_91 : decode cX3_odds 91 = .ok (.iinc 7 1, 3) := by decide +kernel
theorem dX3_odds_94 : decode cX3_odds 94 = .ok (.goto (-26), 3) := by decide +kernel
theorem dX3_odds_97 : decode cX3_odds 97 = .ok (.iload_n 3, 1) := by decide +kernel
theorem dX3_odds_98 : decode cX3_odds 98 = .ok (.ifCond .ne 11, 3) := by decide +kernel
theorem dX3_odds_101 : decode cX3_odds 101 = .ok (.iload 5, 2) := by decide +kernel
theorem dX3_odds_103 : decode cX3_odds 103 = .ok (.iload 6, 2) := by decide +kernel
theorem dX3_odds_105 : decode cX3_odds 105 = .ok (.isub, 1) := by decide +kernel
theorem dX3_odds_106 : decode cX3_odds 106 = .ok (.goto 5, 3) := by decide +kernel
theorem dX3_odds_109 : decode cX3_odds 109 = .ok (.iload 5, 2) := by decide +kernel
theorem dX3_odds_111 : decode cX3_odds 111 = .ok (.istore 7, 2) := by decide +kernel
theorem dX3_odds_113 : decode cX3_odds 113 = .ok (.iload 5, 2) := by decide +kernel
theorem dX3_odds_115 : decode cX3_odds 115 = .ok (.iload 6, 2) := by decide +kernel
theorem dX3_odds_117 : decode cX3_odds 117 = .ok (.isub, 1) := by decide +kernel
theorem dX3_odds_118 : decode cX3_odds 118 = .ok (.iload 5, 2) := by decide +kernel
theorem dX3_odds_120 : decode cX3_odds 120 = .ok (.invokestatic 228, 3) := by decide +kernel
theorem dX3_odds_123 : decode cX3_odds 123 = .ok (.istore 8, 2) := by decide +kernel
theorem dX3_odds_125 : decode cX3_odds 125 = .ok (.iload 8, 2) := by decide +kernel
theorem dX3_odds_127 : decode cX3_odds 127 = .ok (.ifCond .le 11, 3) := by decide +kernel
theorem dX3_odds_130 : decode cX3_odds 130 = .ok (.iload 7, 2) := by decide +kernel
theorem dX3_odds_132 : decode cX3_odds 132 = .ok (.iload 8, 2) := by decide +kernel
theorem dX3_odds_134 : decode cX3_odds 134 = .ok (.idiv, 1) := by decide +kernel
theorem dX3_odds_135 : decode cX3_odds 135 = .ok (.goto 5, 3) := by decide +kernel
theorem dX3_odds_138 : decode cX3_odds 138 = .ok (.iload 7, 2) := by decide +kernel
theorem dX3_odds_140 : decode cX3_odds 140 = .ok (.ireturn, 1) := by decide +kernel
theorem dX3_commonDivisor_0 : decode cX3_commonDivisor 0 = .ok (.iload_n 1, 1) := by decide +kernel
theorem dX3_commonDivisor_1 : decode cX3_commonDivisor 1 = .ok (.istore_n 2, 1) := by decide +kernel
theorem dX3_commonDivisor_2 : decode cX3_commonDivisor 2 = .ok (.iload_n 0, 1) := by decide +kernel
theorem dX3_commonDivisor_3 : decode cX3_commonDivisor 3 = .ok (.istore_n 3, 1) := by decide +kernel
theorem dX3_commonDivisor_4 : decode cX3_commonDivisor 4 = .ok (.iconst 0, 1) := by decide +kernel
theorem dX3_commonDivisor_5 : decode cX3_commonDivisor 5 = .ok (.istore 4, 2) := by decide +kernel
theorem dX3_commonDivisor_7 : decode cX3_commonDivisor 7 = .ok (.iload 4, 2) := by decide +kernel
theorem dX3_commonDivisor_9 : decode cX3_commonDivisor 9 = .ok (.bipush 100, 2) := by decide +kernel
theorem dX3_commonDivisor_11 : decode cX3_commonDivisor 11 = .ok (.if_icmp .ge 23, 3) := by decide +kernel
theorem dX3_commonDivisor_14 : decode cX3_commonDivisor 14 = .ok (.iload_n 3, 1) := by decide +kernel
theorem dX3_commonDivisor_15 : decode cX3_commonDivisor 15 = .ok (.ifCond .eq 19, 3) := by decide +kernel
theorem dX3_commonDivisor_18 : decode cX3_commonDivisor 18 = .ok (.iload_n 2, 1) := by decide +kernel
theorem dX3_commonDivisor_19 : decode cX3_commonDivisor 19 = .ok (.iload_n 3, 1) := by decide +kernel
theorem dX3_commonDivisor_20 : decode cX3_commonDivisor 20 = .ok (.irem, 1) := by decide +kernel
theorem dX3_commonDivisor_21 : decode cX3_commonDivisor 21 = .ok (.istore 5, 2) := by decide +kernel
theorem dX3_commonDivisor_23 : decode cX3_commonDivisor 23 = .ok (.iload_n 3, 1) := by decide +kernel
theorem dX3_commonDivisor_24 : decode cX3_commonDivisor 24 = .ok (.istore_n 2, 1) := by decide +kernel
theorem dX3_commonDivisor_25 : decode cX3_commonDivisor 25 = .ok (.iload 5, 2) := by decide +kernel
theorem dX3_commonDivisor_27 : decode cX3_commonDivisor 27 = .ok (.istore_n 3, 1) := by decide +kernel
theorem dX3_commonDivisor_28 : decode cX3_commonDivisor 28 = .ok (.iinc 4 1, 3) := by decide +kernel
theorem dX3_commonDivisor_31 : decode cX3_commonDivisor 31 = .ok (.goto (-24), 3) := by decide +kernel
theorem dX3_commonDivisor_34 : decode cX3_commonDivisor 34 = .ok (.iload_n 2, 1) := by decide +kernel
theorem dX3_commonDivisor_35 : decode cX3_commonDivisor 35 = .ok (.ireturn, 1) := by decide +kernel
theorem dX3_tells_0 : decode cX3_tells 0 = .ok (.aload_n 0, 1) := by decide +kernel
theorem dX3_tells_1 : decode cX3_tells 1 = .ok (.getfield 19, 3) := by decide +kernel
theorem dX3_tells_4 : decode cX3_tells 4 = .ok (.iload_n 1, 1) := by decide +kernel
theorem dX3_tells_5 : decode cX3_tells 5 = .ok (.invokevirtual 78, 3) := by decide +kernel
theorem dX3_tells_8 : decode cX3_tells 8 = .ok (.ifCond .eq 19, 3) := by decide +kernel
theorem dX3_tells_11 : decode cX3_tells 11 = .ok (.aload_n 0, 1) := by decide +kernel
theorem dX3_tells_12 : decode cX3_tells 12 = .ok (.getfield 19, 3) := by decide +kernel
theorem dX3_tells_15 : decode cX3_tells 15 = .ok (.iload_n 2, 1) := by decide +kernel
theorem dX3_tells_16 : decode cX3_tells 16 = .ok (.invokevirtual 78, 3) := by decide +kernel
theorem dX3_tells_19 : decode cX3_tells 19 = .ok (.ifCond .eq 8, 3) := by decide +kernel
theorem dX3_tells_22 : decode cX3_tells 22 = .ok (.iload_n 1, 1) := by decide +kernel
theorem dX3_tells_23 : decode cX3_tells 23 = .ok (.iload_n 2, 1) := by decide +kernel
theorem dX3_tells_24 : decode cX3_tells 24 = .ok (.if_icmp .ne 5, 3) := by decide +kernel
theorem dX3_tells_27 : decode cX3_tells 27 = .ok (.iconst (-1), 1) := by decide +kernel
theorem dX3_tells_28 : decode cX3_tells 28 = .ok (.ireturn, 1) := by decide +kernel
theorem dX3_tells_29 : decode cX3_tells 29 = .ok (.aload_n 0, 1) := by decide +kernel
theorem dX3_tells_30 : decode cX3_tells 30 = .ok (.getfield 43, 3) := by decide +kernel
theorem dX3_tells_33 : decode cX3_tells 33 = .ok (.bipush 6, 2) := by decide +kernel
theorem dX3_tells_35 : decode cX3_tells 35 = .ok (.if_icmp .lt 6, 3) := by decide +kernel
theorem dX3_tells_38 : decode cX3_tells 38 = .ok (.bipush (-3), 2) := by decide +kernel
theorem dX3_tells_40 : decode cX3_tells 40 = .ok (.ireturn, 1) := by decide +kernel
theorem dX3_tells_41 : decode cX3_tells 41 = .ok (.aload_n 0, 1) := by decide +kernel
theorem dX3_tells_42 : decode cX3_tells 42 = .ok (.getfield 39, 3) := by decide +kernel
theorem dX3_tells_45 : decode cX3_tells 45 = .ok (.iload_n 2, 1) := by decide +kernel
theorem dX3_tells_46 : decode cX3_tells 46 = .ok (.dup2, 1) := by decide +kernel
theorem dX3_tells_47 : decode cX3_tells 47 = .ok (.iaload, 1) := by decide +kernel
theorem dX3_tells_48 : decode cX3_tells 48 = .ok (.iconst 1, 1) := by decide +kernel
theorem dX3_tells_49 : decode cX3_tells 49 = .ok (.iload_n 1, 1) := by decide +kernel
theorem dX3_tells_50 : decode cX3_tells 50 = .ok (.ishl, 1) := by decide +kernel
theorem dX3_tells_51 : decode cX3_tells 51 = .ok (.ior, 1) := by decide +kernel
theorem dX3_tells_52 : decode cX3_tells 52 = .ok (.iastore, 1) := by decide +kernel
theorem dX3_tells_53 : decode cX3_tells 53 = .ok (.aload_n 0, 1) := by decide +kernel
theorem dX3_tells_54 : decode cX3_tells 54 = .ok (.dup, 1) := by decide +kernel
theorem dX3_tells_55 : decode cX3_tells 55 = .ok (.getfield 43, 3) := by decide +kernel
theorem dX3_tells_58 : decode cX3_tells 58 = .ok (.iconst 1, 1) := by decide +kernel
theorem dX3_tells_59 : decode cX3_tells 59 = .ok (.iadd, 1) := by decide +kernel
theorem dX3_tells_60 : decode cX3_tells 60 = .ok (.putfield 43, 3) := by decide +kernel
theorem dX3_tells_63 : decode cX3_tells 63 = .ok (.aload_n 0, 1) := by decide +kernel
theorem dX3_tells_64 : decode cX3_tells 64 = .ok (.getfield 43, 3) := by decide +kernel
theorem dX3_tells_67 : decode cX3_tells 67 = .ok (.ireturn, 1) := by decide +kernel
theorem dX3_forget_0 : decode cX3_forget 0 = .ok (.aload_n 0, 1) := by decide +kernel
theorem dX3_forget_1 : decode cX3_forget 1 = .ok (.getfield 43, 3) := by decide +kernel
theorem dX3_forget_4 : decode cX3_forget 4 = .ok (.istore_n 1, 1) := by decide +kernel
theorem dX3_forget_5 : decode cX3_forget 5 = .ok (.aload_n 0, 1) := by decide +kernel
theorem dX3_forget_6 : decode cX3_forget 6 = .ok (.invokevirtual 75, 3) := by decide +kernel
theorem dX3_forget_9 : decode cX3_forget 9 = .ok (.iload_n 1, 1) := by decide +kernel
theorem dX3_forget_10 : decode cX3_forget 10 = .ok (.ireturn, 1) := by decide +kernel
theorem dX3_tellNothing_0 : decode cX3_tellNothing 0 = .ok (.iconst 0, 1) := by decide +kernel
theorem dX3_tellNothing_1 : decode cX3_tellNothing 1 = .ok (.istore_n 1, 1) := by decide +kernel
theorem dX3_tellNothing_2 : decode cX3_tellNothing 2 = .ok (.iload_n 1, 1) := by decide +kernel
theorem dX3_tellNothing_3 : decode cX3_tellNothing 3 = .ok (.bipush 8, 2) := by decide +kernel
theorem dX3_tellNothing_5 : decode cX3_tellNothing 5 = .ok (.if_icmp .ge 16, 3) := by decide +kernel
theorem dX3_tellNothing_8 : decode cX3_tellNothing 8 = .ok (.aload_n 0, 1) := by decide +kernel
theorem dX3_tellNothing_9 : decode cX3_tellNothing 9 = .ok (.getfield 39, 3) := by decide +kernel
theorem dX3_tellNothing_12 : decode cX3_tellNothing 12 = .ok (.iload_n 1, 1) := by decide +kernel
theorem dX3_tellNothing_13 : decode cX3_tellNothing 13 = .ok (.iconst 0, 1) := by decide +kernel
theorem dX3_tellNothing_14 : decode cX3_tellNothing 14 = .ok (.iastore, 1) := by decide +kernel
theorem dX3_tellNothing_15 : decode cX3_tellNothing 15 = .ok (.iinc 1 1, 3) := by decide +kernel
theorem dX3_tellNothing_18 : decode cX3_tellNothing 18 = .ok (.goto (-16), 3) := by decide +kernel
theorem dX3_tellNothing_21 : decode cX3_tellNothing 21 = .ok (.aload_n 0, 1) := by decide +kernel
theorem dX3_tellNothing_22 : decode cX3_tellNothing 22 = .ok (.iconst 0, 1) := by decide +kernel
theorem dX3_tellNothing_23 : decode cX3_tellNothing 23 = .ok (.putfield 43, 3) := by decide +kernel
theorem dX3_tellNothing_26 : decode cX3_tellNothing 26 = .ok (.return_, 1) := by decide +kernel
theorem dX3_fits_0 : decode cX3_fits 0 = .ok (.iconst 0, 1) := by decide +kernel
theorem dX3_fits_1 : decode cX3_fits 1 = .ok (.istore_n 1, 1) := by decide +kernel
theorem dX3_fits_2 : decode cX3_fits 2 = .ok (.iload_n 1, 1) := by decide +kernel
theorem dX3_fits_3 : decode cX3_fits 3 = .ok (.bipush 8, 2) := by decide +kernel
theorem dX3_fits_5 : decode cX3_fits 5 = .ok (.if_icmp .ge 31, 3) := by decide +kernel
theorem dX3_fits_8 : decode cX3_fits 8 = .ok (.aload_n 0, 1) := by decide +kernel
theorem dX3_fits_9 : decode cX3_fits 9 = .ok (.getfield 39, 3) := by decide +kernel
theorem dX3_fits_12 : decode cX3_fits 12 = .ok (.iload_n 1, 1) := by decide +kernel
theorem dX3_fits_13 : decode cX3_fits 13 = .ok (.iaload, 1) := by decide +kernel
theorem dX3_fits_14 : decode cX3_fits 14 = .ok (.aload_n 0, 1) := by decide +kernel
theorem dX3_fits_15 : decode cX3_fits 15 = .ok (.getfield 29, 3) := by decide +kernel
theorem dX3_fits_18 : decode cX3_fits 18 = .ok (.iload_n 1, 1) := by decide +kernel
theorem dX3_fits_19 : decode cX3_fits 19 = .ok (.invokevirtual 231, 3) := by decide +kernel
theorem dX3_fits_22 : decode cX3_fits 22 = .ok (.iconst (-1), 1) := by decide +kernel
theorem dX3_fits_23 : decode cX3_fits 23 = .ok (.ixor, 1) := by decide +kernel
theorem dX3_fits_24 : decode cX3_fits 24 = .ok (.iand, 1) := by decide +kernel
theorem dX3_fits_25 : decode cX3_fits 25 = .ok (.ifCond .eq 5, 3) := by decide +kernel
theorem dX3_fits_28 : decode cX3_fits 28 = .ok (.iconst 0, 1) := by decide +kernel
theorem dX3_fits_29 : decode cX3_fits 29 = .ok (.ireturn, 1) := by decide +kernel
theorem dX3_fits_30 : decode cX3_fits 30 = .ok (.iinc 1 1, 3) := by decide +kernel
theorem dX3_fits_33 : decode cX3_fits 33 = .ok (.goto (-31), 3) := by decide +kernel
theorem dX3_fits_36 : decode cX3_fits 36 = .ok (.iconst 1, 1) := by decide +kernel
theorem dX3_fits_37 : decode cX3_fits 37 = .ok (.ireturn, 1) := by decide +kernel
theorem dX3_orders_0 : decode cX3_orders 0 = .ok (.aload_n 0, 1) := by decide +kernel
theorem dX3_orders_1 : decode cX3_orders 1 = .ok (.getfield 19, 3) := by decide +kernel
theorem dX3_orders_4 : decode cX3_orders 4 = .ok (.iload_n 1, 1) := by decide +kernel
theorem dX3_orders_5 : decode cX3_orders 5 = .ok (.invokevirtual 204, 3) := by decide +kernel
theorem dX3_orders_8 : decode cX3_orders 8 = .ok (.ifCond .ne 5, 3) := by decide +kernel
theorem dX3_orders_11 : decode cX3_orders 11 = .ok (.iconst (-1), 1) := by decide +kernel
theorem dX3_orders_12 : decode cX3_orders 12 = .ok (.ireturn, 1) := by decide +kernel
theorem dX3_orders_13 : decode cX3_orders 13 = .ok (.aload_n 0, 1) := by decide +kernel
theorem dX3_orders_14 : decode cX3_orders 14 = .ok (.getfield 50, 3) := by decide +kernel
theorem dX3_orders_17 : decode cX3_orders 17 = .ok (.iconst 0, 1) := by decide +kernel
theorem dX3_orders_18 : decode cX3_orders 18 = .ok (.iconst 1, 1) := by decide +kernel
theorem dX3_orders_19 : decode cX3_orders 19 = .ok (.iastore, 1) := by decide +kernel
theorem dX3_orders_20 : decode cX3_orders 20 = .ok (.iconst 1, 1) := by decide +kernel
theorem dX3_orders_21 : decode cX3_orders 21 = .ok (.istore_n 2, 1) := by decide +kernel
theorem dX3_orders_22 : decode cX3_orders 22 = .ok (.iload_n 2, 1) := by decide +kernel
theorem dX3_orders_23 : decode cX3_orders 23 = .ok (.iload_n 1, 1) := by decide +kernel
theorem dX3_orders_24 : decode cX3_orders 24 = .ok (.if_icmp .gt 29, 3) := by decide +kernel
theorem dX3_orders_27 : decode cX3_orders 27 = .ok (.iload_n 2, 1) := by decide +kernel
theorem dX3_orders_28 : decode cX3_orders 28 = .ok (.iload_n 1, 1) := by decide +kernel
theorem dX3_orders_29 : decode cX3_orders 29 = .ok (.iconst (-1), 1) := by decide +kernel
theorem dX3_orders_30 : decode cX3_orders 30 = .ok (.ixor, 1) := by decide +kernel
theorem dX3_orders_31 : decode cX3_orders 31 = .ok (.iand, 1) := by decide +kernel
theorem dX3_orders_32 : decode cX3_orders 32 = .ok (.ifCond .ne 15, 3) := by decide +kernel
theorem dX3_orders_35 : decode cX3_orders 35 = .ok (.aload_n 0, 1) := by decide +kernel
theorem dX3_orders_36 : decode cX3_orders 36 = .ok (.getfield 50, 3) := by decide +kernel
theorem dX3_orders_39 : decode cX3_orders 39 = .ok (.iload_n 2, 1) := by decide +kernel
theorem dX3_orders_40 : decode cX3_orders 40 = .ok (.aload_n 0, 1) := by decide +kernel
theorem dX3_orders_41 : decode cX3_orders 41 = .ok (.iload_n 2, 1) := by decide +kernel
theorem dX3_orders_42 : decode cX3_orders 42 = .ok (.iload_n 1, 1) := by decide +kernel
theorem dX3_orders_43 : decode cX3_orders 43 = .ok (.invokevirtual 234, 3) := by decide +kernel
theorem dX3_orders_46 : decode cX3_orders 46 = .ok (.iastore, 1) := by decide +kernel
theorem dX3_orders_47 : decode cX3_orders 47 = .ok (.iinc 2 1, 3) := by decide +kernel
theorem dX3_orders_50 : decode cX3_orders 50 = .ok (.goto (-28), 3) := by decide +kernel
theorem dX3_orders_53 : decode cX3_orders 53 = .ok (.aload_n 0, 1) := by decide +kernel
theorem dX3_orders_54 : decode cX3_orders 54 = .ok (.getfield 50, 3) := by decide +kernel
theorem dX3_orders_57 : decode cX3_orders 57 = .ok (.iload_n 1, 1) := by decide +kernel
theorem dX3_orders_58 : decode cX3_orders 58 = .ok (.iaload, 1) := by decide +kernel
theorem dX3_orders_59 : decode cX3_orders 59 = .ok (.ireturn, 1) := by decide +kernel
theorem dX3_waysTo_0 : decode cX3_waysTo 0 = .ok (.iconst 0, 1) := by decide +kernel
theorem dX3_waysTo_1 : decode cX3_waysTo 1 = .ok (.istore_n 3, 1) := by decide +kernel
theorem dX3_waysTo_2 : decode cX3_waysTo 2 = .ok (.iconst 0, 1) := by decide +kernel
theorem dX3_waysTo_3 : decode cX3_waysTo 3 = .ok (.istore 4, 2) := by decide +kernel
theorem dX3_waysTo_5 : decode cX3_waysTo 5 = .ok (.iload 4, 2) := by decide +kernel
theorem dX3_waysTo_7 : decode cX3_waysTo 7 = .ok (.aload_n 0, 1) := by decide +kernel
theorem dX3_waysTo_8 : decode cX3_waysTo 8 = .ok (.getfield 19, 3) := by decide +kernel
theorem dX3_waysTo_11 : decode cX3_waysTo 11 = .ok (.getfield 207, 3) := by decide +kernel
theorem dX3_waysTo_14 : decode cX3_waysTo 14 = .ok (.if_icmp .ge 66, 3) := by decide +kernel
theorem dX3_waysTo_17 : decode cX3_waysTo 17 = .ok (.iload_n 1, 1) := by decide +kernel
theorem dX3_waysTo_18 : decode cX3_waysTo 18 = .ok (.iconst 1, 1) := by decide +kernel
theorem dX3_waysTo_19 : decode cX3_waysTo 19 = .ok (.iload 4, 2) := by decide +kernel
theorem dX3_waysTo_21 : decode cX3_waysTo 21 = .ok (.ishl, 1) := by decide +kernel
theorem dX3_waysTo_22 : decode cX3_waysTo 22 = .ok (.iconst (-1), 1) := by decide +kernel
theorem dX3_waysTo_23 : decode cX3_waysTo 23 = .ok (.ixor, 1) := by decide +kernel
theorem dX3_waysTo_24 : decode cX3_waysTo 24 = .ok (.iand, 1) := by decide +kernel
theorem dX3_waysTo_25 : decode cX3_waysTo 25 = .ok (.istore 5, 2) := by decide +kernel
theorem dX3_waysTo_27 : decode cX3_waysTo 27 = .ok (.iload 5, 2) := by decide +kernel
theorem dX3_waysTo_29 : decode cX3_waysTo 29 = .ok (.iload_n 1, 1) := by decide +kernel
theorem dX3_waysTo_30 : decode cX3_waysTo 30 = .ok (.if_icmp .eq 44, 3) := by decide +kernel
theorem dX3_waysTo_33 : decode cX3_waysTo 33 = .ok (.aload_n 0, 1) := by decide +kernel
theorem dX3_waysTo_34 : decode cX3_waysTo 34 = .ok (.getfield 39, 3) := by decide +kernel
theorem dX3_waysTo_37 : decode cX3_waysTo 37 = .ok (.iload 4, 2) := by decide +kernel
theorem dX3_waysTo_39 : decode cX3_waysTo 39 = .ok (.iaload, 1) := by decide +kernel
theorem dX3_waysTo_40 : decode cX3_waysTo 40 = .ok (.iload_n 2, 1) := by decide +kernel
theorem dX3_waysTo_41 : decode cX3_waysTo 41 = .ok (.iand, 1) := by decide +kernel
theorem dX3_waysTo_42 : decode cX3_waysTo 42 = .ok (.iload 5, 2) := by decide +kernel
theorem dX3_waysTo_44 : decode cX3_waysTo 44 = .ok (.iconst (-1), 1) := by decide +kernel
theorem dX3_waysTo_45 : decode cX3_waysTo 45 = .ok (.ixor, 1) := by decide +kernel
theorem dX3_waysTo_46 : decode cX3_waysTo 46 = .ok (.iand, 1) := by decide +kernel
theorem dX3_waysTo_47 : decode cX3_waysTo 47 = .ok (.ifCond .ne 27, 3) := by decide +kernel
theorem dX3_waysTo_50 : decode cX3_waysTo 50 = .ok (.aload_n 0, 1) := by decide +kernel
theorem dX3_waysTo_51 : decode cX3_waysTo 51 = .ok (.getfield 19, 3) := by decide +kernel
theorem dX3_waysTo_54 : decode cX3_waysTo 54 = .ok (.iload 4, 2) := by decide +kernel
theorem dX3_waysTo_56 : decode cX3_waysTo 56 = .ok (.iload 5, 2) := by decide +kernel
theorem dX3_waysTo_58 : decode cX3_waysTo 58 = .ok (.invokevirtual 237, 3) := by decide +kernel
theorem dX3_waysTo_61 : decode cX3_waysTo 61 = .ok (.ifCond .eq 13, 3) := by decide +kernel
theorem dX3_waysTo_64 : decode cX3_waysTo 64 = .ok (.iload_n 3, 1) := by decide +kernel
theorem dX3_waysTo_65 : decode cX3_waysTo 65 = .ok (.aload_n 0, 1) := by decide +kernel
theorem dX3_waysTo_66 : decode cX3_waysTo 66 = .ok (.getfield 50, 3) := by decide +kernel
theorem dX3_waysTo_69 : decode cX3_waysTo 69 = .ok (.iload 5, 2) := by decide +kernel
theorem dX3_waysTo_71 : decode cX3_waysTo 71 = .ok (.iaload, 1) := by decide +kernel
theorem dX3_waysTo_72 : decode cX3_waysTo 72 = .ok (.iadd, 1) := by decide +kernel
theorem dX3_waysTo_73 : decode cX3_waysTo 73 = .ok (.istore_n 3, 1) := by decide +kernel
theorem dX3_waysTo_74 : decode cX3_waysTo 74 = .ok (.iinc 4 1, 3) := by decide +kernel
theorem dX3_waysTo_77 : decode cX3_waysTo 77 = .ok (.goto (-72), 3) := by decide +kernel
theorem dX3_waysTo_80 : decode cX3_waysTo 80 = .ok (.iload_n 3, 1) := by decide +kernel
theorem dX3_waysTo_81 : decode cX3_waysTo 81 = .ok (.ireturn, 1) := by decide +kernel
theorem dX3_mark_0 : decode cX3_mark 0 = .ok (.aload_n 0, 1) := by decide +kernel
theorem dX3_mark_1 : decode cX3_mark 1 = .ok (.getfield 19, 3) := by decide +kernel
theorem dX3_mark_4 : decode cX3_mark 4 = .ok (.iload_n 2, 1) := by decide +kernel
theorem dX3_mark_5 : decode cX3_mark 5 = .ok (.invokevirtual 78, 3) := by decide +kernel
theorem dX3_mark_8 : decode cX3_mark 8 = .ok (.ifCond .ne 6, 3) := by decide +kernel
theorem dX3_mark_11 : decode cX3_mark 11 = .ok (.ldc 240, 2) := by decide +kernel
theorem dX3_mark_13 : decode cX3_mark 13 = .ok (.ireturn, 1) := by decide +kernel
theorem dX3_mark_14 : decode cX3_mark 14 = .ok (.iload_n 1, 1) := by decide +kernel
theorem dX3_mark_15 : decode cX3_mark 15 = .ok (.tableswitch 73 0 5 #[37, 43, 49, 55, 61, 67], 37) := by decide +kernel
theorem dX3_mark_52 : decode cX3_mark 52 = .ok (.aload_n 0, 1) := by decide +kernel
theorem dX3_mark_53 : decode cX3_mark 53 = .ok (.iload_n 2, 1) := by decide +kernel
theorem dX3_mark_54 : decode cX3_mark 54 = .ok (.invokevirtual 241, 3) := by decide +kernel
theorem dX3_mark_57 : decode cX3_mark 57 = .ok (.ireturn, 1) := by decide +kernel
theorem dX3_mark_58 : decode cX3_mark 58 = .ok (.aload_n 0, 1) := by decide +kernel
theorem dX3_mark_59 : decode cX3_mark 59 = .ok (.iload_n 2, 1) := by decide +kernel
theorem dX3_mark_60 : decode cX3_mark 60 = .ok (.invokevirtual 244, 3) := by decide +kernel
theorem dX3_mark_63 : decode cX3_mark 63 = .ok (.ireturn, 1) := by decide +kernel
theorem dX3_mark_64 : decode cX3_mark 64 = .ok (.aload_n 0, 1) := by decide +kernel
theorem dX3_mark_65 : decode cX3_mark 65 = .ok (.iload_n 2, 1) := by decide +kernel
theorem dX3_mark_66 : decode cX3_mark 66 = .ok (.invokevirtual 247, 3) := by decide +kernel
theorem dX3_mark_69 : decode cX3_mark 69 = .ok (.ireturn, 1) := by decide +kernel
theorem dX3_mark_70 : decode cX3_mark 70 = .ok (.aload_n 0, 1) := by decide +kernel
theorem dX3_mark_71 : decode cX3_mark 71 = .ok (.iload_n 2, 1) := by decide +kernel
theorem dX3_mark_72 : decode cX3_mark 72 = .ok (.invokevirtual 250, 3) := by decide +kernel
theorem dX3_mark_75 : decode cX3_mark 75 = .ok (.ireturn, 1) := by decide +kernel
theorem dX3_mark_76 : decode cX3_mark 76 = .ok (.aload_n 0, 1) := by decide +kernel
theorem dX3_mark_77 : decode cX3_mark 77 = .ok (.iload_n 2, 1) := by decide +kernel
theorem dX3_mark_78 : decode cX3_mark 78 = .ok (.invokevirtual 253, 3) := by decide +kernel
theorem dX3_mark_81 : decode cX3_mark 81 = .ok (.ireturn, 1) := by decide +kernel
theorem dX3_mark_82 : decode cX3_mark 82 = .ok (.aload_n 0, 1) := by decide +kernel
theorem dX3_mark_83 : decode cX3_mark 83 = .ok (.iload_n 2, 1) := by decide +kernel
theorem dX3_mark_84 : decode cX3_mark 84 = .ok (.invokevirtual 256, 3) := by decide +kernel
theorem dX3_mark_87 : decode cX3_mark 87 = .ok (.ireturn, 1) := by decide +kernel
theorem dX3_mark_88 : decode cX3_mark 88 = .ok (.ldc 240, 2) := by decide +kernel
theorem dX3_mark_90 : decode cX3_mark 90 = .ok (.ireturn, 1) := by decide +kernel
theorem dX3_asSaying_0 : decode cX3_asSaying 0 = .ok (.aload_n 0, 1) := by decide +kernel
theorem dX3_asSaying_1 : decode cX3_asSaying 1 = .ok (.dup, 1) := by decide +kernel
theorem dX3_asSaying_2 : decode cX3_asSaying 2 = .ok (.getfield 53, 3) := by decide +kernel
theorem dX3_asSaying_5 : decode cX3_asSaying 5 = .ok (.lconst 1, 1) := by decide +kernel
theorem dX3_asSaying_6 : decode cX3_asSaying 6 = .ok (.ladd, 1) := by decide +kernel
theorem dX3_asSaying_7 : decode cX3_asSaying 7 = .ok (.putfield 53, 3) := by decide +kernel
theorem dX3_asSaying_10 : decode cX3_asSaying 10 = .ok (.aload_n 0, 1) := by decide +kernel
theorem dX3_asSaying_11 : decode cX3_asSaying 11 = .ok (.getfield 19, 3) := by decide +kernel
theorem dX3_asSaying_14 : decode cX3_asSaying 14 = .ok (.iload_n 1, 1) := by decide +kernel
theorem dX3_asSaying_15 : decode cX3_asSaying 15 = .ok (.invokevirtual 182, 3) := by decide +kernel
theorem dX3_asSaying_18 : decode cX3_asSaying 18 = .ok (.ireturn, 1) := by decide +kernel
theorem dX3_asCough_0 : decode cX3_asCough 0 = .ok (.aload_n 0, 1) := by decide +kernel
theorem dX3_asCough_1 : decode cX3_asCough 1 = .ok (.dup, 1) := by decide +kernel
theorem dX3_asCough_2 : decode cX3_asCough 2 = .ok (.getfield 53, 3) := by decide +kernel
theorem dX3_asCough_5 : decode cX3_asCough 5 = .ok (.ldc2_w 259, 3) := by decide +kernel
theorem dX3_asCough_8 : decode cX3_asCough 8 = .ok (.ladd, 1) := by decide +kernel
theorem dX3_asCough_9 : decode cX3_asCough 9 = .ok (.putfield 53, 3) := by decide +kernel
theorem dX3_asCough_12 : decode cX3_asCough 12 = .ok (.aload_n 0, 1) := by decide +kernel
theorem dX3_asCough_13 : decode cX3_asCough 13 = .ok (.iload_n 1, 1) := by decide +kernel
theorem dX3_asCough_14 : decode cX3_asCough 14 = .ok (.invokevirtual 241, 3) := by decide +kernel
theorem dX3_asCough_17 : decode cX3_asCough 17 = .ok (.aload_n 0, 1) := by decide +kernel
theorem dX3_asCough_18 : decode cX3_asCough 18 = .ok (.getfield 19, 3) := by decide +kernel
theorem dX3_asCough_21 : decode cX3_asCough 21 = .ok (.iload_n 1, 1) := by decide +kernel
theorem dX3_asCough_22 : decode cX3_asCough 22 = .ok (.invokevirtual 261, 3) := by decide +kernel
theorem dX3_asCough_25 : decode cX3_asCough 25 = .ok (.iadd, 1) := by decide +kernel
theorem dX3_asCough_26 : decode cX3_asCough 26 = .ok (.ireturn, 1) := by decide +kernel
theorem dX3_asBell_0 : decode cX3_asBell 0 = .ok (.aload_n 0, 1) := by decide +kernel
theorem dX3_asBell_1 : decode cX3_asBell 1 = .ok (.dup, 1) := by decide +kernel
theorem dX3_asBell_2 : decode cX3_asBell 2 = .ok (.getfield 53, 3) := by decide +kernel
theorem dX3_asBell_5 : decode cX3_asBell 5 = .ok (.ldc2_w 264, 3) := by decide +kernel
theorem dX3_asBell_8 : decode cX3_asBell 8 = .ok (.ladd, 1) := by decide +kernel
theorem dX3_asBell_9 : decode cX3_asBell 9 = .ok (.putfield 53, 3) := by decide +kernel
theorem dX3_asBell_12 : decode cX3_asBell 12 = .ok (.aload_n 0, 1) := by decide +kernel
theorem dX3_asBell_13 : decode cX3_asBell 13 = .ok (.iload_n 1, 1) := by decide +kernel
theorem dX3_asBell_14 : decode cX3_asBell 14 = .ok (.invokevirtual 241, 3) := by decide +kernel
theorem dX3_asBell_17 : decode cX3_asBell 17 = .ok (.aload_n 0, 1) := by decide +kernel
theorem dX3_asBell_18 : decode cX3_asBell 18 = .ok (.getfield 29, 3) := by decide +kernel
theorem dX3_asBell_21 : decode cX3_asBell 21 = .ok (.iload_n 1, 1) := by decide +kernel
theorem dX3_asBell_22 : decode cX3_asBell 22 = .ok (.invokevirtual 94, 3) := by decide +kernel
theorem dX3_asBell_25 : decode cX3_asBell 25 = .ok (.isub, 1) := by decide +kernel
theorem dX3_asBell_26 : decode cX3_asBell 26 = .ok (.ireturn, 1) := by decide +kernel
theorem dX3_asKnock_0 : decode cX3_asKnock 0 = .ok (.aload_n 0, 1) := by decide +kernel
theorem dX3_asKnock_1 : decode cX3_asKnock 1 = .ok (.dup, 1) := by decide +kernel
theorem dX3_asKnock_2 : decode cX3_asKnock 2 = .ok (.getfield 53, 3) := by decide +kernel
theorem dX3_asKnock_5 : decode cX3_asKnock 5 = .ok (.ldc2_w 266, 3) := by decide +kernel
theorem dX3_asKnock_8 : decode cX3_asKnock 8 = .ok (.ladd, 1) := by decide +kernel
theorem dX3_asKnock_9 : decode cX3_asKnock 9 = .ok (.putfield 53, 3) := by decide +kernel
theorem dX3_asKnock_12 : decode cX3_asKnock 12 = .ok (.aload_n 0, 1) := by decide +kernel
theorem dX3_asKnock_13 : decode cX3_asKnock 13 = .ok (.iload_n 1, 1) := by decide +kernel
theorem dX3_asKnock_14 : decode cX3_asKnock 14 = .ok (.invokevirtual 244, 3) := by decide +kernel
theorem dX3_asKnock_17 : decode cX3_asKnock 17 = .ok (.iconst 2, 1) := by decide +kernel
theorem dX3_asKnock_18 : decode cX3_asKnock 18 = .ok (.imul, 1) := by decide +kernel
theorem dX3_asKnock_19 : decode cX3_asKnock 19 = .ok (.ireturn, 1) := by decide +kernel
theorem dX3_asEcho_0 : decode cX3_asEcho 0 = .ok (.aload_n 0, 1) := by decide +kernel
theorem dX3_asEcho_1 : decode cX3_asEcho 1 = .ok (.dup, 1) := by decide +kernel
theorem dX3_asEcho_2 : decode cX3_asEcho 2 = .ok (.getfield 53, 3) := by decide +kernel
theorem dX3_asEcho_5 : decode cX3_asEcho 5 = .ok (.ldc2_w 268, 3) := by decide +kernel
theorem dX3_asEcho_8 : decode cX3_asEcho 8 = .ok (.ladd, 1) := by decide +kernel
theorem dX3_asEcho_9 : decode cX3_asEcho 9 = .ok (.putfield 53, 3) := by decide +kernel
theorem dX3_asEcho_12 : decode cX3_asEcho 12 = .ok (.aload_n 0, 1) := by decide +kernel
theorem dX3_asEcho_13 : decode cX3_asEcho 13 = .ok (.iload_n 1, 1) := by decide +kernel
theorem dX3_asEcho_14 : decode cX3_asEcho 14 = .ok (.invokevirtual 247, 3) := by decide +kernel
theorem dX3_asEcho_17 : decode cX3_asEcho 17 = .ok (.aload_n 0, 1) := by decide +kernel
theorem dX3_asEcho_18 : decode cX3_asEcho 18 = .ok (.getfield 19, 3) := by decide +kernel
theorem dX3_asEcho_21 : decode cX3_asEcho 21 = .ok (.iload_n 1, 1) := by decide +kernel
theorem dX3_asEcho_22 : decode cX3_asEcho 22 = .ok (.invokevirtual 90, 3) := by decide +kernel
theorem dX3_asEcho_25 : decode cX3_asEcho 25 = .ok (.invokestatic 217, 3) := by decide +kernel
theorem dX3_asEcho_28 : decode cX3_asEcho 28 = .ok (.iadd, 1) := by decide +kernel
theorem dX3_asEcho_29 : decode cX3_asEcho 29 = .ok (.ireturn, 1) := by decide +kernel
theorem dX3_asOwl_0 : decode cX3_asOwl 0 = .ok (.aload_n 0, 1) := by decide +kernel
theorem dX3_asOwl_1 : decode cX3_asOwl 1 = .ok (.dup, 1) := by decide +kernel
theorem dX3_asOwl_2 : decode cX3_asOwl 2 = .ok (.getfield 53, 3) := by decide +kernel
theorem dX3_asOwl_5 : decode cX3_asOwl 5 = .ok (.ldc2_w 270, 3) := by decide +kernel
theorem dX3_asOwl_8 : decode cX3_asOwl 8 = .ok (.ladd, 1) := by decide +kernel
theorem dX3_asOwl_9 : decode cX3_asOwl 9 = .ok (.putfield 53, 3) := by decide +kernel
theorem dX3_asOwl_12 : decode cX3_asOwl 12 = .ok (.aload_n 0, 1) := by decide +kernel
theorem dX3_asOwl_13 : decode cX3_asOwl 13 = .ok (.iload_n 1, 1) := by decide +kernel
theorem dX3_asOwl_14 : decode cX3_asOwl 14 = .ok (.invokevirtual 241, 3) := by decide +kernel
theorem dX3_asOwl_17 : decode cX3_asOwl 17 = .ok (.aload_n 0, 1) := by decide +kernel
theorem dX3_asOwl_18 : decode cX3_asOwl 18 = .ok (.getfield 29, 3) := by decide +kernel
theorem dX3_asOwl_21 : decode cX3_asOwl 21 = .ok (.getfield 158, 3) := by decide +kernel
theorem dX3_asOwl_24 : decode cX3_asOwl 24 = .ok (.iadd, 1) := by decide +kernel
theorem dX3_asOwl_25 : decode cX3_asOwl 25 = .ok (.ireturn, 1) := by decide +kernel
theorem dX3_keep_0 : decode cX3_keep 0 = .ok (.iload_n 1, 1) := by decide +kernel
theorem dX3_keep_1 : decode cX3_keep 1 = .ok (.ifCond .lt 8, 3) := by decide +kernel
theorem dX3_keep_4 : decode cX3_keep 4 = .ok (.iload_n 1, 1) := by decide +kernel
theorem dX3_keep_5 : decode cX3_keep 5 = .ok (.iconst 1, 1) := by decide +kernel
theorem dX3_keep_6 : decode cX3_keep 6 = .ok (.if_icmp .le 5, 3) := by decide +kernel
theorem dX3_keep_9 : decode cX3_keep 9 = .ok (.iconst (-1), 1) := by decide +kernel
theorem dX3_keep_10 : decode cX3_keep 10 = .ok (.ireturn, 1) := by decide +kernel
theorem dX3_keep_11 : decode cX3_keep 11 = .ok (.aload_n 0, 1) := by decide +kernel
theorem dX3_keep_12 : decode cX3_keep 12 = .ok (.iload_n 1, 1) := by decide +kernel
theorem dX3_keep_13 : decode cX3_keep 13 = .ok (.invokevirtual 272, 3) := by decide +kernel
theorem dX3_keep_16 : decode cX3_keep 16 = .ok (.astore_n 2, 1) := by decide +kernel
theorem dX3_keep_17 : decode cX3_keep 17 = .ok (.aload_n 2, 1) := by decide +kernel
theorem dX3_keep_18 : decode cX3_keep 18 = .ok (.aload_n 0, 1) := by decide +kernel
theorem dX3_keep_19 : decode cX3_keep 19 = .ok (.getfield 29, 3) := by decide +kernel
theorem dX3_keep_22 : decode cX3_keep 22 = .ok (.invokevirtual 276, 3) := by decide +kernel
theorem dX3_keep_25 : decode cX3_keep 25 = .ok (.aload_n 2, 1) := by decide +kernel
theorem dX3_keep_26 : decode cX3_keep 26 = .ok (.iconst 1, 1) := by decide +kernel
theorem dX3_keep_27 : decode cX3_keep 27 = .ok (.putfield 71, 3) := by decide +kernel
theorem dX3_keep_30 : decode cX3_keep 30 = .ok (.aload_n 0, 1) := by decide +kernel
theorem dX3_keep_31 : decode cX3_keep 31 = .ok (.getfield 29, 3) := by decide +kernel
theorem dX3_keep_34 : decode cX3_keep 34 = .ok (.getfield 158, 3) := by decide +kernel
theorem dX3_keep_37 : decode cX3_keep 37 = .ok (.ireturn, 1) := by decide +kernel
theorem dX3_back_0 : decode cX3_back 0 = .ok (.iload_n 1, 1) := by decide +kernel
theorem dX3_back_1 : decode cX3_back 1 = .ok (.ifCond .lt 8, 3) := by decide +kernel
theorem dX3_back_4 : decode cX3_back 4 = .ok (.iload_n 1, 1) := by decide +kernel
theorem dX3_back_5 : decode cX3_back 5 = .ok (.iconst 1, 1) := by decide +kernel
theorem dX3_back_6 : decode cX3_back 6 = .ok (.if_icmp .le 5, 3) := by decide +kernel
theorem dX3_back_9 : decode cX3_back 9 = .ok (.iconst (-1), 1) := by decide +kernel
theorem dX3_back_10 : decode cX3_back 10 = .ok (.ireturn, 1) := by decide +kernel
theorem dX3_back_11 : decode cX3_back 11 = .ok (.aload_n 0, 1) := by decide +kernel
theorem dX3_back_12 : decode cX3_back 12 = .ok (.iload_n 1, 1) := by decide +kernel
theorem dX3_back_13 : decode cX3_back 13 = .ok (.invokevirtual 272, 3) := by decide +kernel
theorem dX3_back_16 : decode cX3_back 16 = .ok (.astore_n 2, 1) := by decide +kernel
theorem dX3_back_17 : decode cX3_back 17 = .ok (.aload_n 2, 1) := by decide +kernel
theorem dX3_back_18 : decode cX3_back 18 = .ok (.getfield 71, 3) := by decide +kernel
theorem dX3_back_21 : decode cX3_back 21 = .ok (.ifCond .ne 6, 3) := by decide +kernel
theorem dX3_back_24 : decode cX3_back 24 = .ok (.bipush (-2), 2) := by decide +kernel
theorem dX3_back_26 : decode cX3_back 26 = .ok (.ireturn, 1) := by decide +kernel
theorem dX3_back_27 : decode cX3_back 27 = .ok (.aload_n 0, 1) := by decide +kernel
theorem dX3_back_28 : decode cX3_back 28 = .ok (.getfield 29, 3) := by decide +kernel
theorem dX3_back_31 : decode cX3_back 31 = .ok (.aload_n 2, 1) := by decide +kernel
theorem dX3_back_32 : decode cX3_back 32 = .ok (.invokevirtual 276, 3) := by decide +kernel
theorem dX3_back_35 : decode cX3_back 35 = .ok (.aload_n 0, 1) := by decide +kernel
theorem dX3_back_36 : decode cX3_back 36 = .ok (.getfield 29, 3) := by decide +kernel
theorem dX3_back_39 : decode cX3_back 39 = .ok (.getfield 158, 3) := by decide +kernel
theorem dX3_back_42 : decode cX3_back 42 = .ok (.ireturn, 1) := by decide +kernel
theorem dX3_imageOf_0 : decode cX3_imageOf 0 = .ok (.iload_n 1, 1) := by decide +kernel
theorem dX3_imageOf_1 : decode cX3_imageOf 1 = .ok (.ifCond .ne 10, 3) := by decide +kernel
theorem dX3_imageOf_4 : decode cX3_imageOf 4 = .ok (.aload_n 0, 1) := by decide +kernel
theorem dX3_imageOf_5 : decode cX3_imageOf 5 = .ok (.getfield 33, 3) := by decide +kernel
theorem dX3_imageOf_8 : decode cX3_imageOf 8 = .ok (.goto 7, 3) := by decide +kernel
theorem dX3_imageOf_11 : decode cX3_imageOf 11 = .ok (.aload_n 0, 1) := by decide +kernel
theorem dX3_imageOf_12 : decode cX3_imageOf 12 = .ok (.getfield 36, 3) := by decide +kernel
theorem dX3_imageOf_15 : decode cX3_imageOf 15 = .ok (.areturn, 1) := by decide +kernel
theorem dX3_count_0 : decode cX3_count 0 = .ok (.iload_n 1, 1) := by decide +kernel
theorem dX3_count_1 : decode cX3_count 1 = .ok (.tableswitch 84 0 5 #[39, 47, 55, 63, 68, 76], 39) := by decide +kernel
theorem dX3_count_40 : decode cX3_count 40 = .ok (.aload_n 0, 1) := by decide +kernel
theorem dX3_count_41 : decode cX3_count 41 = .ok (.getfield 19, 3) := by decide +kernel
theorem dX3_count_44 : decode cX3_count 44 = .ok (.getfield 207, 3) := by decide +kernel
theorem dX3_count_47 : decode cX3_count 47 = .ok (.ireturn, 1) := by decide +kernel
theorem dX3_count_48 : decode cX3_count 48 = .ok (.aload_n 0, 1) := by decide +kernel
theorem dX3_count_49 : decode cX3_count 49 = .ok (.getfield 19, 3) := by decide +kernel
theorem dX3_count_52 : decode cX3_count 52 = .ok (.getfield 280, 3) := by decide +kernel
theorem dX3_count_55 : decode cX3_count 55 = .ok (.ireturn, 1) := by decide +kernel
theorem dX3_count_56 : decode cX3_count 56 = .ok (.aload_n 0, 1) := by decide +kernel
theorem dX3_count_57 : decode cX3_count 57 = .ok (.getfield 19, 3) := by decide +kernel
theorem dX3_count_60 : decode cX3_count 60 = .ok (.getfield 137, 3) := by decide +kernel
theorem dX3_count_63 : decode cX3_count 63 = .ok (.ireturn, 1) := by decide +kernel
theorem dX3_count_64 : decode cX3_count 64 = .ok (.aload_n 0, 1) := by decide +kernel
theorem dX3_count_65 : decode cX3_count 65 = .ok (.getfield 43, 3) := by decide +kernel
theorem dX3_count_68 : decode cX3_count 68 = .ok (.ireturn, 1) := by decide +kernel
theorem dX3_count_69 : decode cX3_count 69 = .ok (.aload_n 0, 1) := by decide +kernel
theorem dX3_count_70 : decode cX3_count 70 = .ok (.getfield 29, 3) := by decide +kernel
theorem dX3_count_73 : decode cX3_count 73 = .ok (.getfield 164, 3) := by decide +kernel
theorem dX3_count_76 : decode cX3_count 76 = .ok (.ireturn, 1) := by decide +kernel
theorem dX3_count_77 : decode cX3_count 77 = .ok (.aload_n 0, 1) := by decide +kernel
theorem dX3_count_78 : decode cX3_count 78 = .ok (.getfield 12, 3) := by decide +kernel
theorem dX3_count_81 : decode cX3_count 81 = .ok (.getfield 61, 3) := by decide +kernel
theorem dX3_count_84 : decode cX3_count 84 = .ok (.ireturn, 1) := by decide +kernel
theorem dX3_count_85 : decode cX3_count 85 = .ok (.iconst (-1), 1) := by decide +kernel
theorem dX3_count_86 : decode cX3_count 86 = .ok (.ireturn, 1) := by decide +kernel
theorem dX3_trace_0 : decode cX3_trace 0 = .ok (.aload_n 0, 1) := by decide +kernel
theorem dX3_trace_1 : decode cX3_trace 1 = .ok (.getfield 53, 3) := by decide +kernel
theorem dX3_trace_4 : decode cX3_trace 4 = .ok (.lreturn, 1) := by decide +kernel
end
section
theorem dX4_init_0 : decode cX4_init 0 = .ok (.aload_n 0, 1) := by decide +kernel
theorem dX4_init_1 : decode cX4_init 1 = .ok (.invokespecial 1, 3) := by decide +kernel
theorem dX4_init_4 : decode cX4_init 4 = .ok (.aload_n 0, 1) := by decide +kernel
theorem dX4_init_5 : decode cX4_init 5 = .ok (.sipush 200, 3) := by decide +kernel
theorem dX4_init_8 : decode cX4_init 8 = .ok (.newarray .byte, 2) := by decide +kernel
theorem dX4_init_10 : decode cX4_init 10 = .ok (.putfield 7, 3) := by decide +kernel
theorem dX4_init_13 : decode cX4_init 13 = .ok (.aload_n 0, 1) := by decide +kernel
theorem dX4_init_14 : decode cX4_init 14 = .ok (.iconst 2, 1) := by decide +kernel
theorem dX4_init_15 : decode cX4_init 15 = .ok (.newarray .int, 2) := by decide +kernel
theorem dX4_init_17 : decode cX4_init 17 = .ok (.putfield 13, 3) := by decide +kernel
theorem dX4_init_20 : decode cX4_init 20 = .ok (.aload_n 0, 1) := by decide +kernel
theorem dX4_init_21 : decode cX4_init 21 = .ok (.bipush 16, 2) := by decide +kernel
theorem dX4_init_23 : decode cX4_init 23 = .ok (.newarray .int, 2) := by decide +kernel
theorem dX4_init_25 : decode cX4_init 25 = .ok (.putfield 17, 3) := by decide +kernel
theorem dX4_init_28 : decode cX4_init 28 = .ok (.aload_n 0, 1) := by decide +kernel
theorem dX4_init_29 : decode cX4_init 29 = .ok (.bipush 16, 2) := by decide +kernel
theorem dX4_init_31 : decode cX4_init 31 = .ok (.newarray .int, 2) := by decide +kernel
theorem dX4_init_33 : decode cX4_init 33 = .ok (.putfield 20, 3) := by decide +kernel
theorem dX4_init_36 : decode cX4_init 36 = .ok (.aload_n 0, 1) := by decide +kernel
theorem dX4_init_37 : decode cX4_init 37 = .ok (.iconst 2, 1) := by decide +kernel
theorem dX4_init_38 : decode cX4_init 38 = .ok (.newarray .int, 2) := by decide +kernel
theorem dX4_init_40 : decode cX4_init 40 = .ok (.putfield 23, 3) := by decide +kernel
theorem dX4_init_43 : decode cX4_init 43 = .ok (.aload_n 0, 1) := by decide +kernel
theorem dX4_init_44 : decode cX4_init 44 = .ok (.iconst 2, 1) := by decide +kernel
theorem dX4_init_45 : decode cX4_init 45 = .ok (.newarray .int, 2) := by decide +kernel
theorem dX4_init_47 : decode cX4_init 47 = .ok (.putfield 26, 3) := by decide +kernel
theorem dX4_init_50 : decode cX4_init 50 = .ok (.aload_n 0, 1) := by decide +kernel
theorem dX4_init_51 : decode cX4_init 51 = .ok (.bipush 10, 2) := by decide +kernel
theorem dX4_init_53 : decode cX4_init 53 = .ok (.newarray .int, 2) := by decide +kernel
theorem dX4_init_55 : decode cX4_init 55 = .ok (.putfield 29, 3) := by decide +kernel
theorem dX4_init_58 : decode cX4_init 58 = .ok (.aload_n 0, 1) := by decide +kernel
theorem dX4_init_59 : decode cX4_init 59 = .ok (.iconst 2, 1) := by decide +kernel
theorem dX4_init_60 : decode cX4_init 60 = .ok (.newarray .int, 2) := by decide +kernel
theorem dX4_init_62 : decode cX4_init 62 = .ok (.putfield 32, 3) := by decide +kernel
theorem dX4_init_65 : decode cX4_init 65 = .ok (.aload_n 0, 1) := by decide +kernel
theorem dX4_init_66 : decode cX4_init 66 = .ok (.sipush 441, 3) := by decide +kernel
theorem dX4_init_69 : decode cX4_init 69 = .ok (.newarray .int, 2) := by decide +kernel
theorem dX4_init_71 : decode cX4_init 71 = .ok (.putfield 35, 3) := by decide +kernel
theorem dX4_init_74 : decode cX4_init 74 = .ok (.aload_n 0, 1) := by decide +kernel
theorem dX4_init_75 : decode cX4_init 75 = .ok (.iconst 2, 1) := by decide +kernel
theorem dX4_init_76 : decode cX4_init 76 = .ok (.newarray .boolean, 2) := by decide +kernel
theorem dX4_init_78 : decode cX4_init 78 = .ok (.putfield 38, 3) := by decide +kernel
theorem dX4_init_81 : decode cX4_init 81 = .ok (.aload_n 0, 1) := by decide +kernel
theorem dX4_init_82 : decode cX4_init 82 = .ok (.bipush 6, 2) := by decide +kernel
theorem dX4_init_84 : decode cX4_init 84 = .ok (.newarray .int, 2) := by decide +kernel
theorem dX4_init_86 : decode cX4_init 86 = .ok (.putfield 42, 3) := by decide +kernel
theorem dX4_init_89 : decode cX4_init 89 = .ok (.aload_n 0, 1) := by decide +kernel
theorem dX4_init_90 : decode cX4_init 90 = .ok (.bipush 6, 2) := by decide +kernel
theorem dX4_init_92 : decode cX4_init 92 = .ok (.newarray .int, 2) := by decide +kernel
theorem dX4_init_94 : decode cX4_init 94 = .ok (.putfield 45, 3) := by decide +kernel
theorem dX4_init_97 : decode cX4_init 97 = .ok (.aload_n 0, 1) := by decide +kernel
theorem dX4_init_98 : decode cX4_init 98 = .ok (.sipush 256, 3) := by decide +kernel
theorem dX4_init_101 : decode cX4_init 101 = .ok (.newarray .int, 2) := by decide +kernel
theorem dX4_init_103 : decode cX4_init 103 = .ok (.putfield 48, 3) := by decide +kernel
theorem dX4_init_106 : decode cX4_init 106 = .ok (.aload_n 0, 1) := by decide +kernel
theorem dX4_init_107 : decode cX4_init 107 = .ok (.invokevirtual 51, 3) := by decide +kernel
theorem dX4_init_110 : decode cX4_init 110 = .ok (.aload_n 0, 1) := by decide +kernel
theorem dX4_init_111 : decode cX4_init 111 = .ok (.invokevirtual 54, 3) := by decide +kernel
theorem dX4_init_114 : decode cX4_init 114 = .ok (.return_, 1) := by decide +kernel
theorem dX4_in_0 : decode cX4_in 0 = .ok (.iload_n 0, 1) := by decide +kernel
theorem dX4_in_1 : decode cX4_in 1 = .ok (.iload_n 1, 1) := by decide +kernel
theorem dX4_in_2 : decode cX4_in 2 = .ok (.if_icmp .lt 12, 3) := by decide +kernel
theorem dX4_in_5 : decode cX4_in 5 = .ok (.iload_n 0, 1) := by decide +kernel
theorem dX4_in_6 : decode cX4_in 6 = .ok (.iload_n 2, 1) := by decide +kernel
theorem dX4_in_7 : decode cX4_in 7 = .ok (.if_icmp .gt 7, 3) := by decide +kernel
theorem dX4_in_10 : decode cX4_in 10 = .ok (.iconst 1, 1) := by decide +kernel
theorem dX4_in_11 : decode cX4_in 11 = .ok (.goto 4, 3) := by decide +kernel
theorem dX4_in_14 : decode cX4_in 14 = .ok (.iconst 0, 1) := by decide +kernel
theorem dX4_in_15 : decode cX4_in 15 = .ok (.ireturn, 1) := by decide +kernel
theorem dX4_type_0 : decode cX4_type 0 = .ok (.iload_n 1, 1) := by decide +kernel
theorem dX4_type_1 : decode cX4_type 1 = .ok (.iconst 0, 1) := by decide +kernel
theorem dX4_type_2 : decode cX4_type 2 = .ok (.sipush 255, 3) := by decide +kernel
theorem dX4_type_5 : decode cX4_type 5 = .ok (.invokestatic 57, 3) := by decide +kernel
theorem dX4_type_8 : decode cX4_type 8 = .ok (.ifCond .ne 5, 3) := by decide +kernel
theorem dX4_type_11 : decode cX4_type 11 = .ok (.iconst (-1), 1) := by decide +kernel
theorem dX4_type_12 : decode cX4_type 12 = .ok (.ireturn, 1) := by decide +kernel
theorem dX4_type_13 : decode cX4_type 13 = .ok (.aload_n 0, 1) := by decide +kernel
theorem dX4_type_14 : decode cX4_type 14 = .ok (.getfield 61, 3) := by decide +kernel
theorem dX4_type_17 : decode cX4_type 17 = .ok (.sipush 200, 3) := by decide +kernel
theorem dX4_type_20 : decode cX4_type 20 = .ok (.if_icmp .ne 6, 3) := by decide +kernel
theorem dX4_type_23 : decode cX4_type 23 = .ok (.bipush (-3), 2) := by decide +kernel
theorem dX4_type_25 : decode cX4_type 25 = .ok (.ireturn, 1) := by decide +kernel
theorem dX4_type_26 : decode cX4_type 26 = .ok (.aload_n 0, 1) := by decide +kernel
theorem dX4_type_27 : decode cX4_type 27 = .ok (.getfield 7, 3) := by decide +kernel
theorem dX4_type_30 : decode cX4_type 30 = .ok (.aload_n 0, 1) := by decide +kernel
theorem dX4_type_31 : decode cX4_type 31 = .ok (.getfield 61, 3) := by decide +kernel
theorem dX4_type_34 : decode cX4_type 34 = .ok (.iload_n 1, 1) := by decide +kernel
theorem dX4_type_35 : decode cX4_type 35 = .ok (.i2b, 1) := by decide +kernel
theorem dX4_type_36 : decode cX4_type 36 = .ok (.bastore, 1) := by decide +kernel
theorem dX4_type_37 : decode cX4_type 37 = .ok (.aload_n 0, 1) := by decide +kernel
theorem dX4_type_38 : decode cX4_type 38 = .ok (.dup, 1) := by decide +kernel
theorem dX4_type_39 : decode cX4_type 39 = .ok (.getfield 61, 3) := by decide +kernel
theorem dX4_type_42 : decode cX4_type 42 = .ok (.iconst 1, 1) := by decide +kernel
theorem dX4_type_43 : decode cX4_type 43 = .ok (.iadd, 1) := by decide +kernel
theorem dX4_type_44 : decode cX4_type 44 = .ok (.putfield 61, 3) := by decide +kernel
theorem dX4_type_47 : decode cX4_type 47 = .ok (.aload_n 0, 1) := by decide +kernel
theorem dX4_type_48 : decode cX4_type 48 = .ok (.getfield 61, 3) := by decide +kernel
theorem dX4_type_51 : decode cX4_type 51 = .ok (.ireturn, 1) := by decide +kernel
theorem dX4_clear_0 : decode cX4_clear 0 = .ok (.aload_n 0, 1) := by decide +kernel
theorem dX4_clear_1 : decode cX4_clear 1 = .ok (.getfield 61, 3) := by decide +kernel
theorem dX4_clear_4 : decode cX4_clear 4 = .ok (.istore_n 1, 1) := by decide +kernel
theorem dX4_clear_5 : decode cX4_clear 5 = .ok (.aload_n 0, 1) := by decide +kernel
theorem dX4_clear_6 : decode cX4_clear 6 = .ok (.iconst 0, 1) := by decide +kernel
theorem dX4_clear_7 : decode cX4_clear 7 = .ok (.putfield 61, 3) := by decide +kernel
theorem dX4_clear_10 : decode cX4_clear 10 = .ok (.iload_n 1, 1) := by decide +kernel
theorem dX4_clear_11 : decode cX4_clear 11 = .ok (.ireturn, 1) := by decide +kernel
theorem dX4_here_0 : decode cX4_here 0 = .ok (.aload_n 0, 1) := by decide +kernel
theorem dX4_here_1 : decode cX4_here 1 = .ok (.getfield 65, 3) := by decide +kernel
theorem dX4_here_4 : decode cX4_here 4 = .ok (.aload_n 0, 1) := by decide +kernel
theorem dX4_here_5 : decode cX4_here 5 = .ok (.getfield 61, 3) := by decide +kernel
theorem dX4_here_8 : decode cX4_here 8 = .ok (.if_icmp .ge 19, 3) := by decide +kernel
theorem dX4_here_11 : decode cX4_here 11 = .ok (.aload_n 0, 1) := by decide +kernel
theorem dX4_here_12 : decode cX4_here 12 = .ok (.getfield 7, 3) := by decide +kernel
theorem dX4_here_15 : decode cX4_here 15 = .ok (.aload_n 0, 1) := by decide +kernel
theorem dX4_here_16 : decode cX4_here 16 = .ok (.getfield 65, 3) := by decide +kernel
theorem dX4_here_19 : decode cX4_here 19 = .ok (.baload, 1) := by decide +kernel
theorem dX4_here_20 : decode cX4_here 20 = .ok (.sipush 255, 3) := by decide +kernel
theorem dX4_here_23 : decode cX4_here 23 = .ok (.iand, 1) := by decide +kernel
theorem dX4_here_24 : decode cX4_here 24 = .ok (.goto 4, 3) := by decide +kernel
theorem dX4_here_27 : decode cX4_here 27 = .ok (.iconst (-1), 1) := by decide +kernel
theorem dX4_here_28 : decode cX4_here 28 = .ok (.ireturn, 1) := by decide +kernel
theorem dX4_step_0 : decode cX4_step 0 = .ok (.aload_n 0, 1) := by decide +kernel
theorem dX4_step_1 : decode cX4_step 1 = .ok (.invokevirtual 68, 3) := by decide +kernel
theorem dX4_step_4 : decode cX4_step 4 = .ok (.bipush 32, 2) := by decide +kernel
theorem dX4_step_6 : decode cX4_step 6 = .ok (.if_icmp .ne 16, 3) := by decide +kernel
theorem dX4_step_9 : decode cX4_step 9 = .ok (.aload_n 0, 1) := by decide +kernel
theorem dX4_step_10 : decode cX4_step 10 = .ok (.dup, 1) := by decide +kernel
theorem dX4_step_11 : decode cX4_step 11 = .ok (.getfield 65, 3) := by decide +kernel
theorem dX4_step_14 : decode cX4_step 14 = .ok (.iconst 1, 1) := by decide +kernel
theorem dX4_step_15 : decode cX4_step 15 = .ok (.iadd, 1) := by decide +kernel
theorem dX4_step_16 : decode cX4_step 16 = .ok (.putfield 65, 3) := by decide +kernel
theorem dX4_step_19 : decode cX4_step 19 = .ok (.goto (-19), 3) := by decide +kernel
theorem dX4_step_22 : decode cX4_step 22 = .ok (.aload_n 0, 1) := by decide +kernel
theorem dX4_step_23 : decode cX4_step 23 = .ok (.aload_n 0, 1) := by decide +kernel
theorem dX4_step_24 : decode cX4_step 24 = .ok (.getfield 65, 3) := by decide +kernel
theorem dX4_step_27 : decode cX4_step 27 = .ok (.putfield 72, 3) := by decide +kernel
theorem dX4_step_30 : decode cX4_step 30 = .ok (.aload_n 0, 1) := by decide +kernel
theorem dX4_step_31 : decode cX4_step 31 = .ok (.iconst 0, 1) := by decide +kernel
theorem dX4_step_32 : decode cX4_step 32 = .ok (.putfield 75, 3) := by decide +kernel
theorem dX4_step_35 : decode cX4_step 35 = .ok (.aload_n 0, 1) := by decide +kernel
theorem dX4_step_36 : decode cX4_step 36 = .ok (.invokevirtual 68, 3) := by decide +kernel
theorem dX4_step_39 : decode cX4_step 39 = .ok (.istore_n 1, 1) := by decide +kernel
theorem dX4_step_40 : decode cX4_step 40 = .ok (.iload_n 1, 1) := by decide +kernel
theorem dX4_step_41 : decode cX4_step 41 = .ok (.ifCond .ge 11, 3) := by decide +kernel
theorem dX4_step_44 : decode cX4_step 44 = .ok (.aload_n 0, 1) := by decide +kernel
theorem dX4_step_45 : decode cX4_step 45 = .ok (.iconst 3, 1) := by decide +kernel
theorem dX4_step_46 : decode cX4_step 46 = .ok (.putfield 78, 3) := by decide +kernel
theorem dX4_step_49 : decode cX4_step 49 = .ok (.goto 204, 3) := by decide +kernel
theorem dX4_step_52 : decode cX4_step 52 = .ok (.iload_n 1, 1) := by decide +kernel
theorem dX4_step_53 : decode cX4_step 53 = .ok (.bipush 97, 2) := by decide +kernel
theorem dX4_step_55 : decode cX4_step 55 = .ok (.bipush 122, 2) := by decide +kernel
theorem dX4_step_57 : decode cX4_step 57 = .ok (.invokestatic 57, 3) := by decide +kernel
theorem dX4_step_60 : decode cX4_step 60 = .ok (.ifCond .eq 55, 3) := by decide +kernel
theorem dX4_step_63 : decode cX4_step 63 = .ok (.aload_n 0, 1) := by decide +kernel
theorem dX4_step_64 : decode cX4_step 64 = .ok (.invokevirtual 68, 3) := by decide +kernel
theorem dX4_step_67 : decode cX4_step 67 = .ok (.bipush 97, 2) := by decide +kernel
theorem dX4_step_69 : decode cX4_step 69 = .ok (.bipush 122, 2) := by decide +kernel
theorem dX4_step_71 : decode cX4_step 71 = .ok (.invokestatic 57, 3) := by decide +kernel
theorem dX4_step_74 : decode cX4_step 74 = .ok (.ifCond .eq 16, 3) := by decide +kernel
theorem dX4_step_77 : decode cX4_step 77 = .ok (.aload_n 0, 1) := by decide +kernel
theorem dX4_step_78 : decode cX4_step 78 = .ok (.dup, 1) := by decide +kernel
theorem dX4_step_79 : decode cX4_step 79 = .ok (.getfield 65, 3) := by decide +kernel
theorem dX4_step_82 : decode cX4_step 82 = .ok (.iconst 1, 1) := by decide +kernel
theorem dX4_step_83 : decode cX4_step 83 = .ok (.iadd, 1) := by decide +kernel
theorem dX4_step_84 : decode cX4_step 84 = .ok (.putfield 65, 3) := by decide +kernel
theorem dX4_step_87 : decode cX4_step 87 = .ok (.goto (-24), 3) := by decide +kernel
theorem dX4_step_90 : decode cX4_step 90 = .ok (.aload_n 0, 1) := by decide +kernel
theorem dX4_step_91 : decode cX4_step 91 = .ok (.aload_n 0, 1) := by decide +kernel
theorem dX4_step_92 : decode cX4_step 92 = .ok (.getfield 65, 3) := by decide +kernel
theorem dX4_step_95 : decode cX4_step 95 = .ok (.aload_n 0, 1) := by decide +kernel
theorem dX4_step_96 : decode cX4_step 96 = .ok (.getfield 72, 3) := by decide +kernel
theorem dX4_step_99 : decode cX4_step 99 = .ok (.isub, 1) := by decide +kernel
theorem dX4_step_100 : decode cX4_step 100 = .ok (.iconst 1, 1) := by decide +kernel
theorem dX4_step_101 : decode cX4_step 101 = .ok (.if_icmp .ne 7, 3) := by decide +kernel
theorem dX4_step_104 : decode cX4_step 104 = .ok (.iload_n 1, 1) := by decide +kernel
theorem dX4_step_105 : decode cX4_step 105 = .ok (.goto 4, 3) := by decide +kernel
theorem dX4_step_108 : decode cX4_step 108 = .ok (.iconst 4, 1) := by decide +kernel
theorem dX4_step_109 : decode cX4_step 109 = .ok (.putfield 78, 3) := by decide +kernel
theorem dX4_step_112 : decode cX4_step 112 = .ok (.goto 141, 3) := by decide +kernel
theorem dX4_step_115 : decode cX4_step 115 = .ok (.iload_n 1, 1) := by decide +kernel
theorem dX4_step_116 : decode cX4_step 116 = .ok (.bipush 48, 2) := by decide +kernel
theorem dX4_step_118 : decode cX4_step 118 = .ok (.bipush 57, 2) := by decide +kernel
theorem dX4_step_120 : decode cX4_step 120 = .ok (.invokestatic 57, 3) := by decide +kernel
theorem dX4_step_123 : decode cX4_step 123 = .ok (.ifCond .eq 105, 3) := by decide +kernel
theorem dX4_step_126 : decode cX4_step 126 = .ok (.aload_n 0, 1) := by decide +kernel
theorem dX4_step_127 : decode cX4_step 127 = .ok (.invokevirtual 68, 3) := by decide +kernel
theorem dX4_step_130 : decode cX4_step 130 = .ok (.bipush 48, 2) := by decide +kernel
theorem dX4_step_132 : decode cX4_step 132 = .ok (.bipush 57, 2) := by decide +kernel
theorem dX4_step_134 : decode cX4_step 134 = .ok (.invokestatic 57, 3) := by decide +kernel
theorem dX4_step_137 : decode cX4_step 137 = .ok (.ifCond .eq 51, 3) := by decide +kernel
theorem dX4_step_140 : decode cX4_step 140 = .ok (.aload_n 0, 1) := by decide +kernel
theorem dX4_step_141 : decode cX4_step 141 = .ok (.aload_n 0, 1) := by decide +kernel
theorem dX4_step_142 : decode cX4_step 142 = .ok (.getfield 75, 3) := by decide +kernel
theorem dX4_step_145 : decode cX4_step 145 = .ok (.bipush 99, 2) := by decide +kernel
theorem dX4_step_147 : decode cX4_step 147 = .ok (.if_icmp .le 10, 3) := by decide +kernel
theorem dX4_step_150 : decode cX4_step 150 = .ok (.aload_n 0, 1) := by decide +kernel
theorem dX4_step_151 : decode cX4_step 151 = .ok (.getfield 75, 3) := by decide +kernel
theorem dX4_step_154 : decode cX4_step 154 = .ok (.goto 18, 3) := by decide +kernel
theorem dX4_step_157 : decode cX4_step 157 = .ok (.bipush 10, 2) := by decide +kernel
theorem dX4_step_159 : decode cX4_step 159 = .ok (.aload_n 0, 1) := by decide +kernel
theorem dX4_step_160 : decode cX4_step 160 = .ok (.getfield 75, 3) := by decide +kernel
theorem dX4_step_163 : decode cX4_step 163 = .ok (.imul, 1) := by decide +kernel
theorem dX4_step_164 : decode cX4_step 164 = .ok (.aload_n 0, 1) := by decide +kernel
theorem dX4_step_165 : decode cX4_step 165 = .ok (.invokevirtual 68, 3) := by decide +kernel
theorem dX4_step_168 : decode cX4_step 168 = .ok (.iadd, 1) := by decide +kernel
theorem dX4_step_169 : decode cX4_step 169 = .ok (.bipush 48, 2) := by decide +kernel
theorem dX4_step_171 : decode cX4_step 171 = .ok (.isub, 1) := by decide +kernel
theorem dX4_step_172 : decode cX4_step 172 = .ok (.putfield 75, 3) := by decide +kernel
theorem dX4_step_175 : decode cX4_step 175 = .ok (.aload_n 0, 1) := by decide +kernel
theorem dX4_step_176 : decode cX4_step 176 = .ok (.dup, 1) := by decide +kernel
theorem dX4_step_177 : decode cX4_step 177 = .ok (.getfield 65, 3) := by decide +kernel
theorem dX4_step_180 : decode cX4_step 180 = .ok (.iconst 1, 1) := by decide +kernel
theorem dX4_step_181 : decode cX4_step 181 = .ok (.iadd, 1) := by decide +kernel
theorem dX4_step_182 : decode cX4_step 182 = .ok (.putfield 65, 3) := by decide +kernel
theorem dX4_step_185 : decode cX4_step 185 = .ok (.goto (-59), 3) := by decide +kernel
theorem dX4_step_188 : decode cX4_step 188 = .ok (.aload_n 0, 1) := by decide +kernel
theorem dX4_step_189 : decode cX4_step 189 = .ok (.aload_n 0, 1) := by decide +kernel
theorem dX4_step_190 : decode cX4_step 190 = .ok (.getfield 75, 3) := by decide +kernel
theorem dX4_step_193 : decode cX4_step 193 = .ok (.bipush 99, 2) := by decide +kernel
theorem dX4_step_195 : decode cX4_step 195 = .ok (.if_icmp .gt 22, 3) := by decide +kernel
theorem dX4_step_198 : decode cX4_step 198 = .ok (.iload_n 1, 1) := by decide +kernel
theorem dX4_step_199 : decode cX4_step 199 = .ok (.bipush 48, 2) := by decide +kernel
theorem dX4_step_201 : decode cX4_step 201 = .ok (.if_icmp .ne 20, 3) := by decide +kernel
theorem dX4_step_204 : decode cX4_step 204 = .ok (.aload_n 0, 1) := by decide +kernel
theorem dX4_step_205 : decode cX4_step 205 = .ok (.getfield 65, 3) := by decide +kernel
theorem dX4_step_208 : decode cX4_step 208 = .ok (.aload_n 0, 1) := by decide +kernel
theorem dX4_step_209 : decode cX4_step 209 = .ok (.getfield 72, 3) := by decide +kernel
theorem dX4_step_212 : decode cX4_step 212 = .ok (.isub, 1) := by decide +kernel
theorem dX4_step_213 : decode cX4_step 213 = .ok (.iconst 1, 1) := by decide +kernel
theorem dX4_step_214 : decode cX4_step 214 = .ok (.if_icmp .le 7, 3) := by decide +kernel
theorem dX4_step_217 : decode cX4_step 217 = .ok (.iconst 4, 1) := by decide +kernel
theorem dX4_step_218 : decode cX4_step 218 = .ok (.goto 4, 3) := by decide +kernel
theorem dX4_step_221 : decode cX4_step 221 = .ok (.iconst 1, 1) := by decide +kernel
theorem dX4_step_222 : decode cX4_step 222 = .ok (.putfield 78, 3) := by decide +kernel
theorem dX4_step_225 : decode cX4_step 225 = .ok (.goto 28, 3) := by decide +kernel
theorem dX4_step_228 : decode cX4_step 228 = .ok (.aload_n 0, 1) := by decide +kernel
theorem dX4_step_229 : decode cX4_step 229 = .ok (.dup, 1) := by decide +kernel
theorem dX4_step_230 : decode cX4_step 230 = .ok (.getfield 65, 3) := by decide +kernel
theorem dX4_step_233 : decode cX4_step 233 = .ok (.iconst 1, 1) := by decide +kernel
theorem dX4_step_234 : decode cX4_step 234 = .ok (.iadd, 1) := by decide +kernel
theorem dX4_step_235 : decode cX4_step 235 = .ok (.putfield 65, 3) := by decide +kernel
theorem dX4_step_238 : decode cX4_step 238 = .ok (.aload_n 0, 1) := by decide +kernel
theorem dX4_step_239 : decode cX4_step 239 = .ok (.iload_n 1, 1) := by decide +kernel
theorem dX4_step_240 : decode cX4_step 240 = .ok (.bipush 59, 2) := by decide +kernel
theorem dX4_step_242 : decode cX4_step 242 = .ok (.if_icmp .ne 7, 3) := by decide +kernel
theorem dX4_step_245 : decode cX4_step 245 = .ok (.iconst 2, 1) := by decide +kernel
theorem dX4_step_246 : decode cX4_step 246 = .ok (.goto 4, 3) := by decide +kernel
theorem dX4_step_249 : decode cX4_step 249 = .ok (.iconst 4, 1) := by decide +kernel
theorem dX4_step_250 : decode cX4_step 250 = .ok (.putfield 78, 3) := by decide +kernel
theorem dX4_step_253 : decode cX4_step 253 = .ok (.return_, 1) := by decide +kernel
theorem dX4_due_0 : decode cX4_due 0 = .ok (.aload_n 0, 1) := by decide +kernel
theorem dX4_due_1 : decode cX4_due 1 = .ok (.getfield 75, 3) := by decide +kernel
theorem dX4_due_4 : decode cX4_due 4 = .ok (.istore_n 2, 1) := by decide +kernel
theorem dX4_due_5 : decode cX4_due 5 = .ok (.aload_n 0, 1) := by decide +kernel
theorem dX4_due_6 : decode cX4_due 6 = .ok (.getfield 81, 3) := by decide +kernel
theorem dX4_due_9 : decode cX4_due 9 = .ok (.bipush (-9), 2) := by decide +kernel
theorem dX4_due_11 : decode cX4_due 11 = .ok (.if_icmp .ne 22, 3) := by decide +kernel
theorem dX4_due_14 : decode cX4_due 14 = .ok (.iload_n 1, 1) := by decide +kernel
theorem dX4_due_15 : decode cX4_due 15 = .ok (.ifCond .eq 10, 3) := by decide +kernel
theorem dX4_due_18 : decode cX4_due 18 = .ok (.aload_n 0, 1) := by decide +kernel
theorem dX4_due_19 : decode cX4_due 19 = .ok (.invokevirtual 84, 3) := by decide +kernel
theorem dX4_due_22 : decode cX4_due 22 = .ok (.goto 11, 3) := by decide +kernel
theorem dX4_due_25 : decode cX4_due 25 = .ok (.aload_n 0, 1) := by decide +kernel
theorem dX4_due_26 : decode cX4_due 26 = .ok (.aload_n 0, 1) := by decide +kernel
theorem dX4_due_27 : decode cX4_due 27 = .ok (.getfield 72, 3) := by decide +kernel
theorem dX4_due_30 : decode cX4_due 30 = .ok (.putfield 81, 3) := by decide +kernel
theorem dX4_due_33 : decode cX4_due 33 = .ok (.iload_n 2, 1) := by decide +kernel
theorem dX4_due_34 : decode cX4_due 34 = .ok (.ireturn, 1) := by decide +kernel
theorem dX4_number_0 : decode cX4_number 0 = .ok (.aload_n 0, 1) := by decide +kernel
theorem dX4_number_1 : decode cX4_number 1 = .ok (.aload_n 0, 1) := by decide +kernel
theorem dX4_number_2 : decode cX4_number 2 = .ok (.getfield 78, 3) := by decide +kernel
theorem dX4_number_5 : decode cX4_number 5 = .ok (.iconst 1, 1) := by decide +kernel
theorem dX4_number_6 : decode cX4_number 6 = .ok (.if_icmp .ne 19, 3) := by decide +kernel
theorem dX4_number_9 : decode cX4_number 9 = .ok (.aload_n 0, 1) := by decide +kernel
theorem dX4_number_10 : decode cX4_number 10 = .ok (.getfield 75, 3) := by decide +kernel
theorem dX4_number_13 : decode cX4_number 13 = .ok (.iload_n 1, 1) := by decide +kernel
theorem dX4_number_14 : decode cX4_number 14 = .ok (.iload_n 2, 1) := by decide +kernel
theorem dX4_number_15 : decode cX4_number 15 = .ok (.invokestatic 57, 3) := by decide +kernel
theorem dX4_number_18 : decode cX4_number 18 = .ok (.ifCond .eq 7, 3) := by decide +kernel
theorem dX4_number_21 : decode cX4_number 21 = .ok (.iconst 1, 1) := by decide +kernel
theorem dX4_number_22 : decode cX4_number 22 = .ok (.goto 4, 3) := by decide +kernel
theorem dX4_number_25 : decode cX4_number 25 = .ok (.iconst 0, 1) := by decide +kernel
theorem dX4_number_26 : decode cX4_number 26 = .ok (.invokevirtual 87, 3) := by decide +kernel
theorem dX4_number_29 : decode cX4_number 29 = .ok (.ireturn, 1) := by decide +kernel
theorem dX4_mayBe_0 : decode cX4_mayBe 0 = .ok (.iload_n 1, 1) := by decide +kernel
theorem dX4_mayBe_1 : decode cX4_mayBe 1 = .ok (.lookupswitch 89 #[(97, 43), (111, 76), (112, 60), (122, 43)], 43) := by decide +kernel
theorem dX4_mayBe_44 : decode cX4_mayBe 44 = .ok (.aload_n 0, 1) := by decide +kernel
theorem dX4_mayBe_45 : decode cX4_mayBe 45 = .ok (.getfield 13, 3) := by decide +kernel
theorem dX4_mayBe_48 : decode cX4_mayBe 48 = .ok (.iconst 1, 1) := by decide +kernel
theorem dX4_mayBe_49 : decode cX4_mayBe 49 = .ok (.iaload, 1) := by decide +kernel
theorem dX4_mayBe_50 : decode cX4_mayBe 50 = .ok (.bipush 8, 2) := by decide +kernel
theorem dX4_mayBe_52 : decode cX4_mayBe 52 = .ok (.if_icmp .ge 7, 3) := by decide +kernel
theorem dX4_mayBe_55 : decode cX4_mayBe 55 = .ok (.iconst 1, 1) := by decide +kernel
theorem dX4_mayBe_56 : decode cX4_mayBe 56 = .ok (.goto 4, 3) := by decide +kernel
theorem dX4_mayBe_59 : decode cX4_mayBe 59 = .ok (.iconst 0, 1) := by decide +kernel
theorem dX4_mayBe_60 : decode cX4_mayBe 60 = .ok (.ireturn, 1) := by decide +kernel
theorem dX4_mayBe_61 : decode cX4_mayBe 61 = .ok (.aload_n 0, 1) := by decide +kernel
theorem dX4_mayBe_62 : decode cX4_mayBe 62 = .ok (.getfield 26, 3) := by decide +kernel
theorem dX4_mayBe_65 : decode cX4_mayBe 65 = .ok (.iconst 1, 1) := by decide +kernel
theorem dX4_mayBe_66 : decode cX4_mayBe 66 = .ok (.iaload, 1) := by decide +kernel
theorem dX4_mayBe_67 : decode cX4_mayBe 67 = .ok (.iconst 5, 1) := by decide +kernel
theorem dX4_mayBe_68 : decode cX4_mayBe 68 = .ok (.if_icmp .ge 7, 3) := by decide +kernel
theorem dX4_mayBe_71 : decode cX4_mayBe 71 = .ok (.iconst 1, 1) := by decide +kernel
theorem dX4_mayBe_72 : decode cX4_mayBe 72 = .ok (.goto 4, 3) := by decide +kernel
theorem dX4_mayBe_75 : decode cX4_mayBe 75 = .ok (.iconst 0, 1) := by decide +kernel
theorem dX4_mayBe_76 : decode cX4_mayBe 76 = .ok (.ireturn, 1) := by decide +kernel
theorem dX4_mayBe_77 : decode cX4_mayBe 77 = .ok (.aload_n 0, 1) := by decide +kernel
theorem dX4_mayBe_78 : decode cX4_mayBe 78 = .ok (.getfield 91, 3) := by decide +kernel
theorem dX4_mayBe_81 : decode cX4_mayBe 81 = .ok (.ifCond .ne 7, 3) := by decide +kernel
theorem dX4_mayBe_84 : decode cX4_mayBe 84 = .ok (.iconst 1, 1) := by decide +kernel
theorem dX4_mayBe_85 : decode cX4_mayBe 85 = .ok (.goto 4, 3) := by decide +kernel
theorem dX4_mayBe_88 : decode cX4_mayBe 88 = .ok (.iconst 0, 1) := by decide +kernel
theorem dX4_mayBe_89 : decode cX4_mayBe 89 = .ok (.ireturn, 1) := by decide +kernel
theorem dX4_mayBe_90 : decode cX4_mayBe 90 = .ok (.iconst 0, 1) := by decide +kernel
theorem dX4_mayBe_91 : decode cX4_mayBe 91 = .ok (.ireturn, 1) := by decide +kernel
theorem dX4_readSet_0 : decode cX4_readSet 0 = .ok (.iconst 0, 1) := by decide +kernel
theorem dX4_readSet_1 : decode cX4_readSet 1 = .ok (.istore_n 1, 1) := by decide +kernel
theorem dX4_readSet_2 : decode cX4_readSet 2 = .ok (.iconst 0, 1) := by decide +kernel
theorem dX4_readSet_3 : decode cX4_readSet 3 = .ok (.istore_n 2, 1) := by decide +kernel
theorem dX4_readSet_4 : decode cX4_readSet 4 = .ok (.iload_n 2, 1) := by decide +kernel
theorem dX4_readSet_5 : decode cX4_readSet 5 = .ok (.bipush 8, 2) := by decide +kernel
theorem dX4_readSet_7 : decode cX4_readSet 7 = .ok (.if_icmp .ge 67, 3) := by decide +kernel
theorem dX4_readSet_10 : decode cX4_readSet 10 = .ok (.aload_n 0, 1) := by decide +kernel
theorem dX4_readSet_11 : decode cX4_readSet 11 = .ok (.getfield 78, 3) := by decide +kernel
theorem dX4_readSet_14 : decode cX4_readSet 14 = .ok (.iconst 1, 1) := by decide +kernel
theorem dX4_readSet_15 : decode cX4_readSet 15 = .ok (.if_icmp .ne 59, 3) := by decide +kernel
theorem dX4_readSet_18 : decode cX4_readSet 18 = .ok (.aload_n 0, 1) := by decide +kernel
theorem dX4_readSet_19 : decode cX4_readSet 19 = .ok (.getfield 81, 3) := by decide +kernel
theorem dX4_readSet_22 : decode cX4_readSet 22 = .ok (.bipush (-9), 2) := by decide +kernel
theorem dX4_readSet_24 : decode cX4_readSet 24 = .ok (.if_icmp .ne 50, 3) := by decide +kernel
theorem dX4_readSet_27 : decode cX4_readSet 27 = .ok (.iload_n 1, 1) := by decide +kernel
theorem dX4_readSet_28 : decode cX4_readSet 28 = .ok (.iconst 1, 1) := by decide +kernel
theorem dX4_readSet_29 : decode cX4_readSet 29 = .ok (.aload_n 0, 1) := by decide +kernel
theorem dX4_readSet_30 : decode cX4_readSet 30 = .ok (.getfield 75, 3) := by decide +kernel
theorem dX4_readSet_33 : decode cX4_readSet 33 = .ok (.iconst 0, 1) := by decide +kernel
theorem dX4_readSet_34 : decode cX4_readSet 34 = .ok (.bipush 7, 2) := by decide +kernel
theorem dX4_readSet_36 : decode cX4_readSet 36 = .ok (.invokestatic 57, 3) := by decide +kernel
theorem dX4_readSet_39 : decode cX4_readSet 39 = .ok (.ifCond .eq 10, 3) := by decide +kernel
theorem dX4_readSet_42 : decode cX4_readSet 42 = .ok (.aload_n 0, 1) := by decide +kernel
theorem dX4_readSet_43 : decode cX4_readSet 43 = .ok (.getfield 75, 3) := by decide +kernel
theorem dX4_readSet_46 : decode cX4_readSet 46 = .ok (.goto 4, 3) := by decide +kernel
theorem dX4_readSet_49 : decode cX4_readSet 49 = .ok (.iconst 0, 1) := by decide +kernel
theorem dX4_readSet_50 : decode cX4_readSet 50 = .ok (.ishl, 1) := by decide +kernel
theorem dX4_readSet_51 : decode cX4_readSet 51 = .ok (.ior, 1) := by decide +kernel
theorem dX4_readSet_52 : decode cX4_readSet 52 = .ok (.istore_n 1, 1) := by decide +kernel
theorem dX4_readSet_53 : decode cX4_readSet 53 = .ok (.aload_n 0, 1) := by decide +kernel
theorem dX4_readSet_54 : decode cX4_readSet 54 = .ok (.aload_n 0, 1) := by decide +kernel
theorem dX4_readSet_55 : decode cX4_readSet 55 = .ok (.getfield 75, 3) := by decide +kernel
theorem dX4_readSet_58 : decode cX4_readSet 58 = .ok (.iconst 0, 1) := by decide +kernel
theorem dX4_readSet_59 : decode cX4_readSet 59 = .ok (.bipush 7, 2) := by decide +kernel
theorem dX4_readSet_61 : decode cX4_readSet 61 = .ok (.invokestatic 57, 3) := by decide +kernel
theorem dX4_readSet_64 : decode cX4_readSet 64 = .ok (.invokevirtual 87, 3) := by decide +kernel
theorem dX4_readSet_67 : decode cX4_readSet 67 = .ok (.pop, 1) := by decide +kernel
theorem dX4_readSet_68 : decode cX4_readSet 68 = .ok (.iinc 2 1, 3) := by decide +kernel
theorem dX4_readSet_71 : decode cX4_readSet 71 = .ok (.goto (-67), 3) := by decide +kernel
theorem dX4_readSet_74 : decode cX4_readSet 74 = .ok (.iload_n 1, 1) := by decide +kernel
theorem dX4_readSet_75 : decode cX4_readSet 75 = .ok (.ireturn, 1) := by decide +kernel
theorem dX4_readRow_0 : decode cX4_readRow 0 = .ok (.iload_n 1, 1) := by decide +kernel
theorem dX4_readRow_1 : decode cX4_readRow 1 = .ok (.lookupswitch 148 #[(97, 35), (112, 118), (122, 35)], 35) := by decide +kernel
theorem dX4_readRow_36 : decode cX4_readRow 36 = .ok (.bipush 8, 2) := by decide +kernel
theorem dX4_readRow_38 : decode cX4_readRow 38 = .ok (.aload_n 0, 1) := by decide +kernel
theorem dX4_readRow_39 : decode cX4_readRow 39 = .ok (.getfield 13, 3) := by decide +kernel
theorem dX4_readRow_42 : decode cX4_readRow 42 = .ok (.iconst 1, 1) := by decide +kernel
theorem dX4_readRow_43 : decode cX4_readRow 43 = .ok (.iaload, 1) := by decide +kernel
theorem dX4_readRow_44 : decode cX4_readRow 44 = .ok (.iadd, 1) := by decide +kernel
theorem dX4_readRow_45 : decode cX4_readRow 45 = .ok (.istore_n 2, 1) := by decide +kernel
theorem dX4_readRow_46 : decode cX4_readRow 46 = .ok (.aload_n 0, 1) := by decide +kernel
theorem dX4_readRow_47 : decode cX4_readRow 47 = .ok (.getfield 17, 3) := by decide +kernel
theorem dX4_readRow_50 : decode cX4_readRow 50 = .ok (.iload_n 2, 1) := by decide +kernel
theorem dX4_readRow_51 : decode cX4_readRow 51 = .ok (.aload_n 0, 1) := by decide +kernel
theorem dX4_readRow_52 : decode cX4_readRow 52 = .ok (.iconst 0, 1) := by decide +kernel
theorem dX4_readRow_53 : decode cX4_readRow 53 = .ok (.bipush 9, 2) := by decide +kernel
theorem dX4_readRow_55 : decode cX4_readRow 55 = .ok (.invokevirtual 95, 3) := by decide +kernel
theorem dX4_readRow_58 : decode cX4_readRow 58 = .ok (.iastore, 1) := by decide +kernel
theorem dX4_readRow_59 : decode cX4_readRow 59 = .ok (.aload_n 0, 1) := by decide +kernel
theorem dX4_readRow_60 : decode cX4_readRow 60 = .ok (.getfield 20, 3) := by decide +kernel
theorem dX4_readRow_63 : decode cX4_readRow 63 = .ok (.iload_n 2, 1) := by decide +kernel
theorem dX4_readRow_64 : decode cX4_readRow 64 = .ok (.iload_n 1, 1) := by decide +kernel
theorem dX4_readRow_65 : decode cX4_readRow 65 = .ok (.bipush 97, 2) := by decide +kernel
theorem dX4_readRow_67 : decode cX4_readRow 67 = .ok (.if_icmp .ne 10, 3) := by decide +kernel
theorem dX4_readRow_70 : decode cX4_readRow 70 = .ok (.aload_n 0, 1) := by decide +kernel
theorem dX4_readRow_71 : decode cX4_readRow 71 = .ok (.invokevirtual 99, 3) := by decide +kernel
theorem dX4_readRow_74 : decode cX4_readRow 74 = .ok (.goto 4, 3) := by decide +kernel
theorem dX4_readRow_77 : decode cX4_readRow 77 = .ok (.iconst 0, 1) := by decide +kernel
theorem dX4_readRow_78 : decode cX4_readRow 78 = .ok (.iastore, 1) := by decide +kernel
theorem dX4_readRow_79 : decode cX4_readRow 79 = .ok (.aload_n 0, 1) := by decide +kernel
theorem dX4_readRow_80 : decode cX4_readRow 80 = .ok (.getfield 23, 3) := by decide +kernel
theorem dX4_readRow_83 : decode cX4_readRow 83 = .ok (.iconst 1, 1) := by decide +kernel
theorem dX4_readRow_84 : decode cX4_readRow 84 = .ok (.dup2, 1) := by decide +kernel
theorem dX4_readRow_85 : decode cX4_readRow 85 = .ok (.iaload, 1) := by decide +kernel
theorem dX4_readRow_86 : decode cX4_readRow 86 = .ok (.iload_n 1, 1) := by decide +kernel
theorem dX4_readRow_87 : decode cX4_readRow 87 = .ok (.bipush 122, 2) := by decide +kernel
theorem dX4_readRow_89 : decode cX4_readRow 89 = .ok (.if_icmp .ne 14, 3) := by decide +kernel
theorem dX4_readRow_92 : decode cX4_readRow 92 = .ok (.iconst 1, 1) := by decide +kernel
theorem dX4_readRow_93 : decode cX4_readRow 93 = .ok (.aload_n 0, 1) := by decide +kernel
theorem dX4_readRow_94 : decode cX4_readRow 94 = .ok (.getfield 13, 3) := by decide +kernel
theorem dX4_readRow_97 : decode cX4_readRow 97 = .ok (.iconst 1, 1) := by decide +kernel
theorem dX4_readRow_98 : decode cX4_readRow 98 = .ok (.iaload, 1) := by decide +kernel
theorem dX4_readRow_99 : decode cX4_readRow 99 = .ok (.ishl, 1) := by decide +kernel
theorem dX4_readRow_100 : decode cX4_readRow 100 = .ok (.goto 4, 3) := by decide +kernel
theorem dX4_readRow_103 : decode cX4_readRow 103 = .ok (.iconst 0, 1) := by decide +kernel
theorem dX4_readRow_104 : decode cX4_readRow 104 = .ok (.ior, 1) := by decide +kernel
theorem dX4_readRow_105 : decode cX4_readRow 105 = .ok (.iastore, 1) := by decide +kernel
theorem dX4_readRow_106 : decode cX4_readRow 106 = .ok (.aload_n 0, 1) := by decide +kernel
theorem dX4_readRow_107 : decode cX4_readRow 107 = .ok (.getfield 13, 3) := by decide +kernel
theorem dX4_readRow_110 : decode cX4_readRow 110 = .ok (.iconst 1, 1) := by decide +kernel
theorem dX4_readRow_111 : decode cX4_readRow 111 = .ok (.dup2, 1) := by decide +kernel
theorem dX4_readRow_112 : decode cX4_readRow 112 = .ok (.iaload, 1) := by decide +kernel
theorem dX4_readRow_113 : decode cX4_readRow 113 = .ok (.iconst 1, 1) := by decide +kernel
theorem dX4_readRow_114 : decode cX4_readRow 114 = .ok (.iadd, 1) := by decide +kernel
theorem dX4_readRow_115 : decode cX4_readRow 115 = .ok (.iastore, 1) := by decide +kernel
theorem dX4_readRow_116 : decode cX4_readRow 116 = .ok (.goto 51, 3) := by decide +kernel
theorem dX4_readRow_119 : decode cX4_readRow 119 = .ok (.aload_n 0, 1) := by decide +kernel
theorem dX4_readRow_120 : decode cX4_readRow 120 = .ok (.getfield 29, 3) := by decide +kernel
theorem dX4_readRow_123 : decode cX4_readRow 123 = .ok (.iconst 5, 1) := by decide +kernel
theorem dX4_readRow_124 : decode cX4_readRow 124 = .ok (.aload_n 0, 1) := by decide +kernel
theorem dX4_readRow_125 : decode cX4_readRow 125 = .ok (.getfield 26, 3) := by decide +kernel
theorem dX4_readRow_128 : decode cX4_readRow 128 = .ok (.iconst 1, 1) := by decide +kernel
theorem dX4_readRow_129 : decode cX4_readRow 129 = .ok (.iaload, 1) := by decide +kernel
theorem dX4_readRow_130 : decode cX4_readRow 130 = .ok (.iadd, 1) := by decide +kernel
theorem dX4_readRow_131 : decode cX4_readRow 131 = .ok (.aload_n 0, 1) := by decide +kernel
theorem dX4_readRow_132 : decode cX4_readRow 132 = .ok (.invokevirtual 99, 3) := by decide +kernel
theorem dX4_readRow_135 : decode cX4_readRow 135 = .ok (.iastore, 1) := by decide +kernel
theorem dX4_readRow_136 : decode cX4_readRow 136 = .ok (.aload_n 0, 1) := by decide +kernel
theorem dX4_readRow_137 : decode cX4_readRow 137 = .ok (.getfield 26, 3) := by decide +kernel
theorem dX4_readRow_140 : decode cX4_readRow 140 = .ok (.iconst 1, 1) := by decide +kernel
theorem dX4_readRow_141 : decode cX4_readRow 141 = .ok (.dup2, 1) := by decide +kernel
theorem dX4_readRow_142 : decode cX4_readRow 142 = .ok (.iaload, 1) := by decide +kernel
theorem dX4_readRow_143 : decode cX4_readRow 143 = .ok (.iconst 1, 1) := by decide +kernel
theorem dX4_readRow_144 : decode cX4_readRow 144 = .ok (.iadd, 1) := by decide +kernel
theorem dX4_readRow_145 : decode cX4_readRow 145 = .ok (.iastore, 1) := by decide +kernel
theorem dX4_readRow_146 : decode cX4_readRow 146 = .ok (.goto 21, 3) := by decide +kernel
theorem dX4_readRow_149 : decode cX4_readRow 149 = .ok (.aload_n 0, 1) := by decide +kernel
theorem dX4_readRow_150 : decode cX4_readRow 150 = .ok (.getfield 32, 3) := by decide +kernel
theorem dX4_readRow_153 : decode cX4_readRow 153 = .ok (.iconst 1, 1) := by decide +kernel
theorem dX4_readRow_154 : decode cX4_readRow 154 = .ok (.aload_n 0, 1) := by decide +kernel
theorem dX4_readRow_155 : decode cX4_readRow 155 = .ok (.iconst 1, 1) := by decide +kernel
theorem dX4_readRow_156 : decode cX4_readRow 156 = .ok (.bipush 9, 2) := by decide +kernel
theorem dX4_readRow_158 : decode cX4_readRow 158 = .ok (.invokevirtual 95, 3) := by decide +kernel
theorem dX4_readRow_161 : decode cX4_readRow 161 = .ok (.iastore, 1) := by decide +kernel
theorem dX4_readRow_162 : decode cX4_readRow 162 = .ok (.aload_n 0, 1) := by decide +kernel
theorem dX4_readRow_163 : decode cX4_readRow 163 = .ok (.iconst 1, 1) := by decide +kernel
theorem dX4_readRow_164 : decode cX4_readRow 164 = .ok (.putfield 91, 3) := by decide +kernel
theorem dX4_readRow_167 : decode cX4_readRow 167 = .ok (.return_, 1) := by decide +kernel
theorem dX4_plain_0 : decode cX4_plain 0 = .ok (.aload_n 0, 1) := by decide +kernel
theorem dX4_plain_1 : decode cX4_plain 1 = .ok (.getfield 13, 3) := by decide +kernel
theorem dX4_plain_4 : decode cX4_plain 4 = .ok (.iconst 1, 1) := by decide +kernel
theorem dX4_plain_5 : decode cX4_plain 5 = .ok (.iconst 0, 1) := by decide +kernel
theorem dX4_plain_6 : decode cX4_plain 6 = .ok (.iastore, 1) := by decide +kernel
theorem dX4_plain_7 : decode cX4_plain 7 = .ok (.aload_n 0, 1) := by decide +kernel
theorem dX4_plain_8 : decode cX4_plain 8 = .ok (.getfield 23, 3) := by decide +kernel
theorem dX4_plain_11 : decode cX4_plain 11 = .ok (.iconst 1, 1) := by decide +kernel
theorem dX4_plain_12 : decode cX4_plain 12 = .ok (.iconst 0, 1) := by decide +kernel
theorem dX4_plain_13 : decode cX4_plain 13 = .ok (.iastore, 1) := by decide +kernel
theorem dX4_plain_14 : decode cX4_plain 14 = .ok (.aload_n 0, 1) := by decide +kernel
theorem dX4_plain_15 : decode cX4_plain 15 = .ok (.getfield 26, 3) := by decide +kernel
theorem dX4_plain_18 : decode cX4_plain 18 = .ok (.iconst 1, 1) := by decide +kernel
theorem dX4_plain_19 : decode cX4_plain 19 = .ok (.iconst 0, 1) := by decide +kernel
theorem dX4_plain_20 : decode cX4_plain 20 = .ok (.iastore, 1) := by decide +kernel
theorem dX4_plain_21 : decode cX4_plain 21 = .ok (.aload_n 0, 1) := by decide +kernel
theorem dX4_plain_22 : decode cX4_plain 22 = .ok (.getfield 32, 3) := by decide +kernel
theorem dX4_plain_25 : decode cX4_plain 25 = .ok (.iconst 1, 1) := by decide +kernel
theorem dX4_plain_26 : decode cX4_plain 26 = .ok (.iconst 3, 1) := by decide +kernel
theorem dX4_plain_27 : decode cX4_plain 27 = .ok (.iastore, 1) := by decide +kernel
theorem dX4_plain_28 : decode cX4_plain 28 = .ok (.aload_n 0, 1) := by decide +kernel
theorem dX4_plain_29 : decode cX4_plain 29 = .ok (.iconst 0, 1) := by decide +kernel
theorem dX4_plain_30 : decode cX4_plain 30 = .ok (.putfield 91, 3) := by decide +kernel
theorem dX4_plain_33 : decode cX4_plain 33 = .ok (.return_, 1) := by decide +kernel
theorem dX4_takeDraft_0 : decode cX4_takeDraft 0 = .ok (.aload_n 0, 1) := by decide +kernel
theorem dX4_takeDraft_1 : decode cX4_takeDraft 1 = .ok (.getfield 13, 3) := by decide +kernel
theorem dX4_takeDraft_4 : decode cX4_takeDraft 4 = .ok (.iconst 0, 1) := by decide +kernel
theorem dX4_takeDraft_5 : decode cX4_takeDraft 5 = .ok (.aload_n 0, 1) := by decide +kernel
theorem dX4_takeDraft_6 : decode cX4_takeDraft 6 = .ok (.getfield 13, 3) := by decide +kernel
theorem dX4_takeDraft_9 : decode cX4_takeDraft 9 = .ok (.iconst 1, 1) := by decide +kernel
theorem dX4_takeDraft_10 : decode cX4_takeDraft 10 = .ok (.iaload, 1) := by decide +kernel
theorem dX4_takeDraft_11 : decode cX4_takeDraft 11 = .ok (.iastore, 1) := by decide +kernel
theorem dX4_takeDraft_12 : decode cX4_takeDraft 12 = .ok (.aload_n 0, 1) := by decide +kernel
theorem dX4_takeDraft_13 : decode cX4_takeDraft 13 = .ok (.getfield 23, 3) := by decide +kernel
theorem dX4_takeDraft_16 : decode cX4_takeDraft 16 = .ok (.iconst 0, 1) := by decide +kernel
theorem dX4_takeDraft_17 : decode cX4_takeDraft 17 = .ok (.aload_n 0, 1) := by decide +kernel
theorem dX4_takeDraft_18 : decode cX4_takeDraft 18 = .ok (.getfield 23, 3) := by decide +kernel
theorem dX4_takeDraft_21 : decode cX4_takeDraft 21 = .ok (.iconst 1, 1) := by decide +kernel
theorem dX4_takeDraft_22 : decode cX4_takeDraft 22 = .ok (.iaload, 1) := by decide +kernel
theorem dX4_takeDraft_23 : decode cX4_takeDraft 23 = .ok (.iastore, 1) := by decide +kernel
theorem dX4_takeDraft_24 : decode cX4_takeDraft 24 = .ok (.aload_n 0, 1) := by decide +kernel
theorem dX4_takeDraft_25 : decode cX4_takeDraft 25 = .ok (.getfield 26, 3) := by decide +kernel
theorem dX4_takeDraft_28 : decode cX4_takeDraft 28 = .ok (.iconst 0, 1) := by decide +kernel
theorem dX4_takeDraft_29 : decode cX4_takeDraft 29 = .ok (.aload_n 0, 1) := by decide +kernel
theorem dX4_takeDraft_30 : decode cX4_takeDraft 30 = .ok (.getfield 26, 3) := by decide +kernel
theorem dX4_takeDraft_33 : decode cX4_takeDraft 33 = .ok (.iconst 1, 1) := by decide +kernel
theorem dX4_takeDraft_34 : decode cX4_takeDraft 34 = .ok (.iaload, 1) := by decide +kernel
theorem dX4_takeDraft_35 : decode cX4_takeDraft 35 = .ok (.iastore, 1) := by decide +kernel
theorem dX4_takeDraft_36 : decode cX4_takeDraft 36 = .ok (.aload_n 0, 1) := by decide +kernel
theorem dX4_takeDraft_37 : decode cX4_takeDraft 37 = .ok (.getfield 32, 3) := by decide +kernel
theorem dX4_takeDraft_40 : decode cX4_takeDraft 40 = .ok (.iconst 0, 1) := by decide +kernel
theorem dX4_takeDraft_41 : decode cX4_takeDraft 41 = .ok (.aload_n 0, 1) := by decide +kernel
theorem dX4_takeDraft_42 : decode cX4_takeDraft 42 = .ok (.getfield 32, 3) := by decide +kernel
theorem dX4_takeDraft_45 : decode cX4_takeDraft 45 = .ok (.iconst 1, 1) := by decide +kernel
theorem dX4_takeDraft_46 : decode cX4_takeDraft 46 = .ok (.iaload, 1) := by decide +kernel
theorem dX4_takeDraft_47 : decode cX4_takeDraft 47 = .ok (.iastore, 1) := by decide +kernel
theorem dX4_takeDraft_48 : decode cX4_takeDraft 48 = .ok (.iconst 1, 1) := by decide +kernel
theorem dX4_takeDraft_49 : decode cX4_takeDraft 49 = .ok (.aload_n 0, 1) := by decide +kernel
theorem dX4_takeDraft_50 : decode cX4_takeDraft 50 = .ok (.getfield 13, 3) := by decide +kernel
theorem dX4_takeDraft_53 : decode cX4_takeDraft 53 = .ok (.iconst 0, 1) := by decide +kernel
theorem dX4_takeDraft_54 : decode cX4_takeDraft 54 = .ok (.iaload, 1) := by decide +kernel
theorem dX4_takeDraft_55 : decode cX4_takeDraft 55 = .ok (.ishl, 1) := by decide +kernel
theorem dX4_takeDraft_56 : decode cX4_takeDraft 56 = .ok (.iconst 1, 1) := by decide +kernel
theorem dX4_takeDraft_57 : decode cX4_takeDraft 57 = .ok (.isub, 1) := by decide +kernel
theorem dX4_takeDraft_58 : decode cX4_takeDraft 58 = .ok (.istore_n 1, 1) := by decide +kernel
theorem dX4_takeDraft_59 : decode cX4_takeDraft 59 = .ok (.iconst 0, 1) := by decide +kernel
theorem dX4_takeDraft_60 : decode cX4_takeDraft 60 = .ok (.istore_n 2, 1) := by decide +kernel
theorem dX4_takeDraft_61 : decode cX4_takeDraft 61 = .ok (.iload_n 2, 1) := by decide +kernel
theorem dX4_takeDraft_62 : decode cX4_takeDraft 62 = .ok (.bipush 8, 2) := by decide +kernel
theorem dX4_takeDraft_64 : decode cX4_takeDraft 64 = .ok (.if_icmp .ge 41, 3) := by decide +kernel
theorem dX4_takeDraft_67 : decode cX4_takeDraft 67 = .ok (.aload_n 0, 1) := by decide +kernel
theorem dX4_takeDraft_68 : decode cX4_takeDraft 68 = .ok (.getfield 17, 3) := by decide +kernel
theorem dX4_takeDraft_71 : decode cX4_takeDraft 71 = .ok (.iload_n 2, 1) := by decide +kernel
theorem dX4_takeDraft_72 : decode cX4_takeDraft 72 = .ok (.aload_n 0, 1) := by decide +kernel
theorem dX4_takeDraft_73 : decode cX4_takeDraft 73 = .ok (.getfield 17, 3) := by decide +kernel
theorem dX4_takeDraft_76 : decode cX4_takeDraft 76 = .ok (.bipush 8, 2) := by decide +kernel
theorem dX4_takeDraft_78 : decode cX4_takeDraft 78 = .ok (.iload_n 2, 1) := by decide +kernel
theorem dX4_takeDraft_79 : decode cX4_takeDraft 79 = .ok (.iadd, 1) := by decide +kernel
theorem dX4_takeDraft_80 : decode cX4_takeDraft 80 = .ok (.iaload, 1) := by decide +kernel
theorem dX4_takeDraft_81 : decode cX4_takeDraft 81 = .ok (.iastore, 1) := by decide +kernel
theorem dX4_takeDraft_82 : decode cX4_takeDraft 82 = .ok (.aload_n 0, 1) := by decide +kernel
theorem dX4_takeDraft_83 : decode cX4_takeDraft 83 = .ok (.getfield 20, 3) := by decide +kernel
theorem dX4_takeDraft_86 : decode cX4_takeDraft 86 = .ok (.iload_n 2, 1) := by decide +kernel
theorem dX4_takeDraft_87 : decode cX4_takeDraft 87 = .ok (.aload_n 0, 1) := by decide +kernel
theorem dX4_takeDraft_88 : decode cX4_takeDraft 88 = .ok (.getfield 20, 3) := by decide +kernel
theorem dX4_takeDraft_91 : decode cX4_takeDraft 91 = .ok (.bipush 8, 2) := by decide +kernel
theorem dX4_takeDraft_93 : decode cX4_takeDraft 93 = .ok (.iload_n 2, 1) := by decide +kernel
theorem dX4_takeDraft_94 : decode cX4_takeDraft 94 = .ok (.iadd, 1) := by decide +kernel
theorem dX4_takeDraft_95 : decode cX4_takeDraft 95 = .ok (.iaload, 1) := by decide +kernel
theorem dX4_takeDraft_96 : decode cX4_takeDraft 96 = .ok (.iload_n 1, 1) := by decide +kernel
theorem dX4_takeDraft_97 : decode cX4_takeDraft 97 = .ok (.iand, 1) := by decide +kernel
theorem dX4_takeDraft_98 : decode cX4_takeDraft 98 = .ok (.iastore, 1) := by decide +kernel
theorem dX4_takeDraft_99 : decode cX4_takeDraft 99 = .ok (.iinc 2 1, 3) := by decide +kernel
theorem dX4_takeDraft_102 : decode cX4_takeDraft 102 = .ok (.goto (-41), 3) := by decide +kernel
theorem dX4_takeDraft_105 : decode cX4_takeDraft 105 = .ok (.iconst 0, 1) := by decide +kernel
theorem dX4_takeDraft_106 : decode cX4_takeDraft 106 = .ok (.istore_n 2, 1) := by decide +kernel
theorem dX4_takeDraft_107 : decode cX4_takeDraft 107 = .ok (.iload_n 2, 1) := by decide +kernel
theorem dX4_takeDraft_108 : decode cX4_takeDraft 108 = .ok (.iconst 5, 1) := by decide +kernel
theorem dX4_takeDraft_109 : decode cX4_takeDraft 109 = .ok (.if_icmp .ge 25, 3) := by decide +kernel
theorem dX4_takeDraft_112 : decode cX4_takeDraft 112 = .ok (.aload_n 0, 1) := by decide +kernel
theorem dX4_takeDraft_113 : decode cX4_takeDraft 113 = .ok (.getfield 29, 3) := by decide +kernel
theorem dX4_takeDraft_116 : decode cX4_takeDraft 116 = .ok (.iload_n 2, 1) := by decide +kernel
theorem dX4_takeDraft_117 : decode cX4_takeDraft 117 = .ok (.aload_n 0, 1) := by decide +kernel
theorem dX4_takeDraft_118 : decode cX4_takeDraft 118 = .ok (.getfield 29, 3) := by decide +kernel
theorem dX4_takeDraft_121 : decode cX4_takeDraft 121 = .ok (.iconst 5, 1) := by decide +kernel
theorem dX4_takeDraft_122 : decode cX4_takeDraft 122 = .ok (.iload_n 2, 1) := by decide +kernel
theorem dX4_takeDraft_123 : decode cX4_takeDraft 123 = .ok (.iadd, 1) := by decide +kernel
theorem dX4_takeDraft_124 : decode cX4_takeDraft 124 = .ok (.iaload, 1) := by decide +kernel
theorem dX4_takeDraft_125 : decode cX4_takeDraft 125 = .ok (.iload_n 1, 1) := by decide +kernel
theorem dX4_takeDraft_126 : decode cX4_takeDraft 126 = .ok (.iand, 1) := by decide +kernel
theorem dX4_takeDraft_127 : decode cX4_takeDraft 127 = .ok (.iastore, 1) := by decide +kernel
theorem dX4_takeDraft_128 : decode cX4_takeDraft 128 = .ok (.iinc 2 1, 3) := by decide +kernel
theorem dX4_takeDraft_131 : decode cX4_takeDraft 131 = .ok (.goto (-24), 3) := by decide +kernel
theorem dX4_takeDraft_134 : decode cX4_takeDraft 134 = .ok (.aload_n 0, 1) := by decide +kernel
theorem dX4_takeDraft_135 : decode cX4_takeDraft 135 = .ok (.getfield 35, 3) := by decide +kernel
theorem dX4_takeDraft_138 : decode cX4_takeDraft 138 = .ok (.bipush 120, 2) := by decide +kernel
theorem dX4_takeDraft_140 : decode cX4_takeDraft 140 = .ok (.iconst 0, 1) := by decide +kernel
theorem dX4_takeDraft_141 : decode cX4_takeDraft 141 = .ok (.iastore, 1) := by decide +kernel
theorem dX4_takeDraft_142 : decode cX4_takeDraft 142 = .ok (.aload_n 0, 1) := by decide +kernel
theorem dX4_takeDraft_143 : decode cX4_takeDraft 143 = .ok (.getfield 35, 3) := by decide +kernel
theorem dX4_takeDraft_146 : decode cX4_takeDraft 146 = .ok (.bipush 121, 2) := by decide +kernel
theorem dX4_takeDraft_148 : decode cX4_takeDraft 148 = .ok (.iconst 0, 1) := by decide +kernel
theorem dX4_takeDraft_149 : decode cX4_takeDraft 149 = .ok (.iastore, 1) := by decide +kernel
theorem dX4_takeDraft_150 : decode cX4_takeDraft 150 = .ok (.aload_n 0, 1) := by decide +kernel
theorem dX4_takeDraft_151 : decode cX4_takeDraft 151 = .ok (.getfield 35, 3) := by decide +kernel
theorem dX4_takeDraft_154 : decode cX4_takeDraft 154 = .ok (.bipush 122, 2) := by decide +kernel
theorem dX4_takeDraft_156 : decode cX4_takeDraft 156 = .ok (.iconst 0, 1) := by decide +kernel
theorem dX4_takeDraft_157 : decode cX4_takeDraft 157 = .ok (.iastore, 1) := by decide +kernel
theorem dX4_takeDraft_158 : decode cX4_takeDraft 158 = .ok (.aload_n 0, 1) := by decide +kernel
theorem dX4_takeDraft_159 : decode cX4_takeDraft 159 = .ok (.iconst 0, 1) := by decide +kernel
theorem dX4_takeDraft_160 : decode cX4_takeDraft 160 = .ok (.putfield 102, 3) := by decide +kernel
theorem dX4_takeDraft_163 : decode cX4_takeDraft 163 = .ok (.aload_n 0, 1) := by decide +kernel
theorem dX4_takeDraft_164 : decode cX4_takeDraft 164 = .ok (.getfield 38, 3) := by decide +kernel
theorem dX4_takeDraft_167 : decode cX4_takeDraft 167 = .ok (.iconst 0, 1) := by decide +kernel
theorem dX4_takeDraft_168 : decode cX4_takeDraft 168 = .ok (.iconst 0, 1) := by decide +kernel
theorem dX4_takeDraft_169 : decode cX4_takeDraft 169 = .ok (.bastore, 1) := by decide +kernel
theorem dX4_takeDraft_170 : decode cX4_takeDraft 170 = .ok (.aload_n 0, 1) := by decide +kernel
theorem dX4_takeDraft_171 : decode cX4_takeDraft 171 = .ok (.getfield 38, 3) := by decide +kernel
theorem dX4_takeDraft_174 : decode cX4_takeDraft 174 = .ok (.iconst 1, 1) := by decide +kernel
theorem dX4_takeDraft_175 : decode cX4_takeDraft 175 = .ok (.iconst 0, 1) := by decide +kernel
theorem dX4_takeDraft_176 : decode cX4_takeDraft 176 = .ok (.bastore, 1) := by decide +kernel
theorem dX4_takeDraft_177 : decode cX4_takeDraft 177 = .ok (.return_, 1) := by decide +kernel
theorem dX4_duchy_0 : decode cX4_duchy 0 = .ok (.aload_n 0, 1) := by decide +kernel
theorem dX4_duchy_1 : decode cX4_duchy 1 = .ok (.iconst 0, 1) := by decide +kernel
theorem dX4_duchy_2 : decode cX4_duchy 2 = .ok (.putfield 65, 3) := by decide +kernel
theorem dX4_duchy_5 : decode cX4_duchy 5 = .ok (.aload_n 0, 1) := by decide +kernel
theorem dX4_duchy_6 : decode cX4_duchy 6 = .ok (.bipush (-9), 2) := by decide +kernel
theorem dX4_duchy_8 : decode cX4_duchy 8 = .ok (.putfield 81, 3) := by decide +kernel
theorem dX4_duchy_11 : decode cX4_duchy 11 = .ok (.aload_n 0, 1) := by decide +kernel
theorem dX4_duchy_12 : decode cX4_duchy 12 = .ok (.invokevirtual 51, 3) := by decide +kernel
theorem dX4_duchy_15 : decode cX4_duchy 15 = .ok (.iconst 0, 1) := by decide +kernel
theorem dX4_duchy_16 : decode cX4_duchy 16 = .ok (.istore_n 1, 1) := by decide +kernel
theorem dX4_duchy_17 : decode cX4_duchy 17 = .ok (.aload_n 0, 1) := by decide +kernel
theorem dX4_duchy_18 : decode cX4_duchy 18 = .ok (.invokevirtual 84, 3) := by decide +kernel
theorem dX4_duchy_21 : decode cX4_duchy 21 = .ok (.aload_n 0, 1) := by decide +kernel
theorem dX4_duchy_22 : decode cX4_duchy 22 = .ok (.getfield 81, 3) := by decide +kernel
theorem dX4_duchy_25 : decode cX4_duchy 25 = .ok (.bipush (-9), 2) := by decide +kernel
theorem dX4_duchy_27 : decode cX4_duchy 27 = .ok (.if_icmp .ne 64, 3) := by decide +kernel
theorem dX4_duchy_30 : decode cX4_duchy 30 = .ok (.aload_n 0, 1) := by decide +kernel
theorem dX4_duchy_31 : decode cX4_duchy 31 = .ok (.getfield 78, 3) := by decide +kernel
theorem dX4_duchy_34 : decode cX4_duchy 34 = .ok (.iconst 3, 1) := by decide +kernel
theorem dX4_duchy_35 : decode cX4_duchy 35 = .ok (.if_icmp .eq 56, 3) := by decide +kernel
theorem dX4_duchy_38 : decode cX4_duchy 38 = .ok (.aload_n 0, 1) := by decide +kernel
theorem dX4_duchy_39 : decode cX4_duchy 39 = .ok (.getfield 78, 3) := by decide +kernel
theorem dX4_duchy_42 : decode cX4_duchy 42 = .ok (.istore_n 2, 1) := by decide +kernel
theorem dX4_duchy_43 : decode cX4_duchy 43 = .ok (.aload_n 0, 1) := by decide +kernel
theorem dX4_duchy_44 : decode cX4_duchy 44 = .ok (.aload_n 0, 1) := by decide +kernel
theorem dX4_duchy_45 : decode cX4_duchy 45 = .ok (.iload_n 2, 1) := by decide +kernel
theorem dX4_duchy_46 : decode cX4_duchy 46 = .ok (.invokevirtual 105, 3) := by decide +kernel
theorem dX4_duchy_49 : decode cX4_duchy 49 = .ok (.invokevirtual 87, 3) := by decide +kernel
theorem dX4_duchy_52 : decode cX4_duchy 52 = .ok (.pop, 1) := by decide +kernel
theorem dX4_duchy_53 : decode cX4_duchy 53 = .ok (.aload_n 0, 1) := by decide +kernel
theorem dX4_duchy_54 : decode cX4_duchy 54 = .ok (.getfield 81, 3) := by decide +kernel
theorem dX4_duchy_57 : decode cX4_duchy 57 = .ok (.bipush (-9), 2) := by decide +kernel
theorem dX4_duchy_59 : decode cX4_duchy 59 = .ok (.if_icmp .ne 29, 3) := by decide +kernel
theorem dX4_duchy_62 : decode cX4_duchy 62 = .ok (.aload_n 0, 1) := by decide +kernel
theorem dX4_duchy_63 : decode cX4_duchy 63 = .ok (.iload_n 2, 1) := by decide +kernel
theorem dX4_duchy_64 : decode cX4_duchy 64 = .ok (.invokevirtual 109, 3) := by decide +kernel
theorem dX4_duchy_67 : decode cX4_duchy 67 = .ok (.aload_n 0, 1) := by decide +kernel
theorem dX4_duchy_68 : decode cX4_duchy 68 = .ok (.aload_n 0, 1) := by decide +kernel
theorem dX4_duchy_69 : decode cX4_duchy 69 = .ok (.getfield 78, 3) := by decide +kernel
theorem dX4_duchy_72 : decode cX4_duchy 72 = .ok (.iconst 2, 1) := by decide +kernel
theorem dX4_duchy_73 : decode cX4_duchy 73 = .ok (.if_icmp .ne 7, 3) := by decide +kernel
theorem dX4_duchy_76 : decode cX4_duchy 76 = .ok (.iconst 1, 1) := by decide +kernel
theorem dX4_duchy_77 : decode cX4_duchy 77 = .ok (.goto 4, 3) := by decide +kernel
theorem dX4_duchy_80 : decode cX4_duchy 80 = .ok (.iconst 0, 1) := by decide +kernel
theorem dX4_duchy_81 : decode cX4_duchy 81 = .ok (.invokevirtual 87, 3) := by decide +kernel
theorem dX4_duchy_84 : decode cX4_duchy 84 = .ok (.pop, 1) := by decide +kernel
theorem dX4_duchy_85 : decode cX4_duchy 85 = .ok (.iinc 1 1, 3) := by decide +kernel
theorem dX4_duchy_88 : decode cX4_duchy 88 = .ok (.goto (-67), 3) := by decide +kernel
theorem dX4_duchy_91 : decode cX4_duchy 91 = .ok (.aload_n 0, 1) := by decide +kernel
theorem dX4_duchy_92 : decode cX4_duchy 92 = .ok (.getfield 81, 3) := by decide +kernel
theorem dX4_duchy_95 : decode cX4_duchy 95 = .ok (.bipush (-9), 2) := by decide +kernel
theorem dX4_duchy_97 : decode cX4_duchy 97 = .ok (.if_icmp .eq 11, 3) := by decide +kernel
theorem dX4_duchy_100 : decode cX4_duchy 100 = .ok (.bipush (-10), 2) := by decide +kernel
theorem dX4_duchy_102 : decode cX4_duchy 102 = .ok (.aload_n 0, 1) := by decide +kernel
theorem dX4_duchy_103 : decode cX4_duchy 103 = .ok (.getfield 81, 3) := by decide +kernel
theorem dX4_duchy_106 : decode cX4_duchy 106 = .ok (.isub, 1) := by decide +kernel
theorem dX4_duchy_107 : decode cX4_duchy 107 = .ok (.ireturn, 1) := by decide +kernel
theorem dX4_duchy_108 : decode cX4_duchy 108 = .ok (.aload_n 0, 1) := by decide +kernel
theorem dX4_duchy_109 : decode cX4_duchy 109 = .ok (.invokevirtual 54, 3) := by decide +kernel
theorem dX4_duchy_112 : decode cX4_duchy 112 = .ok (.aload_n 0, 1) := by decide +kernel
theorem dX4_duchy_113 : decode cX4_duchy 113 = .ok (.iconst 0, 1) := by decide +kernel
theorem dX4_duchy_114 : decode cX4_duchy 114 = .ok (.putfield 61, 3) := by decide +kernel
theorem dX4_duchy_117 : decode cX4_duchy 117 = .ok (.iload_n 1, 1) := by decide +kernel
theorem dX4_duchy_118 : decode cX4_duchy 118 = .ok (.ireturn, 1) := by decide +kernel
theorem dX4_isSaying_0 : decode cX4_isSaying 0 = .ok (.iload_n 1, 1) := by decide +kernel
theorem dX4_isSaying_1 : decode cX4_isSaying 1 = .ok (.iconst 0, 1) := by decide +kernel
theorem dX4_isSaying_2 : decode cX4_isSaying 2 = .ok (.aload_n 0, 1) := by decide +kernel
theorem dX4_isSaying_3 : decode cX4_isSaying 3 = .ok (.getfield 13, 3) := by decide +kernel
theorem dX4_isSaying_6 : decode cX4_isSaying 6 = .ok (.iconst 0, 1) := by decide +kernel
theorem dX4_isSaying_7 : decode cX4_isSaying 7 = .ok (.iaload, 1) := by decide +kernel
theorem dX4_isSaying_8 : decode cX4_isSaying 8 = .ok (.iconst 1, 1) := by decide +kernel
theorem dX4_isSaying_9 : decode cX4_isSaying 9 = .ok (.isub, 1) := by decide +kernel
theorem dX4_isSaying_10 : decode cX4_isSaying 10 = .ok (.invokestatic 57, 3) := by decide +kernel
theorem dX4_isSaying_13 : decode cX4_isSaying 13 = .ok (.ireturn, 1) := by decide +kernel
theorem dX4_isPerson_0 : decode cX4_isPerson 0 = .ok (.iload_n 1, 1) := by decide +kernel
theorem dX4_isPerson_1 : decode cX4_isPerson 1 = .ok (.iconst 0, 1) := by decide +kernel
theorem dX4_isPerson_2 : decode cX4_isPerson 2 = .ok (.aload_n 0, 1) := by decide +kernel
theorem dX4_isPerson_3 : decode cX4_isPerson 3 = .ok (.getfield 26, 3) := by decide +kernel
theorem dX4_isPerson_6 : decode cX4_isPerson 6 = .ok (.iconst 0, 1) := by decide +kernel
theorem dX4_isPerson_7 : decode cX4_isPerson 7 = .ok (.iaload, 1) := by decide +kernel
theorem dX4_isPerson_8 : decode cX4_isPerson 8 = .ok (.iconst 1, 1) := by decide +kernel
theorem dX4_isPerson_9 : decode cX4_isPerson 9 = .ok (.isub, 1) := by decide +kernel
theorem dX4_isPerson_10 : decode cX4_isPerson 10 = .ok (.invokestatic 57, 3) := by decide +kernel
theorem dX4_isPerson_13 : decode cX4_isPerson 13 = .ok (.ireturn, 1) := by decide +kernel
theorem dX4_isSound_0 : decode cX4_isSound 0 = .ok (.aload_n 0, 1) := by decide +kernel
theorem dX4_isSound_1 : decode cX4_isSound 1 = .ok (.getfield 23, 3) := by decide +kernel
theorem dX4_isSound_4 : decode cX4_isSound 4 = .ok (.iconst 0, 1) := by decide +kernel
theorem dX4_isSound_5 : decode cX4_isSound 5 = .ok (.iaload, 1) := by decide +kernel
theorem dX4_isSound_6 : decode cX4_isSound 6 = .ok (.iload_n 1, 1) := by decide +kernel
theorem dX4_isSound_7 : decode cX4_isSound 7 = .ok (.ishr, 1) := by decide +kernel
theorem dX4_isSound_8 : decode cX4_isSound 8 = .ok (.iconst 1, 1) := by decide +kernel
theorem dX4_isSound_9 : decode cX4_isSound 9 = .ok (.iand, 1) := by decide +kernel
theorem dX4_isSound_10 : decode cX4_isSound 10 = .ok (.iconst 1, 1) := by decide +kernel
theorem dX4_isSound_11 : decode cX4_isSound 11 = .ok (.if_icmp .ne 7, 3) := by decide +kernel
theorem dX4_isSound_14 : decode cX4_isSound 14 = .ok (.iconst 1, 1) := by decide +kernel
theorem dX4_isSound_15 : decode cX4_isSound 15 = .ok (.goto 4, 3) := by decide +kernel
theorem dX4_isSound_18 : decode cX4_isSound 18 = .ok (.iconst 0, 1) := by decide +kernel
theorem dX4_isSound_19 : decode cX4_isSound 19 = .ok (.ireturn, 1) := by decide +kernel
theorem dX4_manyOf_0 : decode cX4_manyOf 0 = .ok (.iconst 0, 1) := by decide +kernel
theorem dX4_manyOf_1 : decode cX4_manyOf 1 = .ok (.istore_n 1, 1) := by decide +kernel
theorem dX4_manyOf_2 : decode cX4_manyOf 2 = .ok (.iconst 0, 1) := by decide +kernel
theorem dX4_manyOf_3 : decode cX4_manyOf 3 = .ok (.istore_n 2, 1) := by decide +kernel
theorem dX4_manyOf_4 : decode cX4_manyOf 4 = .ok (.iload_n 2, 1) := by decide +kernel
theorem dX4_manyOf_5 : decode cX4_manyOf 5 = .ok (.bipush 8, 2) := by decide +kernel
theorem dX4_manyOf_7 : decode cX4_manyOf 7 = .ok (.if_icmp .ge 17, 3) := by decide +kernel
theorem dX4_manyOf_10 : decode cX4_manyOf 10 = .ok (.iload_n 1, 1) := by decide +kernel
theorem dX4_manyOf_11 : decode cX4_manyOf 11 = .ok (.iload_n 0, 1) := by decide +kernel
theorem dX4_manyOf_12 : decode cX4_manyOf 12 = .ok (.iload_n 2, 1) := by decide +kernel
theorem dX4_manyOf_13 : decode cX4_manyOf 13 = .ok (.ishr, 1) := by decide +kernel
theorem dX4_manyOf_14 : decode cX4_manyOf 14 = .ok (.iconst 1, 1) := by decide +kernel
theorem dX4_manyOf_15 : decode cX4_manyOf 15 = .ok (.iand, 1) := by decide +kernel
theorem dX4_manyOf_16 : decode cX4_manyOf 16 = .ok (.iadd, 1) := by decide +kernel
theorem dX4_manyOf_17 : decode cX4_manyOf 17 = .ok (.istore_n 1, 1) := by decide +kernel
theorem dX4_manyOf_18 : decode cX4_manyOf 18 = .ok (.iinc 2 1, 3) := by decide +kernel
end
section
theorem dX4_manyOf_21 : decode cX4_manyOf 21 = .ok (.goto (-17), 3) := by decide +kernel
theorem dX4_manyOf_24 : decode cX4_manyOf 24 = .ok (.iload_n 1, 1) := by decide +kernel
theorem dX4_manyOf_25 : decode cX4_manyOf 25 = .ok (.ireturn, 1) := by decide +kernel
theorem dX4_isThere_0 : decode cX4_isThere 0 = .ok (.iload_n 2, 1) := by decide +kernel
theorem dX4_isThere_1 : decode cX4_isThere 1 = .ok (.aload_n 0, 1) := by decide +kernel
theorem dX4_isThere_2 : decode cX4_isThere 2 = .ok (.getfield 35, 3) := by decide +kernel
theorem dX4_isThere_5 : decode cX4_isThere 5 = .ok (.bipush 30, 2) := by decide +kernel
theorem dX4_isThere_7 : decode cX4_isThere 7 = .ok (.iload_n 1, 1) := by decide +kernel
theorem dX4_isThere_8 : decode cX4_isThere 8 = .ok (.iadd, 1) := by decide +kernel
theorem dX4_isThere_9 : decode cX4_isThere 9 = .ok (.iaload, 1) := by decide +kernel
theorem dX4_isThere_10 : decode cX4_isThere 10 = .ok (.isub, 1) := by decide +kernel
theorem dX4_isThere_11 : decode cX4_isThere 11 = .ok (.aload_n 0, 1) := by decide +kernel
theorem dX4_isThere_12 : decode cX4_isThere 12 = .ok (.getfield 32, 3) := by decide +kernel
theorem dX4_isThere_15 : decode cX4_isThere 15 = .ok (.iconst 0, 1) := by decide +kernel
theorem dX4_isThere_16 : decode cX4_isThere 16 = .ok (.iaload, 1) := by decide +kernel
theorem dX4_isThere_17 : decode cX4_isThere 17 = .ok (.if_icmp .gt 7, 3) := by decide +kernel
theorem dX4_isThere_20 : decode cX4_isThere 20 = .ok (.iconst 1, 1) := by decide +kernel
theorem dX4_isThere_21 : decode cX4_isThere 21 = .ok (.goto 4, 3) := by decide +kernel
theorem dX4_isThere_24 : decode cX4_isThere 24 = .ok (.iconst 0, 1) := by decide +kernel
theorem dX4_isThere_25 : decode cX4_isThere 25 = .ok (.ireturn, 1) := by decide +kernel
theorem dX4_there_0 : decode cX4_there 0 = .ok (.iconst 0, 1) := by decide +kernel
theorem dX4_there_1 : decode cX4_there 1 = .ok (.istore_n 2, 1) := by decide +kernel
theorem dX4_there_2 : decode cX4_there 2 = .ok (.iconst 0, 1) := by decide +kernel
theorem dX4_there_3 : decode cX4_there 3 = .ok (.istore_n 3, 1) := by decide +kernel
theorem dX4_there_4 : decode cX4_there 4 = .ok (.iload_n 3, 1) := by decide +kernel
theorem dX4_there_5 : decode cX4_there 5 = .ok (.aload_n 0, 1) := by decide +kernel
theorem dX4_there_6 : decode cX4_there 6 = .ok (.getfield 35, 3) := by decide +kernel
theorem dX4_there_9 : decode cX4_there 9 = .ok (.bipush 120, 2) := by decide +kernel
theorem dX4_there_11 : decode cX4_there 11 = .ok (.iaload, 1) := by decide +kernel
theorem dX4_there_12 : decode cX4_there 12 = .ok (.if_icmp .ge 35, 3) := by decide +kernel
theorem dX4_there_15 : decode cX4_there 15 = .ok (.iload_n 2, 1) := by decide +kernel
theorem dX4_there_16 : decode cX4_there 16 = .ok (.aload_n 0, 1) := by decide +kernel
theorem dX4_there_17 : decode cX4_there 17 = .ok (.iload_n 3, 1) := by decide +kernel
theorem dX4_there_18 : decode cX4_there 18 = .ok (.iload_n 1, 1) := by decide +kernel
theorem dX4_there_19 : decode cX4_there 19 = .ok (.invokevirtual 113, 3) := by decide +kernel
theorem dX4_there_22 : decode cX4_there 22 = .ok (.ifCond .eq 16, 3) := by decide +kernel
theorem dX4_there_25 : decode cX4_there 25 = .ok (.iconst 1, 1) := by decide +kernel
theorem dX4_there_26 : decode cX4_there 26 = .ok (.aload_n 0, 1) := by decide +kernel
theorem dX4_there_27 : decode cX4_there 27 = .ok (.getfield 35, 3) := by decide +kernel
theorem dX4_there_30 : decode cX4_there 30 = .ok (.iconst 0, 1) := by decide +kernel
theorem dX4_there_31 : decode cX4_there 31 = .ok (.iload_n 3, 1) := by decide +kernel
theorem dX4_there_32 : decode cX4_there 32 = .ok (.iadd, 1) := by decide +kernel
theorem dX4_there_33 : decode cX4_there 33 = .ok (.iaload, 1) := by decide +kernel
theorem dX4_there_34 : decode cX4_there 34 = .ok (.ishl, 1) := by decide +kernel
theorem dX4_there_35 : decode cX4_there 35 = .ok (.goto 4, 3) := by decide +kernel
theorem dX4_there_38 : decode cX4_there 38 = .ok (.iconst 0, 1) := by decide +kernel
theorem dX4_there_39 : decode cX4_there 39 = .ok (.ior, 1) := by decide +kernel
theorem dX4_there_40 : decode cX4_there 40 = .ok (.istore_n 2, 1) := by decide +kernel
theorem dX4_there_41 : decode cX4_there 41 = .ok (.iinc 3 1, 3) := by decide +kernel
theorem dX4_there_44 : decode cX4_there 44 = .ok (.goto (-40), 3) := by decide +kernel
theorem dX4_there_47 : decode cX4_there 47 = .ok (.iload_n 2, 1) := by decide +kernel
theorem dX4_there_48 : decode cX4_there 48 = .ok (.ireturn, 1) := by decide +kernel
theorem dX4_knownBy_0 : decode cX4_knownBy 0 = .ok (.iconst 0, 1) := by decide +kernel
theorem dX4_knownBy_1 : decode cX4_knownBy 1 = .ok (.istore_n 2, 1) := by decide +kernel
theorem dX4_knownBy_2 : decode cX4_knownBy 2 = .ok (.iconst 0, 1) := by decide +kernel
theorem dX4_knownBy_3 : decode cX4_knownBy 3 = .ok (.istore_n 3, 1) := by decide +kernel
theorem dX4_knownBy_4 : decode cX4_knownBy 4 = .ok (.iload_n 3, 1) := by decide +kernel
theorem dX4_knownBy_5 : decode cX4_knownBy 5 = .ok (.aload_n 0, 1) := by decide +kernel
theorem dX4_knownBy_6 : decode cX4_knownBy 6 = .ok (.getfield 26, 3) := by decide +kernel
theorem dX4_knownBy_9 : decode cX4_knownBy 9 = .ok (.iconst 0, 1) := by decide +kernel
theorem dX4_knownBy_10 : decode cX4_knownBy 10 = .ok (.iaload, 1) := by decide +kernel
theorem dX4_knownBy_11 : decode cX4_knownBy 11 = .ok (.if_icmp .ge 24, 3) := by decide +kernel
theorem dX4_knownBy_14 : decode cX4_knownBy 14 = .ok (.iload_n 2, 1) := by decide +kernel
theorem dX4_knownBy_15 : decode cX4_knownBy 15 = .ok (.aload_n 0, 1) := by decide +kernel
theorem dX4_knownBy_16 : decode cX4_knownBy 16 = .ok (.getfield 29, 3) := by decide +kernel
theorem dX4_knownBy_19 : decode cX4_knownBy 19 = .ok (.iload_n 3, 1) := by decide +kernel
theorem dX4_knownBy_20 : decode cX4_knownBy 20 = .ok (.iaload, 1) := by decide +kernel
theorem dX4_knownBy_21 : decode cX4_knownBy 21 = .ok (.iload_n 1, 1) := by decide +kernel
theorem dX4_knownBy_22 : decode cX4_knownBy 22 = .ok (.ishr, 1) := by decide +kernel
theorem dX4_knownBy_23 : decode cX4_knownBy 23 = .ok (.iconst 1, 1) := by decide +kernel
theorem dX4_knownBy_24 : decode cX4_knownBy 24 = .ok (.iand, 1) := by decide +kernel
theorem dX4_knownBy_25 : decode cX4_knownBy 25 = .ok (.iload_n 3, 1) := by decide +kernel
theorem dX4_knownBy_26 : decode cX4_knownBy 26 = .ok (.ishl, 1) := by decide +kernel
theorem dX4_knownBy_27 : decode cX4_knownBy 27 = .ok (.ior, 1) := by decide +kernel
theorem dX4_knownBy_28 : decode cX4_knownBy 28 = .ok (.istore_n 2, 1) := by decide +kernel
theorem dX4_knownBy_29 : decode cX4_knownBy 29 = .ok (.iinc 3 1, 3) := by decide +kernel
theorem dX4_knownBy_32 : decode cX4_knownBy 32 = .ok (.goto (-28), 3) := by decide +kernel
theorem dX4_knownBy_35 : decode cX4_knownBy 35 = .ok (.iload_n 2, 1) := by decide +kernel
theorem dX4_knownBy_36 : decode cX4_knownBy 36 = .ok (.ireturn, 1) := by decide +kernel
theorem dX4_oftenOf_0 : decode cX4_oftenOf 0 = .ok (.iconst 0, 1) := by decide +kernel
theorem dX4_oftenOf_1 : decode cX4_oftenOf 1 = .ok (.istore_n 2, 1) := by decide +kernel
theorem dX4_oftenOf_2 : decode cX4_oftenOf 2 = .ok (.iconst 0, 1) := by decide +kernel
theorem dX4_oftenOf_3 : decode cX4_oftenOf 3 = .ok (.istore_n 3, 1) := by decide +kernel
theorem dX4_oftenOf_4 : decode cX4_oftenOf 4 = .ok (.iload_n 3, 1) := by decide +kernel
theorem dX4_oftenOf_5 : decode cX4_oftenOf 5 = .ok (.aload_n 0, 1) := by decide +kernel
theorem dX4_oftenOf_6 : decode cX4_oftenOf 6 = .ok (.getfield 35, 3) := by decide +kernel
theorem dX4_oftenOf_9 : decode cX4_oftenOf 9 = .ok (.bipush 120, 2) := by decide +kernel
theorem dX4_oftenOf_11 : decode cX4_oftenOf 11 = .ok (.iaload, 1) := by decide +kernel
theorem dX4_oftenOf_12 : decode cX4_oftenOf 12 = .ok (.if_icmp .ge 29, 3) := by decide +kernel
theorem dX4_oftenOf_15 : decode cX4_oftenOf 15 = .ok (.iload_n 2, 1) := by decide +kernel
theorem dX4_oftenOf_16 : decode cX4_oftenOf 16 = .ok (.aload_n 0, 1) := by decide +kernel
theorem dX4_oftenOf_17 : decode cX4_oftenOf 17 = .ok (.getfield 35, 3) := by decide +kernel
theorem dX4_oftenOf_20 : decode cX4_oftenOf 20 = .ok (.iconst 0, 1) := by decide +kernel
theorem dX4_oftenOf_21 : decode cX4_oftenOf 21 = .ok (.iload_n 3, 1) := by decide +kernel
theorem dX4_oftenOf_22 : decode cX4_oftenOf 22 = .ok (.iadd, 1) := by decide +kernel
theorem dX4_oftenOf_23 : decode cX4_oftenOf 23 = .ok (.iaload, 1) := by decide +kernel
theorem dX4_oftenOf_24 : decode cX4_oftenOf 24 = .ok (.iload_n 1, 1) := by decide +kernel
theorem dX4_oftenOf_25 : decode cX4_oftenOf 25 = .ok (.if_icmp .ne 7, 3) := by decide +kernel
theorem dX4_oftenOf_28 : decode cX4_oftenOf 28 = .ok (.iconst 1, 1) := by decide +kernel
theorem dX4_oftenOf_29 : decode cX4_oftenOf 29 = .ok (.goto 4, 3) := by decide +kernel
theorem dX4_oftenOf_32 : decode cX4_oftenOf 32 = .ok (.iconst 0, 1) := by decide +kernel
theorem dX4_oftenOf_33 : decode cX4_oftenOf 33 = .ok (.iadd, 1) := by decide +kernel
theorem dX4_oftenOf_34 : decode cX4_oftenOf 34 = .ok (.istore_n 2, 1) := by decide +kernel
theorem dX4_oftenOf_35 : decode cX4_oftenOf 35 = .ok (.iinc 3 1, 3) := by decide +kernel
theorem dX4_oftenOf_38 : decode cX4_oftenOf 38 = .ok (.goto (-34), 3) := by decide +kernel
theorem dX4_oftenOf_41 : decode cX4_oftenOf 41 = .ok (.iload_n 2, 1) := by decide +kernel
theorem dX4_oftenOf_42 : decode cX4_oftenOf 42 = .ok (.ireturn, 1) := by decide +kernel
theorem dX4_saying_0 : decode cX4_saying 0 = .ok (.aload_n 0, 1) := by decide +kernel
theorem dX4_saying_1 : decode cX4_saying 1 = .ok (.iload_n 1, 1) := by decide +kernel
theorem dX4_saying_2 : decode cX4_saying 2 = .ok (.invokevirtual 117, 3) := by decide +kernel
theorem dX4_saying_5 : decode cX4_saying 5 = .ok (.ifCond .ne 5, 3) := by decide +kernel
theorem dX4_saying_8 : decode cX4_saying 8 = .ok (.iconst (-1), 1) := by decide +kernel
theorem dX4_saying_9 : decode cX4_saying 9 = .ok (.ireturn, 1) := by decide +kernel
theorem dX4_saying_10 : decode cX4_saying 10 = .ok (.iload_n 2, 1) := by decide +kernel
theorem dX4_saying_11 : decode cX4_saying 11 = .ok (.tableswitch 73 0 4 #[33, 47, 54, 61, 67], 33) := by decide +kernel
theorem dX4_saying_44 : decode cX4_saying 44 = .ok (.aload_n 0, 1) := by decide +kernel
theorem dX4_saying_45 : decode cX4_saying 45 = .ok (.iload_n 1, 1) := by decide +kernel
theorem dX4_saying_46 : decode cX4_saying 46 = .ok (.invokevirtual 120, 3) := by decide +kernel
theorem dX4_saying_49 : decode cX4_saying 49 = .ok (.ifCond .eq 7, 3) := by decide +kernel
theorem dX4_saying_52 : decode cX4_saying 52 = .ok (.iconst 1, 1) := by decide +kernel
theorem dX4_saying_53 : decode cX4_saying 53 = .ok (.goto 4, 3) := by decide +kernel
theorem dX4_saying_56 : decode cX4_saying 56 = .ok (.iconst 0, 1) := by decide +kernel
theorem dX4_saying_57 : decode cX4_saying 57 = .ok (.ireturn, 1) := by decide +kernel
theorem dX4_saying_58 : decode cX4_saying 58 = .ok (.aload_n 0, 1) := by decide +kernel
theorem dX4_saying_59 : decode cX4_saying 59 = .ok (.getfield 17, 3) := by decide +kernel
theorem dX4_saying_62 : decode cX4_saying 62 = .ok (.iload_n 1, 1) := by decide +kernel
theorem dX4_saying_63 : decode cX4_saying 63 = .ok (.iaload, 1) := by decide +kernel
theorem dX4_saying_64 : decode cX4_saying 64 = .ok (.ireturn, 1) := by decide +kernel
theorem dX4_saying_65 : decode cX4_saying 65 = .ok (.aload_n 0, 1) := by decide +kernel
theorem dX4_saying_66 : decode cX4_saying 66 = .ok (.getfield 20, 3) := by decide +kernel
theorem dX4_saying_69 : decode cX4_saying 69 = .ok (.iload_n 1, 1) := by decide +kernel
theorem dX4_saying_70 : decode cX4_saying 70 = .ok (.iaload, 1) := by decide +kernel
theorem dX4_saying_71 : decode cX4_saying 71 = .ok (.ireturn, 1) := by decide +kernel
theorem dX4_saying_72 : decode cX4_saying 72 = .ok (.aload_n 0, 1) := by decide +kernel
theorem dX4_saying_73 : decode cX4_saying 73 = .ok (.iload_n 1, 1) := by decide +kernel
theorem dX4_saying_74 : decode cX4_saying 74 = .ok (.invokevirtual 123, 3) := by decide +kernel
theorem dX4_saying_77 : decode cX4_saying 77 = .ok (.ireturn, 1) := by decide +kernel
theorem dX4_saying_78 : decode cX4_saying 78 = .ok (.aload_n 0, 1) := by decide +kernel
theorem dX4_saying_79 : decode cX4_saying 79 = .ok (.iload_n 1, 1) := by decide +kernel
theorem dX4_saying_80 : decode cX4_saying 80 = .ok (.invokevirtual 127, 3) := by decide +kernel
theorem dX4_saying_83 : decode cX4_saying 83 = .ok (.ireturn, 1) := by decide +kernel
theorem dX4_saying_84 : decode cX4_saying 84 = .ok (.iconst (-1), 1) := by decide +kernel
theorem dX4_saying_85 : decode cX4_saying 85 = .ok (.ireturn, 1) := by decide +kernel
theorem dX4_mayOf_0 : decode cX4_mayOf 0 = .ok (.iconst 0, 1) := by decide +kernel
theorem dX4_mayOf_1 : decode cX4_mayOf 1 = .ok (.istore_n 3, 1) := by decide +kernel
theorem dX4_mayOf_2 : decode cX4_mayOf 2 = .ok (.iconst 0, 1) := by decide +kernel
theorem dX4_mayOf_3 : decode cX4_mayOf 3 = .ok (.istore 4, 2) := by decide +kernel
theorem dX4_mayOf_5 : decode cX4_mayOf 5 = .ok (.iload 4, 2) := by decide +kernel
theorem dX4_mayOf_7 : decode cX4_mayOf 7 = .ok (.aload_n 0, 1) := by decide +kernel
theorem dX4_mayOf_8 : decode cX4_mayOf 8 = .ok (.getfield 13, 3) := by decide +kernel
theorem dX4_mayOf_11 : decode cX4_mayOf 11 = .ok (.iconst 0, 1) := by decide +kernel
theorem dX4_mayOf_12 : decode cX4_mayOf 12 = .ok (.iaload, 1) := by decide +kernel
theorem dX4_mayOf_13 : decode cX4_mayOf 13 = .ok (.if_icmp .ge 56, 3) := by decide +kernel
theorem dX4_mayOf_16 : decode cX4_mayOf 16 = .ok (.iload_n 3, 1) := by decide +kernel
theorem dX4_mayOf_17 : decode cX4_mayOf 17 = .ok (.aload_n 0, 1) := by decide +kernel
theorem dX4_mayOf_18 : decode cX4_mayOf 18 = .ok (.getfield 29, 3) := by decide +kernel
theorem dX4_mayOf_21 : decode cX4_mayOf 21 = .ok (.iload_n 1, 1) := by decide +kernel
theorem dX4_mayOf_22 : decode cX4_mayOf 22 = .ok (.iaload, 1) := by decide +kernel
theorem dX4_mayOf_23 : decode cX4_mayOf 23 = .ok (.iload 4, 2) := by decide +kernel
theorem dX4_mayOf_25 : decode cX4_mayOf 25 = .ok (.ishr, 1) := by decide +kernel
theorem dX4_mayOf_26 : decode cX4_mayOf 26 = .ok (.iconst 1, 1) := by decide +kernel
theorem dX4_mayOf_27 : decode cX4_mayOf 27 = .ok (.iand, 1) := by decide +kernel
theorem dX4_mayOf_28 : decode cX4_mayOf 28 = .ok (.iconst 1, 1) := by decide +kernel
theorem dX4_mayOf_29 : decode cX4_mayOf 29 = .ok (.if_icmp .ne 31, 3) := by decide +kernel
theorem dX4_mayOf_32 : decode cX4_mayOf 32 = .ok (.aload_n 0, 1) := by decide +kernel
theorem dX4_mayOf_33 : decode cX4_mayOf 33 = .ok (.iload 4, 2) := by decide +kernel
theorem dX4_mayOf_35 : decode cX4_mayOf 35 = .ok (.invokevirtual 120, 3) := by decide +kernel
theorem dX4_mayOf_38 : decode cX4_mayOf 38 = .ok (.ifCond .ne 22, 3) := by decide +kernel
theorem dX4_mayOf_41 : decode cX4_mayOf 41 = .ok (.aload_n 0, 1) := by decide +kernel
theorem dX4_mayOf_42 : decode cX4_mayOf 42 = .ok (.getfield 20, 3) := by decide +kernel
theorem dX4_mayOf_45 : decode cX4_mayOf 45 = .ok (.iload 4, 2) := by decide +kernel
theorem dX4_mayOf_47 : decode cX4_mayOf 47 = .ok (.iaload, 1) := by decide +kernel
theorem dX4_mayOf_48 : decode cX4_mayOf 48 = .ok (.iload_n 2, 1) := by decide +kernel
theorem dX4_mayOf_49 : decode cX4_mayOf 49 = .ok (.iand, 1) := by decide +kernel
theorem dX4_mayOf_50 : decode cX4_mayOf 50 = .ok (.ifCond .eq 10, 3) := by decide +kernel
theorem dX4_mayOf_53 : decode cX4_mayOf 53 = .ok (.iconst 1, 1) := by decide +kernel
theorem dX4_mayOf_54 : decode cX4_mayOf 54 = .ok (.iload 4, 2) := by decide +kernel
theorem dX4_mayOf_56 : decode cX4_mayOf 56 = .ok (.ishl, 1) := by decide +kernel
theorem dX4_mayOf_57 : decode cX4_mayOf 57 = .ok (.goto 4, 3) := by decide +kernel
theorem dX4_mayOf_60 : decode cX4_mayOf 60 = .ok (.iconst 0, 1) := by decide +kernel
theorem dX4_mayOf_61 : decode cX4_mayOf 61 = .ok (.ior, 1) := by decide +kernel
theorem dX4_mayOf_62 : decode cX4_mayOf 62 = .ok (.istore_n 3, 1) := by decide +kernel
theorem dX4_mayOf_63 : decode cX4_mayOf 63 = .ok (.iinc 4 1, 3) := by decide +kernel
theorem dX4_mayOf_66 : decode cX4_mayOf 66 = .ok (.goto (-61), 3) := by decide +kernel
theorem dX4_mayOf_69 : decode cX4_mayOf 69 = .ok (.iload_n 3, 1) := by decide +kernel
theorem dX4_mayOf_70 : decode cX4_mayOf 70 = .ok (.ireturn, 1) := by decide +kernel
theorem dX4_person_0 : decode cX4_person 0 = .ok (.aload_n 0, 1) := by decide +kernel
theorem dX4_person_1 : decode cX4_person 1 = .ok (.iload_n 1, 1) := by decide +kernel
theorem dX4_person_2 : decode cX4_person 2 = .ok (.invokevirtual 130, 3) := by decide +kernel
theorem dX4_person_5 : decode cX4_person 5 = .ok (.ifCond .eq 12, 3) := by decide +kernel
theorem dX4_person_8 : decode cX4_person 8 = .ok (.iload_n 2, 1) := by decide +kernel
theorem dX4_person_9 : decode cX4_person 9 = .ok (.iconst 0, 1) := by decide +kernel
theorem dX4_person_10 : decode cX4_person 10 = .ok (.iconst 2, 1) := by decide +kernel
theorem dX4_person_11 : decode cX4_person 11 = .ok (.invokestatic 57, 3) := by decide +kernel
theorem dX4_person_14 : decode cX4_person 14 = .ok (.ifCond .ne 5, 3) := by decide +kernel
theorem dX4_person_17 : decode cX4_person 17 = .ok (.iconst (-1), 1) := by decide +kernel
theorem dX4_person_18 : decode cX4_person 18 = .ok (.ireturn, 1) := by decide +kernel
theorem dX4_person_19 : decode cX4_person 19 = .ok (.iconst 0, 1) := by decide +kernel
theorem dX4_person_20 : decode cX4_person 20 = .ok (.istore_n 3, 1) := by decide +kernel
theorem dX4_person_21 : decode cX4_person 21 = .ok (.iconst 0, 1) := by decide +kernel
theorem dX4_person_22 : decode cX4_person 22 = .ok (.istore 4, 2) := by decide +kernel
theorem dX4_person_24 : decode cX4_person 24 = .ok (.iload 4, 2) := by decide +kernel
theorem dX4_person_26 : decode cX4_person 26 = .ok (.aload_n 0, 1) := by decide +kernel
theorem dX4_person_27 : decode cX4_person 27 = .ok (.getfield 35, 3) := by decide +kernel
theorem dX4_person_30 : decode cX4_person 30 = .ok (.bipush 120, 2) := by decide +kernel
theorem dX4_person_32 : decode cX4_person 32 = .ok (.iaload, 1) := by decide +kernel
theorem dX4_person_33 : decode cX4_person 33 = .ok (.if_icmp .ge 31, 3) := by decide +kernel
theorem dX4_person_36 : decode cX4_person 36 = .ok (.iload_n 3, 1) := by decide +kernel
theorem dX4_person_37 : decode cX4_person 37 = .ok (.aload_n 0, 1) := by decide +kernel
theorem dX4_person_38 : decode cX4_person 38 = .ok (.getfield 35, 3) := by decide +kernel
theorem dX4_person_41 : decode cX4_person 41 = .ok (.bipush 60, 2) := by decide +kernel
theorem dX4_person_43 : decode cX4_person 43 = .ok (.iload 4, 2) := by decide +kernel
theorem dX4_person_45 : decode cX4_person 45 = .ok (.iadd, 1) := by decide +kernel
theorem dX4_person_46 : decode cX4_person 46 = .ok (.iaload, 1) := by decide +kernel
theorem dX4_person_47 : decode cX4_person 47 = .ok (.iload_n 1, 1) := by decide +kernel
theorem dX4_person_48 : decode cX4_person 48 = .ok (.if_icmp .ne 7, 3) := by decide +kernel
theorem dX4_person_51 : decode cX4_person 51 = .ok (.iconst 1, 1) := by decide +kernel
theorem dX4_person_52 : decode cX4_person 52 = .ok (.goto 4, 3) := by decide +kernel
theorem dX4_person_55 : decode cX4_person 55 = .ok (.iconst 0, 1) := by decide +kernel
theorem dX4_person_56 : decode cX4_person 56 = .ok (.iadd, 1) := by decide +kernel
theorem dX4_person_57 : decode cX4_person 57 = .ok (.istore_n 3, 1) := by decide +kernel
theorem dX4_person_58 : decode cX4_person 58 = .ok (.iinc 4 1, 3) := by decide +kernel
theorem dX4_person_61 : decode cX4_person 61 = .ok (.goto (-37), 3) := by decide +kernel
theorem dX4_person_64 : decode cX4_person 64 = .ok (.iload_n 2, 1) := by decide +kernel
theorem dX4_person_65 : decode cX4_person 65 = .ok (.ifCond .ne 12, 3) := by decide +kernel
theorem dX4_person_68 : decode cX4_person 68 = .ok (.aload_n 0, 1) := by decide +kernel
theorem dX4_person_69 : decode cX4_person 69 = .ok (.getfield 29, 3) := by decide +kernel
theorem dX4_person_72 : decode cX4_person 72 = .ok (.iload_n 1, 1) := by decide +kernel
theorem dX4_person_73 : decode cX4_person 73 = .ok (.iaload, 1) := by decide +kernel
theorem dX4_person_74 : decode cX4_person 74 = .ok (.goto 28, 3) := by decide +kernel
theorem dX4_person_77 : decode cX4_person 77 = .ok (.iload_n 2, 1) := by decide +kernel
theorem dX4_person_78 : decode cX4_person 78 = .ok (.iconst 1, 1) := by decide +kernel
theorem dX4_person_79 : decode cX4_person 79 = .ok (.if_icmp .ne 22, 3) := by decide +kernel
theorem dX4_person_82 : decode cX4_person 82 = .ok (.aload_n 0, 1) := by decide +kernel
theorem dX4_person_83 : decode cX4_person 83 = .ok (.iload_n 1, 1) := by decide +kernel
theorem dX4_person_84 : decode cX4_person 84 = .ok (.aload_n 0, 1) := by decide +kernel
theorem dX4_person_85 : decode cX4_person 85 = .ok (.aload_n 0, 1) := by decide +kernel
theorem dX4_person_86 : decode cX4_person 86 = .ok (.getfield 35, 3) := by decide +kernel
theorem dX4_person_89 : decode cX4_person 89 = .ok (.bipush 121, 2) := by decide +kernel
theorem dX4_person_91 : decode cX4_person 91 = .ok (.iaload, 1) := by decide +kernel
theorem dX4_person_92 : decode cX4_person 92 = .ok (.invokevirtual 133, 3) := by decide +kernel
theorem dX4_person_95 : decode cX4_person 95 = .ok (.invokevirtual 136, 3) := by decide +kernel
theorem dX4_person_98 : decode cX4_person 98 = .ok (.goto 4, 3) := by decide +kernel
theorem dX4_person_101 : decode cX4_person 101 = .ok (.iload_n 3, 1) := by decide +kernel
theorem dX4_person_102 : decode cX4_person 102 = .ok (.ireturn, 1) := by decide +kernel
theorem dX4_rootOf_0 : decode cX4_rootOf 0 = .ok (.iload_n 1, 1) := by decide +kernel
theorem dX4_rootOf_1 : decode cX4_rootOf 1 = .ok (.istore_n 2, 1) := by decide +kernel
theorem dX4_rootOf_2 : decode cX4_rootOf 2 = .ok (.aload_n 0, 1) := by decide +kernel
theorem dX4_rootOf_3 : decode cX4_rootOf 3 = .ok (.getfield 35, 3) := by decide +kernel
theorem dX4_rootOf_6 : decode cX4_rootOf 6 = .ok (.bipush 90, 2) := by decide +kernel
theorem dX4_rootOf_8 : decode cX4_rootOf 8 = .ok (.iload_n 2, 1) := by decide +kernel
theorem dX4_rootOf_9 : decode cX4_rootOf 9 = .ok (.iadd, 1) := by decide +kernel
theorem dX4_rootOf_10 : decode cX4_rootOf 10 = .ok (.iaload, 1) := by decide +kernel
theorem dX4_rootOf_11 : decode cX4_rootOf 11 = .ok (.bipush (-9), 2) := by decide +kernel
theorem dX4_rootOf_13 : decode cX4_rootOf 13 = .ok (.if_icmp .eq 16, 3) := by decide +kernel
theorem dX4_rootOf_16 : decode cX4_rootOf 16 = .ok (.aload_n 0, 1) := by decide +kernel
theorem dX4_rootOf_17 : decode cX4_rootOf 17 = .ok (.getfield 35, 3) := by decide +kernel
theorem dX4_rootOf_20 : decode cX4_rootOf 20 = .ok (.bipush 90, 2) := by decide +kernel
theorem dX4_rootOf_22 : decode cX4_rootOf 22 = .ok (.iload_n 2, 1) := by decide +kernel
theorem dX4_rootOf_23 : decode cX4_rootOf 23 = .ok (.iadd, 1) := by decide +kernel
theorem dX4_rootOf_24 : decode cX4_rootOf 24 = .ok (.iaload, 1) := by decide +kernel
theorem dX4_rootOf_25 : decode cX4_rootOf 25 = .ok (.istore_n 2, 1) := by decide +kernel
theorem dX4_rootOf_26 : decode cX4_rootOf 26 = .ok (.goto (-24), 3) := by decide +kernel
theorem dX4_rootOf_29 : decode cX4_rootOf 29 = .ok (.iload_n 2, 1) := by decide +kernel
theorem dX4_rootOf_30 : decode cX4_rootOf 30 = .ok (.ireturn, 1) := by decide +kernel
theorem dX4_farOf_0 : decode cX4_farOf 0 = .ok (.iconst 0, 1) := by decide +kernel
theorem dX4_farOf_1 : decode cX4_farOf 1 = .ok (.istore_n 2, 1) := by decide +kernel
theorem dX4_farOf_2 : decode cX4_farOf 2 = .ok (.iload_n 1, 1) := by decide +kernel
theorem dX4_farOf_3 : decode cX4_farOf 3 = .ok (.istore_n 3, 1) := by decide +kernel
theorem dX4_farOf_4 : decode cX4_farOf 4 = .ok (.aload_n 0, 1) := by decide +kernel
theorem dX4_farOf_5 : decode cX4_farOf 5 = .ok (.getfield 35, 3) := by decide +kernel
theorem dX4_farOf_8 : decode cX4_farOf 8 = .ok (.bipush 90, 2) := by decide +kernel
theorem dX4_farOf_10 : decode cX4_farOf 10 = .ok (.iload_n 3, 1) := by decide +kernel
theorem dX4_farOf_11 : decode cX4_farOf 11 = .ok (.iadd, 1) := by decide +kernel
theorem dX4_farOf_12 : decode cX4_farOf 12 = .ok (.iaload, 1) := by decide +kernel
theorem dX4_farOf_13 : decode cX4_farOf 13 = .ok (.bipush (-9), 2) := by decide +kernel
theorem dX4_farOf_15 : decode cX4_farOf 15 = .ok (.if_icmp .eq 19, 3) := by decide +kernel
theorem dX4_farOf_18 : decode cX4_farOf 18 = .ok (.aload_n 0, 1) := by decide +kernel
theorem dX4_farOf_19 : decode cX4_farOf 19 = .ok (.getfield 35, 3) := by decide +kernel
theorem dX4_farOf_22 : decode cX4_farOf 22 = .ok (.bipush 90, 2) := by decide +kernel
theorem dX4_farOf_24 : decode cX4_farOf 24 = .ok (.iload_n 3, 1) := by decide +kernel
theorem dX4_farOf_25 : decode cX4_farOf 25 = .ok (.iadd, 1) := by decide +kernel
theorem dX4_farOf_26 : decode cX4_farOf 26 = .ok (.iaload, 1) := by decide +kernel
theorem dX4_farOf_27 : decode cX4_farOf 27 = .ok (.istore_n 3, 1) := by decide +kernel
theorem dX4_farOf_28 : decode cX4_farOf 28 = .ok (.iinc 2 1, 3) := by decide +kernel
theorem dX4_farOf_31 : decode cX4_farOf 31 = .ok (.goto (-27), 3) := by decide +kernel
theorem dX4_farOf_34 : decode cX4_farOf 34 = .ok (.iload_n 2, 1) := by decide +kernel
theorem dX4_farOf_35 : decode cX4_farOf 35 = .ok (.ireturn, 1) := by decide +kernel
theorem dX4_firstAnswer_0 : decode cX4_firstAnswer 0 = .ok (.iload_n 1, 1) := by decide +kernel
theorem dX4_firstAnswer_1 : decode cX4_firstAnswer 1 = .ok (.iconst 1, 1) := by decide +kernel
theorem dX4_firstAnswer_2 : decode cX4_firstAnswer 2 = .ok (.iadd, 1) := by decide +kernel
theorem dX4_firstAnswer_3 : decode cX4_firstAnswer 3 = .ok (.istore_n 2, 1) := by decide +kernel
theorem dX4_firstAnswer_4 : decode cX4_firstAnswer 4 = .ok (.iload_n 2, 1) := by decide +kernel
theorem dX4_firstAnswer_5 : decode cX4_firstAnswer 5 = .ok (.aload_n 0, 1) := by decide +kernel
theorem dX4_firstAnswer_6 : decode cX4_firstAnswer 6 = .ok (.getfield 35, 3) := by decide +kernel
theorem dX4_firstAnswer_9 : decode cX4_firstAnswer 9 = .ok (.bipush 120, 2) := by decide +kernel
theorem dX4_firstAnswer_11 : decode cX4_firstAnswer 11 = .ok (.iaload, 1) := by decide +kernel
theorem dX4_firstAnswer_12 : decode cX4_firstAnswer 12 = .ok (.if_icmp .ge 24, 3) := by decide +kernel
theorem dX4_firstAnswer_15 : decode cX4_firstAnswer 15 = .ok (.aload_n 0, 1) := by decide +kernel
theorem dX4_firstAnswer_16 : decode cX4_firstAnswer 16 = .ok (.getfield 35, 3) := by decide +kernel
theorem dX4_firstAnswer_19 : decode cX4_firstAnswer 19 = .ok (.bipush 90, 2) := by decide +kernel
theorem dX4_firstAnswer_21 : decode cX4_firstAnswer 21 = .ok (.iload_n 2, 1) := by decide +kernel
theorem dX4_firstAnswer_22 : decode cX4_firstAnswer 22 = .ok (.iadd, 1) := by decide +kernel
theorem dX4_firstAnswer_23 : decode cX4_firstAnswer 23 = .ok (.iaload, 1) := by decide +kernel
theorem dX4_firstAnswer_24 : decode cX4_firstAnswer 24 = .ok (.iload_n 1, 1) := by decide +kernel
theorem dX4_firstAnswer_25 : decode cX4_firstAnswer 25 = .ok (.if_icmp .ne 5, 3) := by decide +kernel
theorem dX4_firstAnswer_28 : decode cX4_firstAnswer 28 = .ok (.iload_n 2, 1) := by decide +kernel
theorem dX4_firstAnswer_29 : decode cX4_firstAnswer 29 = .ok (.ireturn, 1) := by decide +kernel
theorem dX4_firstAnswer_30 : decode cX4_firstAnswer 30 = .ok (.iinc 2 1, 3) := by decide +kernel
theorem dX4_firstAnswer_33 : decode cX4_firstAnswer 33 = .ok (.goto (-29), 3) := by decide +kernel
theorem dX4_firstAnswer_36 : decode cX4_firstAnswer 36 = .ok (.bipush (-9), 2) := by decide +kernel
theorem dX4_firstAnswer_38 : decode cX4_firstAnswer 38 = .ok (.ireturn, 1) := by decide +kernel
theorem dX4_talk_0 : decode cX4_talk 0 = .ok (.iload_n 1, 1) := by decide +kernel
theorem dX4_talk_1 : decode cX4_talk 1 = .ok (.iconst 0, 1) := by decide +kernel
theorem dX4_talk_2 : decode cX4_talk 2 = .ok (.aload_n 0, 1) := by decide +kernel
theorem dX4_talk_3 : decode cX4_talk 3 = .ok (.getfield 35, 3) := by decide +kernel
theorem dX4_talk_6 : decode cX4_talk 6 = .ok (.bipush 120, 2) := by decide +kernel
theorem dX4_talk_8 : decode cX4_talk 8 = .ok (.iaload, 1) := by decide +kernel
theorem dX4_talk_9 : decode cX4_talk 9 = .ok (.iconst 1, 1) := by decide +kernel
theorem dX4_talk_10 : decode cX4_talk 10 = .ok (.isub, 1) := by decide +kernel
theorem dX4_talk_11 : decode cX4_talk 11 = .ok (.invokestatic 57, 3) := by decide +kernel
theorem dX4_talk_14 : decode cX4_talk 14 = .ok (.ifCond .ne 5, 3) := by decide +kernel
theorem dX4_talk_17 : decode cX4_talk 17 = .ok (.iconst (-1), 1) := by decide +kernel
theorem dX4_talk_18 : decode cX4_talk 18 = .ok (.ireturn, 1) := by decide +kernel
theorem dX4_talk_19 : decode cX4_talk 19 = .ok (.iload_n 2, 1) := by decide +kernel
theorem dX4_talk_20 : decode cX4_talk 20 = .ok (.tableswitch 136 0 7 #[48, 57, 67, 77, 87, 93, 99, 115], 48) := by decide +kernel
theorem dX4_talk_68 : decode cX4_talk 68 = .ok (.aload_n 0, 1) := by decide +kernel
theorem dX4_talk_69 : decode cX4_talk 69 = .ok (.getfield 35, 3) := by decide +kernel
theorem dX4_talk_72 : decode cX4_talk 72 = .ok (.iconst 0, 1) := by decide +kernel
theorem dX4_talk_73 : decode cX4_talk 73 = .ok (.iload_n 1, 1) := by decide +kernel
theorem dX4_talk_74 : decode cX4_talk 74 = .ok (.iadd, 1) := by decide +kernel
theorem dX4_talk_75 : decode cX4_talk 75 = .ok (.iaload, 1) := by decide +kernel
theorem dX4_talk_76 : decode cX4_talk 76 = .ok (.ireturn, 1) := by decide +kernel
theorem dX4_talk_77 : decode cX4_talk 77 = .ok (.aload_n 0, 1) := by decide +kernel
theorem dX4_talk_78 : decode cX4_talk 78 = .ok (.getfield 35, 3) := by decide +kernel
theorem dX4_talk_81 : decode cX4_talk 81 = .ok (.bipush 30, 2) := by decide +kernel
theorem dX4_talk_83 : decode cX4_talk 83 = .ok (.iload_n 1, 1) := by decide +kernel
theorem dX4_talk_84 : decode cX4_talk 84 = .ok (.iadd, 1) := by decide +kernel
theorem dX4_talk_85 : decode cX4_talk 85 = .ok (.iaload, 1) := by decide +kernel
theorem dX4_talk_86 : decode cX4_talk 86 = .ok (.ireturn, 1) := by decide +kernel
theorem dX4_talk_87 : decode cX4_talk 87 = .ok (.aload_n 0, 1) := by decide +kernel
theorem dX4_talk_88 : decode cX4_talk 88 = .ok (.getfield 35, 3) := by decide +kernel
theorem dX4_talk_91 : decode cX4_talk 91 = .ok (.bipush 60, 2) := by decide +kernel
theorem dX4_talk_93 : decode cX4_talk 93 = .ok (.iload_n 1, 1) := by decide +kernel
theorem dX4_talk_94 : decode cX4_talk 94 = .ok (.iadd, 1) := by decide +kernel
theorem dX4_talk_95 : decode cX4_talk 95 = .ok (.iaload, 1) := by decide +kernel
theorem dX4_talk_96 : decode cX4_talk 96 = .ok (.ireturn, 1) := by decide +kernel
theorem dX4_talk_97 : decode cX4_talk 97 = .ok (.aload_n 0, 1) := by decide +kernel
theorem dX4_talk_98 : decode cX4_talk 98 = .ok (.getfield 35, 3) := by decide +kernel
theorem dX4_talk_101 : decode cX4_talk 101 = .ok (.bipush 90, 2) := by decide +kernel
theorem dX4_talk_103 : decode cX4_talk 103 = .ok (.iload_n 1, 1) := by decide +kernel
theorem dX4_talk_104 : decode cX4_talk 104 = .ok (.iadd, 1) := by decide +kernel
theorem dX4_talk_105 : decode cX4_talk 105 = .ok (.iaload, 1) := by decide +kernel
theorem dX4_talk_106 : decode cX4_talk 106 = .ok (.ireturn, 1) := by decide +kernel
theorem dX4_talk_107 : decode cX4_talk 107 = .ok (.aload_n 0, 1) := by decide +kernel
theorem dX4_talk_108 : decode cX4_talk 108 = .ok (.iload_n 1, 1) := by decide +kernel
theorem dX4_talk_109 : decode cX4_talk 109 = .ok (.invokevirtual 139, 3) := by decide +kernel
theorem dX4_talk_112 : decode cX4_talk 112 = .ok (.ireturn, 1) := by decide +kernel
theorem dX4_talk_113 : decode cX4_talk 113 = .ok (.aload_n 0, 1) := by decide +kernel
theorem dX4_talk_114 : decode cX4_talk 114 = .ok (.iload_n 1, 1) := by decide +kernel
theorem dX4_talk_115 : decode cX4_talk 115 = .ok (.invokevirtual 142, 3) := by decide +kernel
theorem dX4_talk_118 : decode cX4_talk 118 = .ok (.ireturn, 1) := by decide +kernel
theorem dX4_talk_119 : decode cX4_talk 119 = .ok (.aload_n 0, 1) := by decide +kernel
theorem dX4_talk_120 : decode cX4_talk 120 = .ok (.iload_n 1, 1) := by decide +kernel
theorem dX4_talk_121 : decode cX4_talk 121 = .ok (.invokevirtual 145, 3) := by decide +kernel
theorem dX4_talk_124 : decode cX4_talk 124 = .ok (.bipush (-9), 2) := by decide +kernel
theorem dX4_talk_126 : decode cX4_talk 126 = .ok (.if_icmp .ne 7, 3) := by decide +kernel
theorem dX4_talk_129 : decode cX4_talk 129 = .ok (.iconst 1, 1) := by decide +kernel
theorem dX4_talk_130 : decode cX4_talk 130 = .ok (.goto 4, 3) := by decide +kernel
theorem dX4_talk_133 : decode cX4_talk 133 = .ok (.iconst 0, 1) := by decide +kernel
theorem dX4_talk_134 : decode cX4_talk 134 = .ok (.ireturn, 1) := by decide +kernel
theorem dX4_talk_135 : decode cX4_talk 135 = .ok (.aload_n 0, 1) := by decide +kernel
theorem dX4_talk_136 : decode cX4_talk 136 = .ok (.iload_n 1, 1) := by decide +kernel
theorem dX4_talk_137 : decode cX4_talk 137 = .ok (.aload_n 0, 1) := by decide +kernel
theorem dX4_talk_138 : decode cX4_talk 138 = .ok (.getfield 35, 3) := by decide +kernel
theorem dX4_talk_141 : decode cX4_talk 141 = .ok (.bipush 121, 2) := by decide +kernel
theorem dX4_talk_143 : decode cX4_talk 143 = .ok (.iaload, 1) := by decide +kernel
theorem dX4_talk_144 : decode cX4_talk 144 = .ok (.invokevirtual 113, 3) := by decide +kernel
theorem dX4_talk_147 : decode cX4_talk 147 = .ok (.ifCond .eq 7, 3) := by decide +kernel
theorem dX4_talk_150 : decode cX4_talk 150 = .ok (.iconst 1, 1) := by decide +kernel
theorem dX4_talk_151 : decode cX4_talk 151 = .ok (.goto 4, 3) := by decide +kernel
theorem dX4_talk_154 : decode cX4_talk 154 = .ok (.iconst 0, 1) := by decide +kernel
theorem dX4_talk_155 : decode cX4_talk 155 = .ok (.ireturn, 1) := by decide +kernel
theorem dX4_talk_156 : decode cX4_talk 156 = .ok (.iconst (-1), 1) := by decide +kernel
theorem dX4_talk_157 : decode cX4_talk 157 = .ok (.ireturn, 1) := by decide +kernel
theorem dX4_know_0 : decode cX4_know 0 = .ok (.aload_n 0, 1) := by decide +kernel
theorem dX4_know_1 : decode cX4_know 1 = .ok (.getfield 35, 3) := by decide +kernel
theorem dX4_know_4 : decode cX4_know 4 = .ok (.bipush 122, 2) := by decide +kernel
theorem dX4_know_6 : decode cX4_know 6 = .ok (.iaload, 1) := by decide +kernel
theorem dX4_know_7 : decode cX4_know 7 = .ok (.bipush 12, 2) := by decide +kernel
theorem dX4_know_9 : decode cX4_know 9 = .ok (.if_icmp .ne 46, 3) := by decide +kernel
theorem dX4_know_12 : decode cX4_know 12 = .ok (.iconst 0, 1) := by decide +kernel
theorem dX4_know_13 : decode cX4_know 13 = .ok (.istore_n 1, 1) := by decide +kernel
theorem dX4_know_14 : decode cX4_know 14 = .ok (.iload_n 1, 1) := by decide +kernel
theorem dX4_know_15 : decode cX4_know 15 = .ok (.bipush 22, 2) := by decide +kernel
theorem dX4_know_17 : decode cX4_know 17 = .ok (.if_icmp .ge 27, 3) := by decide +kernel
theorem dX4_know_20 : decode cX4_know 20 = .ok (.aload_n 0, 1) := by decide +kernel
theorem dX4_know_21 : decode cX4_know 21 = .ok (.getfield 35, 3) := by decide +kernel
theorem dX4_know_24 : decode cX4_know 24 = .ok (.bipush 123, 2) := by decide +kernel
theorem dX4_know_26 : decode cX4_know 26 = .ok (.iload_n 1, 1) := by decide +kernel
theorem dX4_know_27 : decode cX4_know 27 = .ok (.iadd, 1) := by decide +kernel
theorem dX4_know_28 : decode cX4_know 28 = .ok (.aload_n 0, 1) := by decide +kernel
theorem dX4_know_29 : decode cX4_know 29 = .ok (.getfield 35, 3) := by decide +kernel
theorem dX4_know_32 : decode cX4_know 32 = .ok (.bipush 125, 2) := by decide +kernel
theorem dX4_know_34 : decode cX4_know 34 = .ok (.iload_n 1, 1) := by decide +kernel
theorem dX4_know_35 : decode cX4_know 35 = .ok (.iadd, 1) := by decide +kernel
theorem dX4_know_36 : decode cX4_know 36 = .ok (.iaload, 1) := by decide +kernel
theorem dX4_know_37 : decode cX4_know 37 = .ok (.iastore, 1) := by decide +kernel
theorem dX4_know_38 : decode cX4_know 38 = .ok (.iinc 1 1, 3) := by decide +kernel
theorem dX4_know_41 : decode cX4_know 41 = .ok (.goto (-27), 3) := by decide +kernel
theorem dX4_know_44 : decode cX4_know 44 = .ok (.aload_n 0, 1) := by decide +kernel
theorem dX4_know_45 : decode cX4_know 45 = .ok (.getfield 35, 3) := by decide +kernel
theorem dX4_know_48 : decode cX4_know 48 = .ok (.bipush 122, 2) := by decide +kernel
theorem dX4_know_50 : decode cX4_know 50 = .ok (.dup2, 1) := by decide +kernel
theorem dX4_know_51 : decode cX4_know 51 = .ok (.iaload, 1) := by decide +kernel
theorem dX4_know_52 : decode cX4_know 52 = .ok (.iconst 1, 1) := by decide +kernel
theorem dX4_know_53 : decode cX4_know 53 = .ok (.isub, 1) := by decide +kernel
theorem dX4_know_54 : decode cX4_know 54 = .ok (.iastore, 1) := by decide +kernel
theorem dX4_know_55 : decode cX4_know 55 = .ok (.aload_n 0, 1) := by decide +kernel
theorem dX4_know_56 : decode cX4_know 56 = .ok (.getfield 35, 3) := by decide +kernel
theorem dX4_know_59 : decode cX4_know 59 = .ok (.bipush 123, 2) := by decide +kernel
theorem dX4_know_61 : decode cX4_know 61 = .ok (.iconst 2, 1) := by decide +kernel
theorem dX4_know_62 : decode cX4_know 62 = .ok (.aload_n 0, 1) := by decide +kernel
theorem dX4_know_63 : decode cX4_know 63 = .ok (.getfield 35, 3) := by decide +kernel
theorem dX4_know_66 : decode cX4_know 66 = .ok (.bipush 122, 2) := by decide +kernel
theorem dX4_know_68 : decode cX4_know 68 = .ok (.iaload, 1) := by decide +kernel
theorem dX4_know_69 : decode cX4_know 69 = .ok (.imul, 1) := by decide +kernel
theorem dX4_know_70 : decode cX4_know 70 = .ok (.iadd, 1) := by decide +kernel
theorem dX4_know_71 : decode cX4_know 71 = .ok (.aload_n 0, 1) := by decide +kernel
theorem dX4_know_72 : decode cX4_know 72 = .ok (.getfield 35, 3) := by decide +kernel
theorem dX4_know_75 : decode cX4_know 75 = .ok (.bipush 120, 2) := by decide +kernel
theorem dX4_know_77 : decode cX4_know 77 = .ok (.iaload, 1) := by decide +kernel
theorem dX4_know_78 : decode cX4_know 78 = .ok (.iastore, 1) := by decide +kernel
theorem dX4_know_79 : decode cX4_know 79 = .ok (.aload_n 0, 1) := by decide +kernel
theorem dX4_know_80 : decode cX4_know 80 = .ok (.getfield 35, 3) := by decide +kernel
theorem dX4_know_83 : decode cX4_know 83 = .ok (.bipush 123, 2) := by decide +kernel
theorem dX4_know_85 : decode cX4_know 85 = .ok (.iconst 2, 1) := by decide +kernel
theorem dX4_know_86 : decode cX4_know 86 = .ok (.aload_n 0, 1) := by decide +kernel
theorem dX4_know_87 : decode cX4_know 87 = .ok (.getfield 35, 3) := by decide +kernel
theorem dX4_know_90 : decode cX4_know 90 = .ok (.bipush 122, 2) := by decide +kernel
theorem dX4_know_92 : decode cX4_know 92 = .ok (.iaload, 1) := by decide +kernel
theorem dX4_know_93 : decode cX4_know 93 = .ok (.imul, 1) := by decide +kernel
theorem dX4_know_94 : decode cX4_know 94 = .ok (.iadd, 1) := by decide +kernel
theorem dX4_know_95 : decode cX4_know 95 = .ok (.iconst 1, 1) := by decide +kernel
theorem dX4_know_96 : decode cX4_know 96 = .ok (.iadd, 1) := by decide +kernel
theorem dX4_know_97 : decode cX4_know 97 = .ok (.aload_n 0, 1) := by decide +kernel
theorem dX4_know_98 : decode cX4_know 98 = .ok (.getfield 35, 3) := by decide +kernel
theorem dX4_know_101 : decode cX4_know 101 = .ok (.bipush 121, 2) := by decide +kernel
theorem dX4_know_103 : decode cX4_know 103 = .ok (.iaload, 1) := by decide +kernel
theorem dX4_know_104 : decode cX4_know 104 = .ok (.iastore, 1) := by decide +kernel
theorem dX4_know_105 : decode cX4_know 105 = .ok (.aload_n 0, 1) := by decide +kernel
theorem dX4_know_106 : decode cX4_know 106 = .ok (.getfield 35, 3) := by decide +kernel
theorem dX4_know_109 : decode cX4_know 109 = .ok (.bipush 122, 2) := by decide +kernel
theorem dX4_know_111 : decode cX4_know 111 = .ok (.dup2, 1) := by decide +kernel
theorem dX4_know_112 : decode cX4_know 112 = .ok (.iaload, 1) := by decide +kernel
theorem dX4_know_113 : decode cX4_know 113 = .ok (.iconst 1, 1) := by decide +kernel
theorem dX4_know_114 : decode cX4_know 114 = .ok (.iadd, 1) := by decide +kernel
theorem dX4_know_115 : decode cX4_know 115 = .ok (.iastore, 1) := by decide +kernel
theorem dX4_know_116 : decode cX4_know 116 = .ok (.return_, 1) := by decide +kernel
theorem dX4_add_0 : decode cX4_add 0 = .ok (.aload_n 0, 1) := by decide +kernel
theorem dX4_add_1 : decode cX4_add 1 = .ok (.invokevirtual 148, 3) := by decide +kernel
theorem dX4_add_4 : decode cX4_add 4 = .ok (.aload_n 0, 1) := by decide +kernel
theorem dX4_add_5 : decode cX4_add 5 = .ok (.getfield 35, 3) := by decide +kernel
theorem dX4_add_8 : decode cX4_add 8 = .ok (.bipush 120, 2) := by decide +kernel
theorem dX4_add_10 : decode cX4_add 10 = .ok (.iaload, 1) := by decide +kernel
theorem dX4_add_11 : decode cX4_add 11 = .ok (.istore 4, 2) := by decide +kernel
theorem dX4_add_13 : decode cX4_add 13 = .ok (.aload_n 0, 1) := by decide +kernel
theorem dX4_add_14 : decode cX4_add 14 = .ok (.getfield 35, 3) := by decide +kernel
theorem dX4_add_17 : decode cX4_add 17 = .ok (.iconst 0, 1) := by decide +kernel
theorem dX4_add_18 : decode cX4_add 18 = .ok (.iload 4, 2) := by decide +kernel
theorem dX4_add_20 : decode cX4_add 20 = .ok (.iadd, 1) := by decide +kernel
theorem dX4_add_21 : decode cX4_add 21 = .ok (.iload_n 1, 1) := by decide +kernel
theorem dX4_add_22 : decode cX4_add 22 = .ok (.iastore, 1) := by decide +kernel
theorem dX4_add_23 : decode cX4_add 23 = .ok (.aload_n 0, 1) := by decide +kernel
theorem dX4_add_24 : decode cX4_add 24 = .ok (.getfield 35, 3) := by decide +kernel
theorem dX4_add_27 : decode cX4_add 27 = .ok (.bipush 30, 2) := by decide +kernel
theorem dX4_add_29 : decode cX4_add 29 = .ok (.iload 4, 2) := by decide +kernel
theorem dX4_add_31 : decode cX4_add 31 = .ok (.iadd, 1) := by decide +kernel
theorem dX4_add_32 : decode cX4_add 32 = .ok (.aload_n 0, 1) := by decide +kernel
theorem dX4_add_33 : decode cX4_add 33 = .ok (.getfield 35, 3) := by decide +kernel
theorem dX4_add_36 : decode cX4_add 36 = .ok (.bipush 121, 2) := by decide +kernel
theorem dX4_add_38 : decode cX4_add 38 = .ok (.iaload, 1) := by decide +kernel
theorem dX4_add_39 : decode cX4_add 39 = .ok (.iastore, 1) := by decide +kernel
theorem dX4_add_40 : decode cX4_add 40 = .ok (.aload_n 0, 1) := by decide +kernel
theorem dX4_add_41 : decode cX4_add 41 = .ok (.getfield 35, 3) := by decide +kernel
theorem dX4_add_44 : decode cX4_add 44 = .ok (.bipush 60, 2) := by decide +kernel
theorem dX4_add_46 : decode cX4_add 46 = .ok (.iload 4, 2) := by decide +kernel
theorem dX4_add_48 : decode cX4_add 48 = .ok (.iadd, 1) := by decide +kernel
theorem dX4_add_49 : decode cX4_add 49 = .ok (.iload_n 2, 1) := by decide +kernel
theorem dX4_add_50 : decode cX4_add 50 = .ok (.iastore, 1) := by decide +kernel
theorem dX4_add_51 : decode cX4_add 51 = .ok (.aload_n 0, 1) := by decide +kernel
theorem dX4_add_52 : decode cX4_add 52 = .ok (.getfield 35, 3) := by decide +kernel
theorem dX4_add_55 : decode cX4_add 55 = .ok (.bipush 90, 2) := by decide +kernel
theorem dX4_add_57 : decode cX4_add 57 = .ok (.iload 4, 2) := by decide +kernel
theorem dX4_add_59 : decode cX4_add 59 = .ok (.iadd, 1) := by decide +kernel
theorem dX4_add_60 : decode cX4_add 60 = .ok (.iload_n 3, 1) := by decide +kernel
theorem dX4_add_61 : decode cX4_add 61 = .ok (.iastore, 1) := by decide +kernel
theorem dX4_add_62 : decode cX4_add 62 = .ok (.aload_n 0, 1) := by decide +kernel
theorem dX4_add_63 : decode cX4_add 63 = .ok (.getfield 35, 3) := by decide +kernel
theorem dX4_add_66 : decode cX4_add 66 = .ok (.bipush 120, 2) := by decide +kernel
theorem dX4_add_68 : decode cX4_add 68 = .ok (.dup2, 1) := by decide +kernel
theorem dX4_add_69 : decode cX4_add 69 = .ok (.iaload, 1) := by decide +kernel
theorem dX4_add_70 : decode cX4_add 70 = .ok (.iconst 1, 1) := by decide +kernel
theorem dX4_add_71 : decode cX4_add 71 = .ok (.iadd, 1) := by decide +kernel
theorem dX4_add_72 : decode cX4_add 72 = .ok (.iastore, 1) := by decide +kernel
theorem dX4_add_73 : decode cX4_add 73 = .ok (.return_, 1) := by decide +kernel
theorem dX4_hears_0 : decode cX4_hears 0 = .ok (.aload_n 0, 1) := by decide +kernel
theorem dX4_hears_1 : decode cX4_hears 1 = .ok (.iload_n 1, 1) := by decide +kernel
theorem dX4_hears_2 : decode cX4_hears 2 = .ok (.invokevirtual 117, 3) := by decide +kernel
theorem dX4_hears_5 : decode cX4_hears 5 = .ok (.ifCond .eq 11, 3) := by decide +kernel
theorem dX4_hears_8 : decode cX4_hears 8 = .ok (.aload_n 0, 1) := by decide +kernel
theorem dX4_hears_9 : decode cX4_hears 9 = .ok (.iload_n 1, 1) := by decide +kernel
theorem dX4_hears_10 : decode cX4_hears 10 = .ok (.invokevirtual 120, 3) := by decide +kernel
theorem dX4_hears_13 : decode cX4_hears 13 = .ok (.ifCond .ne 5, 3) := by decide +kernel
theorem dX4_hears_16 : decode cX4_hears 16 = .ok (.iconst (-1), 1) := by decide +kernel
theorem dX4_hears_17 : decode cX4_hears 17 = .ok (.ireturn, 1) := by decide +kernel
theorem dX4_hears_18 : decode cX4_hears 18 = .ok (.aload_n 0, 1) := by decide +kernel
theorem dX4_hears_19 : decode cX4_hears 19 = .ok (.getfield 35, 3) := by decide +kernel
theorem dX4_hears_22 : decode cX4_hears 22 = .ok (.bipush 120, 2) := by decide +kernel
theorem dX4_hears_24 : decode cX4_hears 24 = .ok (.iaload, 1) := by decide +kernel
theorem dX4_hears_25 : decode cX4_hears 25 = .ok (.bipush 30, 2) := by decide +kernel
theorem dX4_hears_27 : decode cX4_hears 27 = .ok (.if_icmp .ne 6, 3) := by decide +kernel
theorem dX4_hears_30 : decode cX4_hears 30 = .ok (.bipush (-3), 2) := by decide +kernel
theorem dX4_hears_32 : decode cX4_hears 32 = .ok (.ireturn, 1) := by decide +kernel
theorem dX4_hears_33 : decode cX4_hears 33 = .ok (.aload_n 0, 1) := by decide +kernel
theorem dX4_hears_34 : decode cX4_hears 34 = .ok (.iload_n 1, 1) := by decide +kernel
theorem dX4_hears_35 : decode cX4_hears 35 = .ok (.bipush (-9), 2) := by decide +kernel
theorem dX4_hears_37 : decode cX4_hears 37 = .ok (.bipush (-9), 2) := by decide +kernel
theorem dX4_hears_39 : decode cX4_hears 39 = .ok (.invokevirtual 151, 3) := by decide +kernel
theorem dX4_hears_42 : decode cX4_hears 42 = .ok (.aload_n 0, 1) := by decide +kernel
theorem dX4_hears_43 : decode cX4_hears 43 = .ok (.getfield 35, 3) := by decide +kernel
theorem dX4_hears_46 : decode cX4_hears 46 = .ok (.bipush 120, 2) := by decide +kernel
theorem dX4_hears_48 : decode cX4_hears 48 = .ok (.iaload, 1) := by decide +kernel
theorem dX4_hears_49 : decode cX4_hears 49 = .ok (.iconst 1, 1) := by decide +kernel
theorem dX4_hears_50 : decode cX4_hears 50 = .ok (.isub, 1) := by decide +kernel
theorem dX4_hears_51 : decode cX4_hears 51 = .ok (.ireturn, 1) := by decide +kernel
theorem dX4_says_0 : decode cX4_says 0 = .ok (.aload_n 0, 1) := by decide +kernel
theorem dX4_says_1 : decode cX4_says 1 = .ok (.iload_n 1, 1) := by decide +kernel
theorem dX4_says_2 : decode cX4_says 2 = .ok (.invokevirtual 130, 3) := by decide +kernel
theorem dX4_says_5 : decode cX4_says 5 = .ok (.ifCond .eq 19, 3) := by decide +kernel
theorem dX4_says_8 : decode cX4_says 8 = .ok (.aload_n 0, 1) := by decide +kernel
theorem dX4_says_9 : decode cX4_says 9 = .ok (.iload_n 2, 1) := by decide +kernel
theorem dX4_says_10 : decode cX4_says 10 = .ok (.invokevirtual 117, 3) := by decide +kernel
theorem dX4_says_13 : decode cX4_says 13 = .ok (.ifCond .eq 11, 3) := by decide +kernel
theorem dX4_says_16 : decode cX4_says 16 = .ok (.aload_n 0, 1) := by decide +kernel
theorem dX4_says_17 : decode cX4_says 17 = .ok (.iload_n 2, 1) := by decide +kernel
theorem dX4_says_18 : decode cX4_says 18 = .ok (.invokevirtual 120, 3) := by decide +kernel
theorem dX4_says_21 : decode cX4_says 21 = .ok (.ifCond .eq 5, 3) := by decide +kernel
theorem dX4_says_24 : decode cX4_says 24 = .ok (.iconst (-1), 1) := by decide +kernel
theorem dX4_says_25 : decode cX4_says 25 = .ok (.ireturn, 1) := by decide +kernel
theorem dX4_says_26 : decode cX4_says 26 = .ok (.bipush (-9), 2) := by decide +kernel
theorem dX4_says_28 : decode cX4_says 28 = .ok (.istore_n 3, 1) := by decide +kernel
theorem dX4_says_29 : decode cX4_says 29 = .ok (.iconst 0, 1) := by decide +kernel
theorem dX4_says_30 : decode cX4_says 30 = .ok (.istore 4, 2) := by decide +kernel
theorem dX4_says_32 : decode cX4_says 32 = .ok (.iload 4, 2) := by decide +kernel
theorem dX4_says_34 : decode cX4_says 34 = .ok (.aload_n 0, 1) := by decide +kernel
theorem dX4_says_35 : decode cX4_says 35 = .ok (.getfield 35, 3) := by decide +kernel
theorem dX4_says_38 : decode cX4_says 38 = .ok (.bipush 120, 2) := by decide +kernel
theorem dX4_says_40 : decode cX4_says 40 = .ok (.iaload, 1) := by decide +kernel
theorem dX4_says_41 : decode cX4_says 41 = .ok (.if_icmp .ge 54, 3) := by decide +kernel
theorem dX4_says_44 : decode cX4_says 44 = .ok (.aload_n 0, 1) := by decide +kernel
theorem dX4_says_45 : decode cX4_says 45 = .ok (.iload 4, 2) := by decide +kernel
theorem dX4_says_47 : decode cX4_says 47 = .ok (.aload_n 0, 1) := by decide +kernel
theorem dX4_says_48 : decode cX4_says 48 = .ok (.getfield 35, 3) := by decide +kernel
theorem dX4_says_51 : decode cX4_says 51 = .ok (.bipush 121, 2) := by decide +kernel
theorem dX4_says_53 : decode cX4_says 53 = .ok (.iaload, 1) := by decide +kernel
theorem dX4_says_54 : decode cX4_says 54 = .ok (.invokevirtual 113, 3) := by decide +kernel
theorem dX4_says_57 : decode cX4_says 57 = .ok (.ifCond .eq 30, 3) := by decide +kernel
theorem dX4_says_60 : decode cX4_says 60 = .ok (.aload_n 0, 1) := by decide +kernel
theorem dX4_says_61 : decode cX4_says 61 = .ok (.getfield 20, 3) := by decide +kernel
theorem dX4_says_64 : decode cX4_says 64 = .ok (.iload_n 2, 1) := by decide +kernel
theorem dX4_says_65 : decode cX4_says 65 = .ok (.iaload, 1) := by decide +kernel
theorem dX4_says_66 : decode cX4_says 66 = .ok (.aload_n 0, 1) := by decide +kernel
theorem dX4_says_67 : decode cX4_says 67 = .ok (.getfield 35, 3) := by decide +kernel
theorem dX4_says_70 : decode cX4_says 70 = .ok (.iconst 0, 1) := by decide +kernel
theorem dX4_says_71 : decode cX4_says 71 = .ok (.iload 4, 2) := by decide +kernel
theorem dX4_says_73 : decode cX4_says 73 = .ok (.iadd, 1) := by decide +kernel
theorem dX4_says_74 : decode cX4_says 74 = .ok (.iaload, 1) := by decide +kernel
theorem dX4_says_75 : decode cX4_says 75 = .ok (.ishr, 1) := by decide +kernel
theorem dX4_says_76 : decode cX4_says 76 = .ok (.iconst 1, 1) := by decide +kernel
theorem dX4_says_77 : decode cX4_says 77 = .ok (.iand, 1) := by decide +kernel
theorem dX4_says_78 : decode cX4_says 78 = .ok (.iconst 1, 1) := by decide +kernel
theorem dX4_says_79 : decode cX4_says 79 = .ok (.if_icmp .ne 8, 3) := by decide +kernel
theorem dX4_says_82 : decode cX4_says 82 = .ok (.iload 4, 2) := by decide +kernel
theorem dX4_says_84 : decode cX4_says 84 = .ok (.goto 4, 3) := by decide +kernel
theorem dX4_says_87 : decode cX4_says 87 = .ok (.iload_n 3, 1) := by decide +kernel
theorem dX4_says_88 : decode cX4_says 88 = .ok (.istore_n 3, 1) := by decide +kernel
theorem dX4_says_89 : decode cX4_says 89 = .ok (.iinc 4 1, 3) := by decide +kernel
theorem dX4_says_92 : decode cX4_says 92 = .ok (.goto (-60), 3) := by decide +kernel
theorem dX4_says_95 : decode cX4_says 95 = .ok (.aload_n 0, 1) := by decide +kernel
theorem dX4_says_96 : decode cX4_says 96 = .ok (.getfield 29, 3) := by decide +kernel
theorem dX4_says_99 : decode cX4_says 99 = .ok (.iload_n 1, 1) := by decide +kernel
theorem dX4_says_100 : decode cX4_says 100 = .ok (.iaload, 1) := by decide +kernel
theorem dX4_says_101 : decode cX4_says 101 = .ok (.iload_n 2, 1) := by decide +kernel
theorem dX4_says_102 : decode cX4_says 102 = .ok (.ishr, 1) := by decide +kernel
theorem dX4_says_103 : decode cX4_says 103 = .ok (.iconst 1, 1) := by decide +kernel
theorem dX4_says_104 : decode cX4_says 104 = .ok (.iand, 1) := by decide +kernel
theorem dX4_says_105 : decode cX4_says 105 = .ok (.ifCond .eq 9, 3) := by decide +kernel
theorem dX4_says_108 : decode cX4_says 108 = .ok (.iload_n 3, 1) := by decide +kernel
theorem dX4_says_109 : decode cX4_says 109 = .ok (.bipush (-9), 2) := by decide +kernel
theorem dX4_says_111 : decode cX4_says 111 = .ok (.if_icmp .ne 6, 3) := by decide +kernel
theorem dX4_says_114 : decode cX4_says 114 = .ok (.bipush (-2), 2) := by decide +kernel
theorem dX4_says_116 : decode cX4_says 116 = .ok (.ireturn, 1) := by decide +kernel
theorem dX4_says_117 : decode cX4_says 117 = .ok (.aload_n 0, 1) := by decide +kernel
theorem dX4_says_118 : decode cX4_says 118 = .ok (.getfield 35, 3) := by decide +kernel
theorem dX4_says_121 : decode cX4_says 121 = .ok (.bipush 120, 2) := by decide +kernel
theorem dX4_says_123 : decode cX4_says 123 = .ok (.iaload, 1) := by decide +kernel
theorem dX4_says_124 : decode cX4_says 124 = .ok (.bipush 30, 2) := by decide +kernel
theorem dX4_says_126 : decode cX4_says 126 = .ok (.if_icmp .ne 6, 3) := by decide +kernel
theorem dX4_says_129 : decode cX4_says 129 = .ok (.bipush (-3), 2) := by decide +kernel
theorem dX4_says_131 : decode cX4_says 131 = .ok (.ireturn, 1) := by decide +kernel
theorem dX4_says_132 : decode cX4_says 132 = .ok (.aload_n 0, 1) := by decide +kernel
theorem dX4_says_133 : decode cX4_says 133 = .ok (.iload_n 2, 1) := by decide +kernel
theorem dX4_says_134 : decode cX4_says 134 = .ok (.iload_n 1, 1) := by decide +kernel
theorem dX4_says_135 : decode cX4_says 135 = .ok (.iload_n 3, 1) := by decide +kernel
theorem dX4_says_136 : decode cX4_says 136 = .ok (.invokevirtual 151, 3) := by decide +kernel
theorem dX4_says_139 : decode cX4_says 139 = .ok (.iload_n 3, 1) := by decide +kernel
theorem dX4_says_140 : decode cX4_says 140 = .ok (.ireturn, 1) := by decide +kernel
theorem dX4_hour_0 : decode cX4_hour 0 = .ok (.aload_n 0, 1) := by decide +kernel
theorem dX4_hour_1 : decode cX4_hour 1 = .ok (.getfield 35, 3) := by decide +kernel
theorem dX4_hour_4 : decode cX4_hour 4 = .ok (.bipush 121, 2) := by decide +kernel
theorem dX4_hour_6 : decode cX4_hour 6 = .ok (.iaload, 1) := by decide +kernel
theorem dX4_hour_7 : decode cX4_hour 7 = .ok (.bipush 99, 2) := by decide +kernel
theorem dX4_hour_9 : decode cX4_hour 9 = .ok (.if_icmp .ne 6, 3) := by decide +kernel
theorem dX4_hour_12 : decode cX4_hour 12 = .ok (.bipush (-2), 2) := by decide +kernel
theorem dX4_hour_14 : decode cX4_hour 14 = .ok (.ireturn, 1) := by decide +kernel
theorem dX4_hour_15 : decode cX4_hour 15 = .ok (.aload_n 0, 1) := by decide +kernel
theorem dX4_hour_16 : decode cX4_hour 16 = .ok (.invokevirtual 148, 3) := by decide +kernel
theorem dX4_hour_19 : decode cX4_hour 19 = .ok (.aload_n 0, 1) := by decide +kernel
theorem dX4_hour_20 : decode cX4_hour 20 = .ok (.getfield 35, 3) := by decide +kernel
theorem dX4_hour_23 : decode cX4_hour 23 = .ok (.bipush 121, 2) := by decide +kernel
theorem dX4_hour_25 : decode cX4_hour 25 = .ok (.dup2, 1) := by decide +kernel
theorem dX4_hour_26 : decode cX4_hour 26 = .ok (.iaload, 1) := by decide +kernel
theorem dX4_hour_27 : decode cX4_hour 27 = .ok (.iconst 1, 1) := by decide +kernel
theorem dX4_hour_28 : decode cX4_hour 28 = .ok (.iadd, 1) := by decide +kernel
theorem dX4_hour_29 : decode cX4_hour 29 = .ok (.iastore, 1) := by decide +kernel
theorem dX4_hour_30 : decode cX4_hour 30 = .ok (.aload_n 0, 1) := by decide +kernel
theorem dX4_hour_31 : decode cX4_hour 31 = .ok (.getfield 35, 3) := by decide +kernel
theorem dX4_hour_34 : decode cX4_hour 34 = .ok (.bipush 121, 2) := by decide +kernel
theorem dX4_hour_36 : decode cX4_hour 36 = .ok (.iaload, 1) := by decide +kernel
theorem dX4_hour_37 : decode cX4_hour 37 = .ok (.ireturn, 1) := by decide +kernel
theorem dX4_undo_0 : decode cX4_undo 0 = .ok (.aload_n 0, 1) := by decide +kernel
theorem dX4_undo_1 : decode cX4_undo 1 = .ok (.getfield 35, 3) := by decide +kernel
theorem dX4_undo_4 : decode cX4_undo 4 = .ok (.bipush 122, 2) := by decide +kernel
theorem dX4_undo_6 : decode cX4_undo 6 = .ok (.iaload, 1) := by decide +kernel
theorem dX4_undo_7 : decode cX4_undo 7 = .ok (.ifCond .ne 6, 3) := by decide +kernel
theorem dX4_undo_10 : decode cX4_undo 10 = .ok (.bipush (-2), 2) := by decide +kernel
theorem dX4_undo_12 : decode cX4_undo 12 = .ok (.ireturn, 1) := by decide +kernel
theorem dX4_undo_13 : decode cX4_undo 13 = .ok (.aload_n 0, 1) := by decide +kernel
theorem dX4_undo_14 : decode cX4_undo 14 = .ok (.getfield 35, 3) := by decide +kernel
theorem dX4_undo_17 : decode cX4_undo 17 = .ok (.bipush 122, 2) := by decide +kernel
theorem dX4_undo_19 : decode cX4_undo 19 = .ok (.dup2, 1) := by decide +kernel
theorem dX4_undo_20 : decode cX4_undo 20 = .ok (.iaload, 1) := by decide +kernel
theorem dX4_undo_21 : decode cX4_undo 21 = .ok (.iconst 1, 1) := by decide +kernel
theorem dX4_undo_22 : decode cX4_undo 22 = .ok (.isub, 1) := by decide +kernel
theorem dX4_undo_23 : decode cX4_undo 23 = .ok (.iastore, 1) := by decide +kernel
theorem dX4_undo_24 : decode cX4_undo 24 = .ok (.aload_n 0, 1) := by decide +kernel
theorem dX4_undo_25 : decode cX4_undo 25 = .ok (.getfield 35, 3) := by decide +kernel
theorem dX4_undo_28 : decode cX4_undo 28 = .ok (.bipush 120, 2) := by decide +kernel
theorem dX4_undo_30 : decode cX4_undo 30 = .ok (.aload_n 0, 1) := by decide +kernel
theorem dX4_undo_31 : decode cX4_undo 31 = .ok (.getfield 35, 3) := by decide +kernel
theorem dX4_undo_34 : decode cX4_undo 34 = .ok (.bipush 123, 2) := by decide +kernel
theorem dX4_undo_36 : decode cX4_undo 36 = .ok (.iconst 2, 1) := by decide +kernel
theorem dX4_undo_37 : decode cX4_undo 37 = .ok (.aload_n 0, 1) := by decide +kernel
theorem dX4_undo_38 : decode cX4_undo 38 = .ok (.getfield 35, 3) := by decide +kernel
theorem dX4_undo_41 : decode cX4_undo 41 = .ok (.bipush 122, 2) := by decide +kernel
theorem dX4_undo_43 : decode cX4_undo 43 = .ok (.iaload, 1) := by decide +kernel
theorem dX4_undo_44 : decode cX4_undo 44 = .ok (.imul, 1) := by decide +kernel
theorem dX4_undo_45 : decode cX4_undo 45 = .ok (.iadd, 1) := by decide +kernel
theorem dX4_undo_46 : decode cX4_undo 46 = .ok (.iaload, 1) := by decide +kernel
theorem dX4_undo_47 : decode cX4_undo 47 = .ok (.iastore, 1) := by decide +kernel
theorem dX4_undo_48 : decode cX4_undo 48 = .ok (.aload_n 0, 1) := by decide +kernel
theorem dX4_undo_49 : decode cX4_undo 49 = .ok (.getfield 35, 3) := by decide +kernel
theorem dX4_undo_52 : decode cX4_undo 52 = .ok (.bipush 121, 2) := by decide +kernel
theorem dX4_undo_54 : decode cX4_undo 54 = .ok (.aload_n 0, 1) := by decide +kernel
theorem dX4_undo_55 : decode cX4_undo 55 = .ok (.getfield 35, 3) := by decide +kernel
theorem dX4_undo_58 : decode cX4_undo 58 = .ok (.bipush 123, 2) := by decide +kernel
theorem dX4_undo_60 : decode cX4_undo 60 = .ok (.iconst 2, 1) := by decide +kernel
theorem dX4_undo_61 : decode cX4_undo 61 = .ok (.aload_n 0, 1) := by decide +kernel
theorem dX4_undo_62 : decode cX4_undo 62 = .ok (.getfield 35, 3) := by decide +kernel
theorem dX4_undo_65 : decode cX4_undo 65 = .ok (.bipush 122, 2) := by decide +kernel
theorem dX4_undo_67 : decode cX4_undo 67 = .ok (.iaload, 1) := by decide +kernel
theorem dX4_undo_68 : decode cX4_undo 68 = .ok (.imul, 1) := by decide +kernel
theorem dX4_undo_69 : decode cX4_undo 69 = .ok (.iadd, 1) := by decide +kernel
theorem dX4_undo_70 : decode cX4_undo 70 = .ok (.iconst 1, 1) := by decide +kernel
theorem dX4_undo_71 : decode cX4_undo 71 = .ok (.iadd, 1) := by decide +kernel
theorem dX4_undo_72 : decode cX4_undo 72 = .ok (.iaload, 1) := by decide +kernel
theorem dX4_undo_73 : decode cX4_undo 73 = .ok (.iastore, 1) := by decide +kernel
theorem dX4_undo_74 : decode cX4_undo 74 = .ok (.aload_n 0, 1) := by decide +kernel
theorem dX4_undo_75 : decode cX4_undo 75 = .ok (.getfield 35, 3) := by decide +kernel
theorem dX4_undo_78 : decode cX4_undo 78 = .ok (.bipush 122, 2) := by decide +kernel
theorem dX4_undo_80 : decode cX4_undo 80 = .ok (.iaload, 1) := by decide +kernel
theorem dX4_undo_81 : decode cX4_undo 81 = .ok (.ireturn, 1) := by decide +kernel
theorem dX4_farthest_0 : decode cX4_farthest 0 = .ok (.bipush (-9), 2) := by decide +kernel
theorem dX4_farthest_2 : decode cX4_farthest 2 = .ok (.istore_n 1, 1) := by decide +kernel
theorem dX4_farthest_3 : decode cX4_farthest 3 = .ok (.iconst 0, 1) := by decide +kernel
theorem dX4_farthest_4 : decode cX4_farthest 4 = .ok (.istore_n 2, 1) := by decide +kernel
theorem dX4_farthest_5 : decode cX4_farthest 5 = .ok (.iload_n 2, 1) := by decide +kernel
theorem dX4_farthest_6 : decode cX4_farthest 6 = .ok (.aload_n 0, 1) := by decide +kernel
theorem dX4_farthest_7 : decode cX4_farthest 7 = .ok (.getfield 35, 3) := by decide +kernel
end
section
theorem dX4_farthest_10 : decode cX4_farthest 10 = .ok (.bipush 120, 2) := by decide +kernel
theorem dX4_farthest_12 : decode cX4_farthest 12 = .ok (.iaload, 1) := by decide +kernel
theorem dX4_farthest_13 : decode cX4_farthest 13 = .ok (.if_icmp .ge 34, 3) := by decide +kernel
theorem dX4_farthest_16 : decode cX4_farthest 16 = .ok (.iload_n 1, 1) := by decide +kernel
theorem dX4_farthest_17 : decode cX4_farthest 17 = .ok (.bipush (-9), 2) := by decide +kernel
theorem dX4_farthest_19 : decode cX4_farthest 19 = .ok (.if_icmp .eq 16, 3) := by decide +kernel
theorem dX4_farthest_22 : decode cX4_farthest 22 = .ok (.aload_n 0, 1) := by decide +kernel
theorem dX4_farthest_23 : decode cX4_farthest 23 = .ok (.iload_n 2, 1) := by decide +kernel
theorem dX4_farthest_24 : decode cX4_farthest 24 = .ok (.invokevirtual 142, 3) := by decide +kernel
theorem dX4_farthest_27 : decode cX4_farthest 27 = .ok (.aload_n 0, 1) := by decide +kernel
theorem dX4_farthest_28 : decode cX4_farthest 28 = .ok (.iload_n 1, 1) := by decide +kernel
theorem dX4_farthest_29 : decode cX4_farthest 29 = .ok (.invokevirtual 142, 3) := by decide +kernel
theorem dX4_farthest_32 : decode cX4_farthest 32 = .ok (.if_icmp .le 7, 3) := by decide +kernel
theorem dX4_farthest_35 : decode cX4_farthest 35 = .ok (.iload_n 2, 1) := by decide +kernel
theorem dX4_farthest_36 : decode cX4_farthest 36 = .ok (.goto 4, 3) := by decide +kernel
theorem dX4_farthest_39 : decode cX4_farthest 39 = .ok (.iload_n 1, 1) := by decide +kernel
theorem dX4_farthest_40 : decode cX4_farthest 40 = .ok (.istore_n 1, 1) := by decide +kernel
theorem dX4_farthest_41 : decode cX4_farthest 41 = .ok (.iinc 2 1, 3) := by decide +kernel
theorem dX4_farthest_44 : decode cX4_farthest 44 = .ok (.goto (-39), 3) := by decide +kernel
theorem dX4_farthest_47 : decode cX4_farthest 47 = .ok (.iload_n 1, 1) := by decide +kernel
theorem dX4_farthest_48 : decode cX4_farthest 48 = .ok (.ireturn, 1) := by decide +kernel
theorem dX4_silent_0 : decode cX4_silent 0 = .ok (.iconst 0, 1) := by decide +kernel
theorem dX4_silent_1 : decode cX4_silent 1 = .ok (.istore_n 1, 1) := by decide +kernel
theorem dX4_silent_2 : decode cX4_silent 2 = .ok (.iload_n 1, 1) := by decide +kernel
theorem dX4_silent_3 : decode cX4_silent 3 = .ok (.bipush 9, 2) := by decide +kernel
theorem dX4_silent_5 : decode cX4_silent 5 = .ok (.if_icmp .gt 56, 3) := by decide +kernel
theorem dX4_silent_8 : decode cX4_silent 8 = .ok (.iconst 0, 1) := by decide +kernel
theorem dX4_silent_9 : decode cX4_silent 9 = .ok (.istore_n 2, 1) := by decide +kernel
theorem dX4_silent_10 : decode cX4_silent 10 = .ok (.iconst 0, 1) := by decide +kernel
theorem dX4_silent_11 : decode cX4_silent 11 = .ok (.istore_n 3, 1) := by decide +kernel
theorem dX4_silent_12 : decode cX4_silent 12 = .ok (.iload_n 3, 1) := by decide +kernel
theorem dX4_silent_13 : decode cX4_silent 13 = .ok (.aload_n 0, 1) := by decide +kernel
theorem dX4_silent_14 : decode cX4_silent 14 = .ok (.getfield 26, 3) := by decide +kernel
theorem dX4_silent_17 : decode cX4_silent 17 = .ok (.iconst 0, 1) := by decide +kernel
theorem dX4_silent_18 : decode cX4_silent 18 = .ok (.iaload, 1) := by decide +kernel
theorem dX4_silent_19 : decode cX4_silent 19 = .ok (.if_icmp .ge 30, 3) := by decide +kernel
theorem dX4_silent_22 : decode cX4_silent 22 = .ok (.iload_n 2, 1) := by decide +kernel
theorem dX4_silent_23 : decode cX4_silent 23 = .ok (.aload_n 0, 1) := by decide +kernel
theorem dX4_silent_24 : decode cX4_silent 24 = .ok (.iload_n 3, 1) := by decide +kernel
theorem dX4_silent_25 : decode cX4_silent 25 = .ok (.aload_n 0, 1) := by decide +kernel
theorem dX4_silent_26 : decode cX4_silent 26 = .ok (.aload_n 0, 1) := by decide +kernel
theorem dX4_silent_27 : decode cX4_silent 27 = .ok (.getfield 35, 3) := by decide +kernel
theorem dX4_silent_30 : decode cX4_silent 30 = .ok (.bipush 121, 2) := by decide +kernel
theorem dX4_silent_32 : decode cX4_silent 32 = .ok (.iaload, 1) := by decide +kernel
theorem dX4_silent_33 : decode cX4_silent 33 = .ok (.iload_n 1, 1) := by decide +kernel
theorem dX4_silent_34 : decode cX4_silent 34 = .ok (.iadd, 1) := by decide +kernel
theorem dX4_silent_35 : decode cX4_silent 35 = .ok (.invokevirtual 133, 3) := by decide +kernel
theorem dX4_silent_38 : decode cX4_silent 38 = .ok (.invokevirtual 136, 3) := by decide +kernel
theorem dX4_silent_41 : decode cX4_silent 41 = .ok (.ior, 1) := by decide +kernel
theorem dX4_silent_42 : decode cX4_silent 42 = .ok (.istore_n 2, 1) := by decide +kernel
theorem dX4_silent_43 : decode cX4_silent 43 = .ok (.iinc 3 1, 3) := by decide +kernel
theorem dX4_silent_46 : decode cX4_silent 46 = .ok (.goto (-34), 3) := by decide +kernel
theorem dX4_silent_49 : decode cX4_silent 49 = .ok (.iload_n 2, 1) := by decide +kernel
theorem dX4_silent_50 : decode cX4_silent 50 = .ok (.ifCond .ne 5, 3) := by decide +kernel
theorem dX4_silent_53 : decode cX4_silent 53 = .ok (.iload_n 1, 1) := by decide +kernel
theorem dX4_silent_54 : decode cX4_silent 54 = .ok (.ireturn, 1) := by decide +kernel
theorem dX4_silent_55 : decode cX4_silent 55 = .ok (.iinc 1 1, 3) := by decide +kernel
theorem dX4_silent_58 : decode cX4_silent 58 = .ok (.goto (-56), 3) := by decide +kernel
theorem dX4_silent_61 : decode cX4_silent 61 = .ok (.bipush (-9), 2) := by decide +kernel
theorem dX4_silent_63 : decode cX4_silent 63 = .ok (.ireturn, 1) := by decide +kernel
theorem dX4_now_0 : decode cX4_now 0 = .ok (.iconst 0, 1) := by decide +kernel
theorem dX4_now_1 : decode cX4_now 1 = .ok (.istore_n 2, 1) := by decide +kernel
theorem dX4_now_2 : decode cX4_now 2 = .ok (.iload_n 1, 1) := by decide +kernel
theorem dX4_now_3 : decode cX4_now 3 = .ok (.tableswitch 220 0 7 #[45, 53, 61, 73, 112, 117, 142, 215], 45) := by decide +kernel
theorem dX4_now_48 : decode cX4_now 48 = .ok (.aload_n 0, 1) := by decide +kernel
theorem dX4_now_49 : decode cX4_now 49 = .ok (.getfield 35, 3) := by decide +kernel
theorem dX4_now_52 : decode cX4_now 52 = .ok (.bipush 121, 2) := by decide +kernel
theorem dX4_now_54 : decode cX4_now 54 = .ok (.iaload, 1) := by decide +kernel
theorem dX4_now_55 : decode cX4_now 55 = .ok (.ireturn, 1) := by decide +kernel
theorem dX4_now_56 : decode cX4_now 56 = .ok (.aload_n 0, 1) := by decide +kernel
theorem dX4_now_57 : decode cX4_now 57 = .ok (.getfield 35, 3) := by decide +kernel
theorem dX4_now_60 : decode cX4_now 60 = .ok (.bipush 120, 2) := by decide +kernel
theorem dX4_now_62 : decode cX4_now 62 = .ok (.iaload, 1) := by decide +kernel
theorem dX4_now_63 : decode cX4_now 63 = .ok (.ireturn, 1) := by decide +kernel
theorem dX4_now_64 : decode cX4_now 64 = .ok (.aload_n 0, 1) := by decide +kernel
theorem dX4_now_65 : decode cX4_now 65 = .ok (.aload_n 0, 1) := by decide +kernel
theorem dX4_now_66 : decode cX4_now 66 = .ok (.getfield 35, 3) := by decide +kernel
theorem dX4_now_69 : decode cX4_now 69 = .ok (.bipush 121, 2) := by decide +kernel
theorem dX4_now_71 : decode cX4_now 71 = .ok (.iaload, 1) := by decide +kernel
theorem dX4_now_72 : decode cX4_now 72 = .ok (.invokevirtual 133, 3) := by decide +kernel
theorem dX4_now_75 : decode cX4_now 75 = .ok (.ireturn, 1) := by decide +kernel
theorem dX4_now_76 : decode cX4_now 76 = .ok (.iconst 0, 1) := by decide +kernel
theorem dX4_now_77 : decode cX4_now 77 = .ok (.istore_n 3, 1) := by decide +kernel
theorem dX4_now_78 : decode cX4_now 78 = .ok (.iload_n 3, 1) := by decide +kernel
theorem dX4_now_79 : decode cX4_now 79 = .ok (.aload_n 0, 1) := by decide +kernel
theorem dX4_now_80 : decode cX4_now 80 = .ok (.getfield 35, 3) := by decide +kernel
theorem dX4_now_83 : decode cX4_now 83 = .ok (.bipush 120, 2) := by decide +kernel
theorem dX4_now_85 : decode cX4_now 85 = .ok (.iaload, 1) := by decide +kernel
theorem dX4_now_86 : decode cX4_now 86 = .ok (.if_icmp .ge 27, 3) := by decide +kernel
theorem dX4_now_89 : decode cX4_now 89 = .ok (.iload_n 2, 1) := by decide +kernel
theorem dX4_now_90 : decode cX4_now 90 = .ok (.aload_n 0, 1) := by decide +kernel
theorem dX4_now_91 : decode cX4_now 91 = .ok (.iload_n 3, 1) := by decide +kernel
theorem dX4_now_92 : decode cX4_now 92 = .ok (.invokevirtual 145, 3) := by decide +kernel
theorem dX4_now_95 : decode cX4_now 95 = .ok (.bipush (-9), 2) := by decide +kernel
theorem dX4_now_97 : decode cX4_now 97 = .ok (.if_icmp .ne 7, 3) := by decide +kernel
theorem dX4_now_100 : decode cX4_now 100 = .ok (.iconst 1, 1) := by decide +kernel
theorem dX4_now_101 : decode cX4_now 101 = .ok (.goto 4, 3) := by decide +kernel
theorem dX4_now_104 : decode cX4_now 104 = .ok (.iconst 0, 1) := by decide +kernel
theorem dX4_now_105 : decode cX4_now 105 = .ok (.iadd, 1) := by decide +kernel
theorem dX4_now_106 : decode cX4_now 106 = .ok (.istore_n 2, 1) := by decide +kernel
theorem dX4_now_107 : decode cX4_now 107 = .ok (.iinc 3 1, 3) := by decide +kernel
theorem dX4_now_110 : decode cX4_now 110 = .ok (.goto (-32), 3) := by decide +kernel
theorem dX4_now_113 : decode cX4_now 113 = .ok (.iload_n 2, 1) := by decide +kernel
theorem dX4_now_114 : decode cX4_now 114 = .ok (.ireturn, 1) := by decide +kernel
theorem dX4_now_115 : decode cX4_now 115 = .ok (.aload_n 0, 1) := by decide +kernel
theorem dX4_now_116 : decode cX4_now 116 = .ok (.invokevirtual 155, 3) := by decide +kernel
theorem dX4_now_119 : decode cX4_now 119 = .ok (.ireturn, 1) := by decide +kernel
theorem dX4_now_120 : decode cX4_now 120 = .ok (.aload_n 0, 1) := by decide +kernel
theorem dX4_now_121 : decode cX4_now 121 = .ok (.getfield 35, 3) := by decide +kernel
theorem dX4_now_124 : decode cX4_now 124 = .ok (.bipush 120, 2) := by decide +kernel
theorem dX4_now_126 : decode cX4_now 126 = .ok (.iaload, 1) := by decide +kernel
theorem dX4_now_127 : decode cX4_now 127 = .ok (.ifCond .ne 8, 3) := by decide +kernel
theorem dX4_now_130 : decode cX4_now 130 = .ok (.bipush (-9), 2) := by decide +kernel
theorem dX4_now_132 : decode cX4_now 132 = .ok (.goto 12, 3) := by decide +kernel
theorem dX4_now_135 : decode cX4_now 135 = .ok (.aload_n 0, 1) := by decide +kernel
theorem dX4_now_136 : decode cX4_now 136 = .ok (.getfield 35, 3) := by decide +kernel
theorem dX4_now_139 : decode cX4_now 139 = .ok (.bipush 120, 2) := by decide +kernel
theorem dX4_now_141 : decode cX4_now 141 = .ok (.iaload, 1) := by decide +kernel
theorem dX4_now_142 : decode cX4_now 142 = .ok (.iconst 1, 1) := by decide +kernel
theorem dX4_now_143 : decode cX4_now 143 = .ok (.isub, 1) := by decide +kernel
theorem dX4_now_144 : decode cX4_now 144 = .ok (.ireturn, 1) := by decide +kernel
theorem dX4_now_145 : decode cX4_now 145 = .ok (.iconst 0, 1) := by decide +kernel
theorem dX4_now_146 : decode cX4_now 146 = .ok (.istore_n 3, 1) := by decide +kernel
theorem dX4_now_147 : decode cX4_now 147 = .ok (.iload_n 3, 1) := by decide +kernel
theorem dX4_now_148 : decode cX4_now 148 = .ok (.aload_n 0, 1) := by decide +kernel
theorem dX4_now_149 : decode cX4_now 149 = .ok (.getfield 35, 3) := by decide +kernel
theorem dX4_now_152 : decode cX4_now 152 = .ok (.bipush 120, 2) := by decide +kernel
theorem dX4_now_154 : decode cX4_now 154 = .ok (.iaload, 1) := by decide +kernel
theorem dX4_now_155 : decode cX4_now 155 = .ok (.if_icmp .ge 61, 3) := by decide +kernel
theorem dX4_now_158 : decode cX4_now 158 = .ok (.aload_n 0, 1) := by decide +kernel
theorem dX4_now_159 : decode cX4_now 159 = .ok (.getfield 35, 3) := by decide +kernel
theorem dX4_now_162 : decode cX4_now 162 = .ok (.bipush 90, 2) := by decide +kernel
theorem dX4_now_164 : decode cX4_now 164 = .ok (.iload_n 3, 1) := by decide +kernel
theorem dX4_now_165 : decode cX4_now 165 = .ok (.iadd, 1) := by decide +kernel
theorem dX4_now_166 : decode cX4_now 166 = .ok (.iaload, 1) := by decide +kernel
theorem dX4_now_167 : decode cX4_now 167 = .ok (.bipush (-9), 2) := by decide +kernel
theorem dX4_now_169 : decode cX4_now 169 = .ok (.if_icmp .ne 11, 3) := by decide +kernel
theorem dX4_now_172 : decode cX4_now 172 = .ok (.aload_n 0, 1) := by decide +kernel
theorem dX4_now_173 : decode cX4_now 173 = .ok (.iload_n 3, 1) := by decide +kernel
theorem dX4_now_174 : decode cX4_now 174 = .ok (.invokevirtual 145, 3) := by decide +kernel
theorem dX4_now_177 : decode cX4_now 177 = .ok (.goto 5, 3) := by decide +kernel
theorem dX4_now_180 : decode cX4_now 180 = .ok (.bipush (-9), 2) := by decide +kernel
theorem dX4_now_182 : decode cX4_now 182 = .ok (.istore 4, 2) := by decide +kernel
theorem dX4_now_184 : decode cX4_now 184 = .ok (.iload_n 2, 1) := by decide +kernel
theorem dX4_now_185 : decode cX4_now 185 = .ok (.iload 4, 2) := by decide +kernel
theorem dX4_now_187 : decode cX4_now 187 = .ok (.bipush (-9), 2) := by decide +kernel
theorem dX4_now_189 : decode cX4_now 189 = .ok (.if_icmp .ne 7, 3) := by decide +kernel
theorem dX4_now_192 : decode cX4_now 192 = .ok (.iconst 0, 1) := by decide +kernel
theorem dX4_now_193 : decode cX4_now 193 = .ok (.goto 15, 3) := by decide +kernel
theorem dX4_now_196 : decode cX4_now 196 = .ok (.iconst 1, 1) := by decide +kernel
theorem dX4_now_197 : decode cX4_now 197 = .ok (.aload_n 0, 1) := by decide +kernel
theorem dX4_now_198 : decode cX4_now 198 = .ok (.getfield 35, 3) := by decide +kernel
theorem dX4_now_201 : decode cX4_now 201 = .ok (.bipush 60, 2) := by decide +kernel
theorem dX4_now_203 : decode cX4_now 203 = .ok (.iload 4, 2) := by decide +kernel
theorem dX4_now_205 : decode cX4_now 205 = .ok (.iadd, 1) := by decide +kernel
theorem dX4_now_206 : decode cX4_now 206 = .ok (.iaload, 1) := by decide +kernel
theorem dX4_now_207 : decode cX4_now 207 = .ok (.ishl, 1) := by decide +kernel
theorem dX4_now_208 : decode cX4_now 208 = .ok (.ior, 1) := by decide +kernel
theorem dX4_now_209 : decode cX4_now 209 = .ok (.istore_n 2, 1) := by decide +kernel
theorem dX4_now_210 : decode cX4_now 210 = .ok (.iinc 3 1, 3) := by decide +kernel
theorem dX4_now_213 : decode cX4_now 213 = .ok (.goto (-66), 3) := by decide +kernel
theorem dX4_now_216 : decode cX4_now 216 = .ok (.iload_n 2, 1) := by decide +kernel
theorem dX4_now_217 : decode cX4_now 217 = .ok (.ireturn, 1) := by decide +kernel
theorem dX4_now_218 : decode cX4_now 218 = .ok (.aload_n 0, 1) := by decide +kernel
theorem dX4_now_219 : decode cX4_now 219 = .ok (.invokevirtual 158, 3) := by decide +kernel
theorem dX4_now_222 : decode cX4_now 222 = .ok (.ireturn, 1) := by decide +kernel
theorem dX4_now_223 : decode cX4_now 223 = .ok (.iconst (-1), 1) := by decide +kernel
theorem dX4_now_224 : decode cX4_now 224 = .ok (.ireturn, 1) := by decide +kernel
theorem dX4_worth_0 : decode cX4_worth 0 = .ok (.iload_n 1, 1) := by decide +kernel
theorem dX4_worth_1 : decode cX4_worth 1 = .ok (.iconst 0, 1) := by decide +kernel
theorem dX4_worth_2 : decode cX4_worth 2 = .ok (.aload_n 0, 1) := by decide +kernel
theorem dX4_worth_3 : decode cX4_worth 3 = .ok (.getfield 35, 3) := by decide +kernel
theorem dX4_worth_6 : decode cX4_worth 6 = .ok (.bipush 120, 2) := by decide +kernel
theorem dX4_worth_8 : decode cX4_worth 8 = .ok (.iaload, 1) := by decide +kernel
theorem dX4_worth_9 : decode cX4_worth 9 = .ok (.iconst 1, 1) := by decide +kernel
theorem dX4_worth_10 : decode cX4_worth 10 = .ok (.isub, 1) := by decide +kernel
theorem dX4_worth_11 : decode cX4_worth 11 = .ok (.invokestatic 57, 3) := by decide +kernel
theorem dX4_worth_14 : decode cX4_worth 14 = .ok (.ifCond .eq 17, 3) := by decide +kernel
theorem dX4_worth_17 : decode cX4_worth 17 = .ok (.aload_n 0, 1) := by decide +kernel
theorem dX4_worth_18 : decode cX4_worth 18 = .ok (.getfield 35, 3) := by decide +kernel
theorem dX4_worth_21 : decode cX4_worth 21 = .ok (.bipush 90, 2) := by decide +kernel
theorem dX4_worth_23 : decode cX4_worth 23 = .ok (.iload_n 1, 1) := by decide +kernel
theorem dX4_worth_24 : decode cX4_worth 24 = .ok (.iadd, 1) := by decide +kernel
theorem dX4_worth_25 : decode cX4_worth 25 = .ok (.iaload, 1) := by decide +kernel
theorem dX4_worth_26 : decode cX4_worth 26 = .ok (.bipush (-9), 2) := by decide +kernel
theorem dX4_worth_28 : decode cX4_worth 28 = .ok (.if_icmp .eq 5, 3) := by decide +kernel
theorem dX4_worth_31 : decode cX4_worth 31 = .ok (.iconst (-1), 1) := by decide +kernel
theorem dX4_worth_32 : decode cX4_worth 32 = .ok (.ireturn, 1) := by decide +kernel
theorem dX4_worth_33 : decode cX4_worth 33 = .ok (.iconst 0, 1) := by decide +kernel
theorem dX4_worth_34 : decode cX4_worth 34 = .ok (.istore_n 2, 1) := by decide +kernel
theorem dX4_worth_35 : decode cX4_worth 35 = .ok (.iconst 0, 1) := by decide +kernel
theorem dX4_worth_36 : decode cX4_worth 36 = .ok (.istore_n 3, 1) := by decide +kernel
theorem dX4_worth_37 : decode cX4_worth 37 = .ok (.iload_n 3, 1) := by decide +kernel
theorem dX4_worth_38 : decode cX4_worth 38 = .ok (.aload_n 0, 1) := by decide +kernel
theorem dX4_worth_39 : decode cX4_worth 39 = .ok (.getfield 35, 3) := by decide +kernel
theorem dX4_worth_42 : decode cX4_worth 42 = .ok (.bipush 120, 2) := by decide +kernel
theorem dX4_worth_44 : decode cX4_worth 44 = .ok (.iaload, 1) := by decide +kernel
theorem dX4_worth_45 : decode cX4_worth 45 = .ok (.if_icmp .ge 38, 3) := by decide +kernel
theorem dX4_worth_48 : decode cX4_worth 48 = .ok (.iload_n 2, 1) := by decide +kernel
theorem dX4_worth_49 : decode cX4_worth 49 = .ok (.aload_n 0, 1) := by decide +kernel
theorem dX4_worth_50 : decode cX4_worth 50 = .ok (.iload_n 3, 1) := by decide +kernel
theorem dX4_worth_51 : decode cX4_worth 51 = .ok (.invokevirtual 139, 3) := by decide +kernel
theorem dX4_worth_54 : decode cX4_worth 54 = .ok (.iload_n 1, 1) := by decide +kernel
theorem dX4_worth_55 : decode cX4_worth 55 = .ok (.if_icmp .ne 19, 3) := by decide +kernel
theorem dX4_worth_58 : decode cX4_worth 58 = .ok (.aload_n 0, 1) := by decide +kernel
theorem dX4_worth_59 : decode cX4_worth 59 = .ok (.getfield 17, 3) := by decide +kernel
theorem dX4_worth_62 : decode cX4_worth 62 = .ok (.aload_n 0, 1) := by decide +kernel
theorem dX4_worth_63 : decode cX4_worth 63 = .ok (.getfield 35, 3) := by decide +kernel
theorem dX4_worth_66 : decode cX4_worth 66 = .ok (.iconst 0, 1) := by decide +kernel
theorem dX4_worth_67 : decode cX4_worth 67 = .ok (.iload_n 3, 1) := by decide +kernel
theorem dX4_worth_68 : decode cX4_worth 68 = .ok (.iadd, 1) := by decide +kernel
theorem dX4_worth_69 : decode cX4_worth 69 = .ok (.iaload, 1) := by decide +kernel
theorem dX4_worth_70 : decode cX4_worth 70 = .ok (.iaload, 1) := by decide +kernel
theorem dX4_worth_71 : decode cX4_worth 71 = .ok (.goto 4, 3) := by decide +kernel
theorem dX4_worth_74 : decode cX4_worth 74 = .ok (.iconst 0, 1) := by decide +kernel
theorem dX4_worth_75 : decode cX4_worth 75 = .ok (.iadd, 1) := by decide +kernel
theorem dX4_worth_76 : decode cX4_worth 76 = .ok (.istore_n 2, 1) := by decide +kernel
theorem dX4_worth_77 : decode cX4_worth 77 = .ok (.iinc 3 1, 3) := by decide +kernel
theorem dX4_worth_80 : decode cX4_worth 80 = .ok (.goto (-43), 3) := by decide +kernel
theorem dX4_worth_83 : decode cX4_worth 83 = .ok (.iload_n 2, 1) := by decide +kernel
theorem dX4_worth_84 : decode cX4_worth 84 = .ok (.ireturn, 1) := by decide +kernel
theorem dX4_sayable_0 : decode cX4_sayable 0 = .ok (.iconst 0, 1) := by decide +kernel
theorem dX4_sayable_1 : decode cX4_sayable 1 = .ok (.istore_n 1, 1) := by decide +kernel
theorem dX4_sayable_2 : decode cX4_sayable 2 = .ok (.iconst 0, 1) := by decide +kernel
theorem dX4_sayable_3 : decode cX4_sayable 3 = .ok (.istore_n 2, 1) := by decide +kernel
theorem dX4_sayable_4 : decode cX4_sayable 4 = .ok (.iload_n 2, 1) := by decide +kernel
theorem dX4_sayable_5 : decode cX4_sayable 5 = .ok (.aload_n 0, 1) := by decide +kernel
theorem dX4_sayable_6 : decode cX4_sayable 6 = .ok (.getfield 13, 3) := by decide +kernel
theorem dX4_sayable_9 : decode cX4_sayable 9 = .ok (.iconst 0, 1) := by decide +kernel
theorem dX4_sayable_10 : decode cX4_sayable 10 = .ok (.iaload, 1) := by decide +kernel
theorem dX4_sayable_11 : decode cX4_sayable 11 = .ok (.if_icmp .ge 35, 3) := by decide +kernel
theorem dX4_sayable_14 : decode cX4_sayable 14 = .ok (.iload_n 1, 1) := by decide +kernel
theorem dX4_sayable_15 : decode cX4_sayable 15 = .ok (.aload_n 0, 1) := by decide +kernel
theorem dX4_sayable_16 : decode cX4_sayable 16 = .ok (.iload_n 2, 1) := by decide +kernel
theorem dX4_sayable_17 : decode cX4_sayable 17 = .ok (.invokevirtual 120, 3) := by decide +kernel
theorem dX4_sayable_20 : decode cX4_sayable 20 = .ok (.ifCond .ne 17, 3) := by decide +kernel
theorem dX4_sayable_23 : decode cX4_sayable 23 = .ok (.aload_n 0, 1) := by decide +kernel
theorem dX4_sayable_24 : decode cX4_sayable 24 = .ok (.iload_n 2, 1) := by decide +kernel
theorem dX4_sayable_25 : decode cX4_sayable 25 = .ok (.invokevirtual 123, 3) := by decide +kernel
theorem dX4_sayable_28 : decode cX4_sayable 28 = .ok (.ifCond .eq 9, 3) := by decide +kernel
theorem dX4_sayable_31 : decode cX4_sayable 31 = .ok (.iconst 1, 1) := by decide +kernel
theorem dX4_sayable_32 : decode cX4_sayable 32 = .ok (.iload_n 2, 1) := by decide +kernel
theorem dX4_sayable_33 : decode cX4_sayable 33 = .ok (.ishl, 1) := by decide +kernel
theorem dX4_sayable_34 : decode cX4_sayable 34 = .ok (.goto 4, 3) := by decide +kernel
theorem dX4_sayable_37 : decode cX4_sayable 37 = .ok (.iconst 0, 1) := by decide +kernel
theorem dX4_sayable_38 : decode cX4_sayable 38 = .ok (.ior, 1) := by decide +kernel
theorem dX4_sayable_39 : decode cX4_sayable 39 = .ok (.istore_n 1, 1) := by decide +kernel
theorem dX4_sayable_40 : decode cX4_sayable 40 = .ok (.iinc 2 1, 3) := by decide +kernel
theorem dX4_sayable_43 : decode cX4_sayable 43 = .ok (.goto (-39), 3) := by decide +kernel
theorem dX4_sayable_46 : decode cX4_sayable 46 = .ok (.iload_n 1, 1) := by decide +kernel
theorem dX4_sayable_47 : decode cX4_sayable 47 = .ok (.ireturn, 1) := by decide +kernel
theorem dX4_nextOf_0 : decode cX4_nextOf 0 = .ok (.iconst 0, 1) := by decide +kernel
theorem dX4_nextOf_1 : decode cX4_nextOf 1 = .ok (.istore_n 2, 1) := by decide +kernel
theorem dX4_nextOf_2 : decode cX4_nextOf 2 = .ok (.iconst 0, 1) := by decide +kernel
theorem dX4_nextOf_3 : decode cX4_nextOf 3 = .ok (.istore_n 3, 1) := by decide +kernel
theorem dX4_nextOf_4 : decode cX4_nextOf 4 = .ok (.iload_n 3, 1) := by decide +kernel
theorem dX4_nextOf_5 : decode cX4_nextOf 5 = .ok (.aload_n 0, 1) := by decide +kernel
theorem dX4_nextOf_6 : decode cX4_nextOf 6 = .ok (.getfield 13, 3) := by decide +kernel
theorem dX4_nextOf_9 : decode cX4_nextOf 9 = .ok (.iconst 0, 1) := by decide +kernel
theorem dX4_nextOf_10 : decode cX4_nextOf 10 = .ok (.iaload, 1) := by decide +kernel
theorem dX4_nextOf_11 : decode cX4_nextOf 11 = .ok (.if_icmp .ge 42, 3) := by decide +kernel
theorem dX4_nextOf_14 : decode cX4_nextOf 14 = .ok (.iload_n 2, 1) := by decide +kernel
theorem dX4_nextOf_15 : decode cX4_nextOf 15 = .ok (.aload_n 0, 1) := by decide +kernel
theorem dX4_nextOf_16 : decode cX4_nextOf 16 = .ok (.invokevirtual 161, 3) := by decide +kernel
theorem dX4_nextOf_19 : decode cX4_nextOf 19 = .ok (.iload_n 3, 1) := by decide +kernel
theorem dX4_nextOf_20 : decode cX4_nextOf 20 = .ok (.ishr, 1) := by decide +kernel
theorem dX4_nextOf_21 : decode cX4_nextOf 21 = .ok (.iconst 1, 1) := by decide +kernel
theorem dX4_nextOf_22 : decode cX4_nextOf 22 = .ok (.iand, 1) := by decide +kernel
theorem dX4_nextOf_23 : decode cX4_nextOf 23 = .ok (.iconst 1, 1) := by decide +kernel
theorem dX4_nextOf_24 : decode cX4_nextOf 24 = .ok (.if_icmp .ne 20, 3) := by decide +kernel
theorem dX4_nextOf_27 : decode cX4_nextOf 27 = .ok (.aload_n 0, 1) := by decide +kernel
theorem dX4_nextOf_28 : decode cX4_nextOf 28 = .ok (.getfield 20, 3) := by decide +kernel
theorem dX4_nextOf_31 : decode cX4_nextOf 31 = .ok (.iload_n 3, 1) := by decide +kernel
theorem dX4_nextOf_32 : decode cX4_nextOf 32 = .ok (.iaload, 1) := by decide +kernel
theorem dX4_nextOf_33 : decode cX4_nextOf 33 = .ok (.iload_n 1, 1) := by decide +kernel
theorem dX4_nextOf_34 : decode cX4_nextOf 34 = .ok (.iand, 1) := by decide +kernel
theorem dX4_nextOf_35 : decode cX4_nextOf 35 = .ok (.ifCond .eq 9, 3) := by decide +kernel
theorem dX4_nextOf_38 : decode cX4_nextOf 38 = .ok (.iconst 1, 1) := by decide +kernel
theorem dX4_nextOf_39 : decode cX4_nextOf 39 = .ok (.iload_n 3, 1) := by decide +kernel
theorem dX4_nextOf_40 : decode cX4_nextOf 40 = .ok (.ishl, 1) := by decide +kernel
theorem dX4_nextOf_41 : decode cX4_nextOf 41 = .ok (.goto 4, 3) := by decide +kernel
theorem dX4_nextOf_44 : decode cX4_nextOf 44 = .ok (.iconst 0, 1) := by decide +kernel
theorem dX4_nextOf_45 : decode cX4_nextOf 45 = .ok (.ior, 1) := by decide +kernel
theorem dX4_nextOf_46 : decode cX4_nextOf 46 = .ok (.istore_n 2, 1) := by decide +kernel
theorem dX4_nextOf_47 : decode cX4_nextOf 47 = .ok (.iinc 3 1, 3) := by decide +kernel
theorem dX4_nextOf_50 : decode cX4_nextOf 50 = .ok (.goto (-46), 3) := by decide +kernel
theorem dX4_nextOf_53 : decode cX4_nextOf 53 = .ok (.iload_n 2, 1) := by decide +kernel
theorem dX4_nextOf_54 : decode cX4_nextOf 54 = .ok (.ireturn, 1) := by decide +kernel
theorem dX4_reach_0 : decode cX4_reach 0 = .ok (.iconst 0, 1) := by decide +kernel
theorem dX4_reach_1 : decode cX4_reach 1 = .ok (.istore_n 2, 1) := by decide +kernel
theorem dX4_reach_2 : decode cX4_reach 2 = .ok (.iconst 0, 1) := by decide +kernel
theorem dX4_reach_3 : decode cX4_reach 3 = .ok (.istore_n 3, 1) := by decide +kernel
theorem dX4_reach_4 : decode cX4_reach 4 = .ok (.iload_n 3, 1) := by decide +kernel
theorem dX4_reach_5 : decode cX4_reach 5 = .ok (.bipush 8, 2) := by decide +kernel
theorem dX4_reach_7 : decode cX4_reach 7 = .ok (.if_icmp .gt 17, 3) := by decide +kernel
theorem dX4_reach_10 : decode cX4_reach 10 = .ok (.aload_n 0, 1) := by decide +kernel
theorem dX4_reach_11 : decode cX4_reach 11 = .ok (.iload_n 1, 1) := by decide +kernel
theorem dX4_reach_12 : decode cX4_reach 12 = .ok (.iload_n 2, 1) := by decide +kernel
theorem dX4_reach_13 : decode cX4_reach 13 = .ok (.ior, 1) := by decide +kernel
theorem dX4_reach_14 : decode cX4_reach 14 = .ok (.invokevirtual 164, 3) := by decide +kernel
theorem dX4_reach_17 : decode cX4_reach 17 = .ok (.istore_n 2, 1) := by decide +kernel
theorem dX4_reach_18 : decode cX4_reach 18 = .ok (.iinc 3 1, 3) := by decide +kernel
theorem dX4_reach_21 : decode cX4_reach 21 = .ok (.goto (-17), 3) := by decide +kernel
theorem dX4_reach_24 : decode cX4_reach 24 = .ok (.iload_n 2, 1) := by decide +kernel
theorem dX4_reach_25 : decode cX4_reach 25 = .ok (.ireturn, 1) := by decide +kernel
theorem dX4_chainOf_0 : decode cX4_chainOf 0 = .ok (.iconst 0, 1) := by decide +kernel
theorem dX4_chainOf_1 : decode cX4_chainOf 1 = .ok (.istore_n 3, 1) := by decide +kernel
theorem dX4_chainOf_2 : decode cX4_chainOf 2 = .ok (.iconst 1, 1) := by decide +kernel
theorem dX4_chainOf_3 : decode cX4_chainOf 3 = .ok (.istore 4, 2) := by decide +kernel
theorem dX4_chainOf_5 : decode cX4_chainOf 5 = .ok (.iload 4, 2) := by decide +kernel
theorem dX4_chainOf_7 : decode cX4_chainOf 7 = .ok (.bipush 8, 2) := by decide +kernel
theorem dX4_chainOf_9 : decode cX4_chainOf 9 = .ok (.if_icmp .gt 31, 3) := by decide +kernel
theorem dX4_chainOf_12 : decode cX4_chainOf 12 = .ok (.iload_n 3, 1) := by decide +kernel
theorem dX4_chainOf_13 : decode cX4_chainOf 13 = .ok (.aload_n 0, 1) := by decide +kernel
theorem dX4_chainOf_14 : decode cX4_chainOf 14 = .ok (.iload_n 2, 1) := by decide +kernel
theorem dX4_chainOf_15 : decode cX4_chainOf 15 = .ok (.iload_n 3, 1) := by decide +kernel
theorem dX4_chainOf_16 : decode cX4_chainOf 16 = .ok (.ior, 1) := by decide +kernel
theorem dX4_chainOf_17 : decode cX4_chainOf 17 = .ok (.invokevirtual 164, 3) := by decide +kernel
theorem dX4_chainOf_20 : decode cX4_chainOf 20 = .ok (.ior, 1) := by decide +kernel
theorem dX4_chainOf_21 : decode cX4_chainOf 21 = .ok (.istore_n 3, 1) := by decide +kernel
theorem dX4_chainOf_22 : decode cX4_chainOf 22 = .ok (.iload_n 3, 1) := by decide +kernel
theorem dX4_chainOf_23 : decode cX4_chainOf 23 = .ok (.iload_n 1, 1) := by decide +kernel
theorem dX4_chainOf_24 : decode cX4_chainOf 24 = .ok (.ishr, 1) := by decide +kernel
theorem dX4_chainOf_25 : decode cX4_chainOf 25 = .ok (.iconst 1, 1) := by decide +kernel
theorem dX4_chainOf_26 : decode cX4_chainOf 26 = .ok (.iand, 1) := by decide +kernel
theorem dX4_chainOf_27 : decode cX4_chainOf 27 = .ok (.iconst 1, 1) := by decide +kernel
theorem dX4_chainOf_28 : decode cX4_chainOf 28 = .ok (.if_icmp .ne 6, 3) := by decide +kernel
theorem dX4_chainOf_31 : decode cX4_chainOf 31 = .ok (.iload 4, 2) := by decide +kernel
theorem dX4_chainOf_33 : decode cX4_chainOf 33 = .ok (.ireturn, 1) := by decide +kernel
theorem dX4_chainOf_34 : decode cX4_chainOf 34 = .ok (.iinc 4 1, 3) := by decide +kernel
theorem dX4_chainOf_37 : decode cX4_chainOf 37 = .ok (.goto (-32), 3) := by decide +kernel
theorem dX4_chainOf_40 : decode cX4_chainOf 40 = .ok (.bipush (-9), 2) := by decide +kernel
theorem dX4_chainOf_42 : decode cX4_chainOf 42 = .ok (.ireturn, 1) := by decide +kernel
theorem dX4_chain_0 : decode cX4_chain 0 = .ok (.aload_n 0, 1) := by decide +kernel
theorem dX4_chain_1 : decode cX4_chain 1 = .ok (.iload_n 1, 1) := by decide +kernel
theorem dX4_chain_2 : decode cX4_chain 2 = .ok (.invokevirtual 117, 3) := by decide +kernel
theorem dX4_chain_5 : decode cX4_chain 5 = .ok (.ifCond .eq 8, 3) := by decide +kernel
theorem dX4_chain_8 : decode cX4_chain 8 = .ok (.iload_n 2, 1) := by decide +kernel
theorem dX4_chain_9 : decode cX4_chain 9 = .ok (.iconst (-1), 1) := by decide +kernel
theorem dX4_chain_10 : decode cX4_chain 10 = .ok (.if_icmp .ge 5, 3) := by decide +kernel
theorem dX4_chain_13 : decode cX4_chain 13 = .ok (.iconst (-1), 1) := by decide +kernel
theorem dX4_chain_14 : decode cX4_chain 14 = .ok (.ireturn, 1) := by decide +kernel
theorem dX4_chain_15 : decode cX4_chain 15 = .ok (.aload_n 0, 1) := by decide +kernel
theorem dX4_chain_16 : decode cX4_chain 16 = .ok (.aload_n 0, 1) := by decide +kernel
theorem dX4_chain_17 : decode cX4_chain 17 = .ok (.getfield 35, 3) := by decide +kernel
theorem dX4_chain_20 : decode cX4_chain 20 = .ok (.bipush 121, 2) := by decide +kernel
theorem dX4_chain_22 : decode cX4_chain 22 = .ok (.iaload, 1) := by decide +kernel
theorem dX4_chain_23 : decode cX4_chain 23 = .ok (.invokevirtual 133, 3) := by decide +kernel
theorem dX4_chain_26 : decode cX4_chain 26 = .ok (.istore_n 3, 1) := by decide +kernel
theorem dX4_chain_27 : decode cX4_chain 27 = .ok (.aload_n 0, 1) := by decide +kernel
theorem dX4_chain_28 : decode cX4_chain 28 = .ok (.iload_n 1, 1) := by decide +kernel
theorem dX4_chain_29 : decode cX4_chain 29 = .ok (.iload_n 3, 1) := by decide +kernel
theorem dX4_chain_30 : decode cX4_chain 30 = .ok (.invokevirtual 167, 3) := by decide +kernel
theorem dX4_chain_33 : decode cX4_chain 33 = .ok (.istore 4, 2) := by decide +kernel
theorem dX4_chain_35 : decode cX4_chain 35 = .ok (.iload_n 2, 1) := by decide +kernel
theorem dX4_chain_36 : decode cX4_chain 36 = .ok (.iconst (-1), 1) := by decide +kernel
theorem dX4_chain_37 : decode cX4_chain 37 = .ok (.if_icmp .eq 9, 3) := by decide +kernel
theorem dX4_chain_40 : decode cX4_chain 40 = .ok (.iload_n 2, 1) := by decide +kernel
theorem dX4_chain_41 : decode cX4_chain 41 = .ok (.iload 4, 2) := by decide +kernel
theorem dX4_chain_43 : decode cX4_chain 43 = .ok (.if_icmp .lt 16, 3) := by decide +kernel
theorem dX4_chain_46 : decode cX4_chain 46 = .ok (.iload_n 2, 1) := by decide +kernel
theorem dX4_chain_47 : decode cX4_chain 47 = .ok (.iconst (-1), 1) := by decide +kernel
theorem dX4_chain_48 : decode cX4_chain 48 = .ok (.if_icmp .ne 8, 3) := by decide +kernel
theorem dX4_chain_51 : decode cX4_chain 51 = .ok (.iload 4, 2) := by decide +kernel
theorem dX4_chain_53 : decode cX4_chain 53 = .ok (.goto 5, 3) := by decide +kernel
theorem dX4_chain_56 : decode cX4_chain 56 = .ok (.bipush (-9), 2) := by decide +kernel
theorem dX4_chain_58 : decode cX4_chain 58 = .ok (.ireturn, 1) := by decide +kernel
theorem dX4_chain_59 : decode cX4_chain 59 = .ok (.bipush (-9), 2) := by decide +kernel
theorem dX4_chain_61 : decode cX4_chain 61 = .ok (.istore 5, 2) := by decide +kernel
theorem dX4_chain_63 : decode cX4_chain 63 = .ok (.iconst 0, 1) := by decide +kernel
theorem dX4_chain_64 : decode cX4_chain 64 = .ok (.istore 6, 2) := by decide +kernel
theorem dX4_chain_66 : decode cX4_chain 66 = .ok (.iload 6, 2) := by decide +kernel
theorem dX4_chain_68 : decode cX4_chain 68 = .ok (.iload_n 2, 1) := by decide +kernel
theorem dX4_chain_69 : decode cX4_chain 69 = .ok (.if_icmp .gt 77, 3) := by decide +kernel
theorem dX4_chain_72 : decode cX4_chain 72 = .ok (.iconst 0, 1) := by decide +kernel
theorem dX4_chain_73 : decode cX4_chain 73 = .ok (.istore 5, 2) := by decide +kernel
theorem dX4_chain_75 : decode cX4_chain 75 = .ok (.iload 4, 2) := by decide +kernel
theorem dX4_chain_77 : decode cX4_chain 77 = .ok (.iload 6, 2) := by decide +kernel
theorem dX4_chain_79 : decode cX4_chain 79 = .ok (.isub, 1) := by decide +kernel
theorem dX4_chain_80 : decode cX4_chain 80 = .ok (.iconst 1, 1) := by decide +kernel
theorem dX4_chain_81 : decode cX4_chain 81 = .ok (.isub, 1) := by decide +kernel
theorem dX4_chain_82 : decode cX4_chain 82 = .ok (.istore 7, 2) := by decide +kernel
theorem dX4_chain_84 : decode cX4_chain 84 = .ok (.aload_n 0, 1) := by decide +kernel
theorem dX4_chain_85 : decode cX4_chain 85 = .ok (.iload_n 3, 1) := by decide +kernel
theorem dX4_chain_86 : decode cX4_chain 86 = .ok (.invokevirtual 164, 3) := by decide +kernel
theorem dX4_chain_89 : decode cX4_chain 89 = .ok (.iload 5, 2) := by decide +kernel
theorem dX4_chain_91 : decode cX4_chain 91 = .ok (.ishr, 1) := by decide +kernel
theorem dX4_chain_92 : decode cX4_chain 92 = .ok (.iconst 1, 1) := by decide +kernel
theorem dX4_chain_93 : decode cX4_chain 93 = .ok (.iand, 1) := by decide +kernel
theorem dX4_chain_94 : decode cX4_chain 94 = .ok (.ifCond .eq 33, 3) := by decide +kernel
theorem dX4_chain_97 : decode cX4_chain 97 = .ok (.iload 7, 2) := by decide +kernel
theorem dX4_chain_99 : decode cX4_chain 99 = .ok (.ifCond .ne 12, 3) := by decide +kernel
theorem dX4_chain_102 : decode cX4_chain 102 = .ok (.iload 5, 2) := by decide +kernel
theorem dX4_chain_104 : decode cX4_chain 104 = .ok (.iload_n 1, 1) := by decide +kernel
theorem dX4_chain_105 : decode cX4_chain 105 = .ok (.if_icmp .eq 28, 3) := by decide +kernel
theorem dX4_chain_108 : decode cX4_chain 108 = .ok (.goto 19, 3) := by decide +kernel
theorem dX4_chain_111 : decode cX4_chain 111 = .ok (.aload_n 0, 1) := by decide +kernel
theorem dX4_chain_112 : decode cX4_chain 112 = .ok (.iload_n 1, 1) := by decide +kernel
theorem dX4_chain_113 : decode cX4_chain 113 = .ok (.iload_n 3, 1) := by decide +kernel
theorem dX4_chain_114 : decode cX4_chain 114 = .ok (.iconst 1, 1) := by decide +kernel
theorem dX4_chain_115 : decode cX4_chain 115 = .ok (.iload 5, 2) := by decide +kernel
theorem dX4_chain_117 : decode cX4_chain 117 = .ok (.ishl, 1) := by decide +kernel
theorem dX4_chain_118 : decode cX4_chain 118 = .ok (.ior, 1) := by decide +kernel
theorem dX4_chain_119 : decode cX4_chain 119 = .ok (.invokevirtual 167, 3) := by decide +kernel
theorem dX4_chain_122 : decode cX4_chain 122 = .ok (.iload 7, 2) := by decide +kernel
theorem dX4_chain_124 : decode cX4_chain 124 = .ok (.if_icmp .eq 9, 3) := by decide +kernel
theorem dX4_chain_127 : decode cX4_chain 127 = .ok (.iinc 5 1, 3) := by decide +kernel
theorem dX4_chain_130 : decode cX4_chain 130 = .ok (.goto (-46), 3) := by decide +kernel
theorem dX4_chain_133 : decode cX4_chain 133 = .ok (.iload_n 3, 1) := by decide +kernel
theorem dX4_chain_134 : decode cX4_chain 134 = .ok (.iconst 1, 1) := by decide +kernel
theorem dX4_chain_135 : decode cX4_chain 135 = .ok (.iload 5, 2) := by decide +kernel
theorem dX4_chain_137 : decode cX4_chain 137 = .ok (.ishl, 1) := by decide +kernel
theorem dX4_chain_138 : decode cX4_chain 138 = .ok (.ior, 1) := by decide +kernel
theorem dX4_chain_139 : decode cX4_chain 139 = .ok (.istore_n 3, 1) := by decide +kernel
theorem dX4_chain_140 : decode cX4_chain 140 = .ok (.iinc 6 1, 3) := by decide +kernel
theorem dX4_chain_143 : decode cX4_chain 143 = .ok (.goto (-77), 3) := by decide +kernel
theorem dX4_chain_146 : decode cX4_chain 146 = .ok (.iload 5, 2) := by decide +kernel
theorem dX4_chain_148 : decode cX4_chain 148 = .ok (.ireturn, 1) := by decide +kernel
theorem dX4_sounds_0 : decode cX4_sounds 0 = .ok (.iload_n 1, 1) := by decide +kernel
theorem dX4_sounds_1 : decode cX4_sounds 1 = .ok (.iconst 0, 1) := by decide +kernel
theorem dX4_sounds_2 : decode cX4_sounds 2 = .ok (.iconst 1, 1) := by decide +kernel
theorem dX4_sounds_3 : decode cX4_sounds 3 = .ok (.aload_n 0, 1) := by decide +kernel
theorem dX4_sounds_4 : decode cX4_sounds 4 = .ok (.getfield 13, 3) := by decide +kernel
theorem dX4_sounds_7 : decode cX4_sounds 7 = .ok (.iconst 0, 1) := by decide +kernel
theorem dX4_sounds_8 : decode cX4_sounds 8 = .ok (.iaload, 1) := by decide +kernel
theorem dX4_sounds_9 : decode cX4_sounds 9 = .ok (.ishl, 1) := by decide +kernel
theorem dX4_sounds_10 : decode cX4_sounds 10 = .ok (.iconst 1, 1) := by decide +kernel
theorem dX4_sounds_11 : decode cX4_sounds 11 = .ok (.isub, 1) := by decide +kernel
theorem dX4_sounds_12 : decode cX4_sounds 12 = .ok (.invokestatic 57, 3) := by decide +kernel
theorem dX4_sounds_15 : decode cX4_sounds 15 = .ok (.ifCond .ne 5, 3) := by decide +kernel
theorem dX4_sounds_18 : decode cX4_sounds 18 = .ok (.iconst (-1), 1) := by decide +kernel
theorem dX4_sounds_19 : decode cX4_sounds 19 = .ok (.ireturn, 1) := by decide +kernel
theorem dX4_sounds_20 : decode cX4_sounds 20 = .ok (.bipush (-9), 2) := by decide +kernel
theorem dX4_sounds_22 : decode cX4_sounds 22 = .ok (.istore_n 2, 1) := by decide +kernel
theorem dX4_sounds_23 : decode cX4_sounds 23 = .ok (.iconst 0, 1) := by decide +kernel
theorem dX4_sounds_24 : decode cX4_sounds 24 = .ok (.istore_n 3, 1) := by decide +kernel
theorem dX4_sounds_25 : decode cX4_sounds 25 = .ok (.iload_n 3, 1) := by decide +kernel
theorem dX4_sounds_26 : decode cX4_sounds 26 = .ok (.iconst 1, 1) := by decide +kernel
theorem dX4_sounds_27 : decode cX4_sounds 27 = .ok (.aload_n 0, 1) := by decide +kernel
theorem dX4_sounds_28 : decode cX4_sounds 28 = .ok (.getfield 13, 3) := by decide +kernel
theorem dX4_sounds_31 : decode cX4_sounds 31 = .ok (.iconst 0, 1) := by decide +kernel
theorem dX4_sounds_32 : decode cX4_sounds 32 = .ok (.iaload, 1) := by decide +kernel
theorem dX4_sounds_33 : decode cX4_sounds 33 = .ok (.ishl, 1) := by decide +kernel
theorem dX4_sounds_34 : decode cX4_sounds 34 = .ok (.if_icmp .ge 90, 3) := by decide +kernel
theorem dX4_sounds_37 : decode cX4_sounds 37 = .ok (.iload_n 3, 1) := by decide +kernel
theorem dX4_sounds_38 : decode cX4_sounds 38 = .ok (.aload_n 0, 1) := by decide +kernel
theorem dX4_sounds_39 : decode cX4_sounds 39 = .ok (.getfield 23, 3) := by decide +kernel
theorem dX4_sounds_42 : decode cX4_sounds 42 = .ok (.iconst 0, 1) := by decide +kernel
theorem dX4_sounds_43 : decode cX4_sounds 43 = .ok (.iaload, 1) := by decide +kernel
theorem dX4_sounds_44 : decode cX4_sounds 44 = .ok (.iconst (-1), 1) := by decide +kernel
theorem dX4_sounds_45 : decode cX4_sounds 45 = .ok (.ixor, 1) := by decide +kernel
theorem dX4_sounds_46 : decode cX4_sounds 46 = .ok (.iand, 1) := by decide +kernel
theorem dX4_sounds_47 : decode cX4_sounds 47 = .ok (.ifCond .ne 24, 3) := by decide +kernel
theorem dX4_sounds_50 : decode cX4_sounds 50 = .ok (.iload_n 2, 1) := by decide +kernel
theorem dX4_sounds_51 : decode cX4_sounds 51 = .ok (.bipush (-9), 2) := by decide +kernel
theorem dX4_sounds_53 : decode cX4_sounds 53 = .ok (.if_icmp .eq 14, 3) := by decide +kernel
theorem dX4_sounds_56 : decode cX4_sounds 56 = .ok (.iload_n 3, 1) := by decide +kernel
theorem dX4_sounds_57 : decode cX4_sounds 57 = .ok (.invokestatic 170, 3) := by decide +kernel
theorem dX4_sounds_60 : decode cX4_sounds 60 = .ok (.iload_n 2, 1) := by decide +kernel
theorem dX4_sounds_61 : decode cX4_sounds 61 = .ok (.invokestatic 170, 3) := by decide +kernel
theorem dX4_sounds_64 : decode cX4_sounds 64 = .ok (.if_icmp .ge 7, 3) := by decide +kernel
theorem dX4_sounds_67 : decode cX4_sounds 67 = .ok (.iconst 1, 1) := by decide +kernel
theorem dX4_sounds_68 : decode cX4_sounds 68 = .ok (.goto 4, 3) := by decide +kernel
theorem dX4_sounds_71 : decode cX4_sounds 71 = .ok (.iconst 0, 1) := by decide +kernel
theorem dX4_sounds_72 : decode cX4_sounds 72 = .ok (.istore 4, 2) := by decide +kernel
theorem dX4_sounds_74 : decode cX4_sounds 74 = .ok (.iload 4, 2) := by decide +kernel
theorem dX4_sounds_76 : decode cX4_sounds 76 = .ok (.ifCond .eq 40, 3) := by decide +kernel
theorem dX4_sounds_79 : decode cX4_sounds 79 = .ok (.iload_n 1, 1) := by decide +kernel
theorem dX4_sounds_80 : decode cX4_sounds 80 = .ok (.aload_n 0, 1) := by decide +kernel
theorem dX4_sounds_81 : decode cX4_sounds 81 = .ok (.getfield 23, 3) := by decide +kernel
theorem dX4_sounds_84 : decode cX4_sounds 84 = .ok (.iconst 0, 1) := by decide +kernel
theorem dX4_sounds_85 : decode cX4_sounds 85 = .ok (.iaload, 1) := by decide +kernel
theorem dX4_sounds_86 : decode cX4_sounds 86 = .ok (.iconst (-1), 1) := by decide +kernel
theorem dX4_sounds_87 : decode cX4_sounds 87 = .ok (.ixor, 1) := by decide +kernel
theorem dX4_sounds_88 : decode cX4_sounds 88 = .ok (.iand, 1) := by decide +kernel
theorem dX4_sounds_89 : decode cX4_sounds 89 = .ok (.aload_n 0, 1) := by decide +kernel
theorem dX4_sounds_90 : decode cX4_sounds 90 = .ok (.aload_n 0, 1) := by decide +kernel
theorem dX4_sounds_91 : decode cX4_sounds 91 = .ok (.aload_n 0, 1) := by decide +kernel
theorem dX4_sounds_92 : decode cX4_sounds 92 = .ok (.getfield 35, 3) := by decide +kernel
theorem dX4_sounds_95 : decode cX4_sounds 95 = .ok (.bipush 121, 2) := by decide +kernel
theorem dX4_sounds_97 : decode cX4_sounds 97 = .ok (.iaload, 1) := by decide +kernel
theorem dX4_sounds_98 : decode cX4_sounds 98 = .ok (.invokevirtual 133, 3) := by decide +kernel
theorem dX4_sounds_101 : decode cX4_sounds 101 = .ok (.iload_n 3, 1) := by decide +kernel
theorem dX4_sounds_102 : decode cX4_sounds 102 = .ok (.ior, 1) := by decide +kernel
theorem dX4_sounds_103 : decode cX4_sounds 103 = .ok (.invokevirtual 173, 3) := by decide +kernel
theorem dX4_sounds_106 : decode cX4_sounds 106 = .ok (.iconst (-1), 1) := by decide +kernel
theorem dX4_sounds_107 : decode cX4_sounds 107 = .ok (.ixor, 1) := by decide +kernel
theorem dX4_sounds_108 : decode cX4_sounds 108 = .ok (.iand, 1) := by decide +kernel
theorem dX4_sounds_109 : decode cX4_sounds 109 = .ok (.ifCond .ne 7, 3) := by decide +kernel
theorem dX4_sounds_112 : decode cX4_sounds 112 = .ok (.iload_n 3, 1) := by decide +kernel
theorem dX4_sounds_113 : decode cX4_sounds 113 = .ok (.goto 4, 3) := by decide +kernel
theorem dX4_sounds_116 : decode cX4_sounds 116 = .ok (.iload_n 2, 1) := by decide +kernel
theorem dX4_sounds_117 : decode cX4_sounds 117 = .ok (.istore_n 2, 1) := by decide +kernel
theorem dX4_sounds_118 : decode cX4_sounds 118 = .ok (.iinc 3 1, 3) := by decide +kernel
theorem dX4_sounds_121 : decode cX4_sounds 121 = .ok (.goto (-96), 3) := by decide +kernel
theorem dX4_sounds_124 : decode cX4_sounds 124 = .ok (.iload_n 2, 1) := by decide +kernel
theorem dX4_sounds_125 : decode cX4_sounds 125 = .ok (.ireturn, 1) := by decide +kernel
theorem dX4_began_0 : decode cX4_began 0 = .ok (.iload_n 1, 1) := by decide +kernel
theorem dX4_began_1 : decode cX4_began 1 = .ok (.iconst 0, 1) := by decide +kernel
theorem dX4_began_2 : decode cX4_began 2 = .ok (.iconst 1, 1) := by decide +kernel
theorem dX4_began_3 : decode cX4_began 3 = .ok (.aload_n 0, 1) := by decide +kernel
theorem dX4_began_4 : decode cX4_began 4 = .ok (.getfield 13, 3) := by decide +kernel
theorem dX4_began_7 : decode cX4_began 7 = .ok (.iconst 0, 1) := by decide +kernel
theorem dX4_began_8 : decode cX4_began 8 = .ok (.iaload, 1) := by decide +kernel
theorem dX4_began_9 : decode cX4_began 9 = .ok (.ishl, 1) := by decide +kernel
theorem dX4_began_10 : decode cX4_began 10 = .ok (.iconst 1, 1) := by decide +kernel
theorem dX4_began_11 : decode cX4_began 11 = .ok (.isub, 1) := by decide +kernel
theorem dX4_began_12 : decode cX4_began 12 = .ok (.invokestatic 57, 3) := by decide +kernel
theorem dX4_began_15 : decode cX4_began 15 = .ok (.ifCond .ne 5, 3) := by decide +kernel
theorem dX4_began_18 : decode cX4_began 18 = .ok (.iconst (-1), 1) := by decide +kernel
theorem dX4_began_19 : decode cX4_began 19 = .ok (.ireturn, 1) := by decide +kernel
theorem dX4_began_20 : decode cX4_began 20 = .ok (.iconst 0, 1) := by decide +kernel
theorem dX4_began_21 : decode cX4_began 21 = .ok (.istore_n 2, 1) := by decide +kernel
theorem dX4_began_22 : decode cX4_began 22 = .ok (.iconst 0, 1) := by decide +kernel
theorem dX4_began_23 : decode cX4_began 23 = .ok (.istore_n 3, 1) := by decide +kernel
theorem dX4_began_24 : decode cX4_began 24 = .ok (.iload_n 3, 1) := by decide +kernel
theorem dX4_began_25 : decode cX4_began 25 = .ok (.aload_n 0, 1) := by decide +kernel
theorem dX4_began_26 : decode cX4_began 26 = .ok (.getfield 13, 3) := by decide +kernel
theorem dX4_began_29 : decode cX4_began 29 = .ok (.iconst 0, 1) := by decide +kernel
theorem dX4_began_30 : decode cX4_began 30 = .ok (.iaload, 1) := by decide +kernel
theorem dX4_began_31 : decode cX4_began 31 = .ok (.if_icmp .ge 50, 3) := by decide +kernel
theorem dX4_began_34 : decode cX4_began 34 = .ok (.iload_n 2, 1) := by decide +kernel
theorem dX4_began_35 : decode cX4_began 35 = .ok (.aload_n 0, 1) := by decide +kernel
theorem dX4_began_36 : decode cX4_began 36 = .ok (.iload_n 3, 1) := by decide +kernel
theorem dX4_began_37 : decode cX4_began 37 = .ok (.invokevirtual 120, 3) := by decide +kernel
theorem dX4_began_40 : decode cX4_began 40 = .ok (.ifCond .eq 32, 3) := by decide +kernel
theorem dX4_began_43 : decode cX4_began 43 = .ok (.iload_n 1, 1) := by decide +kernel
theorem dX4_began_44 : decode cX4_began 44 = .ok (.aload_n 0, 1) := by decide +kernel
theorem dX4_began_45 : decode cX4_began 45 = .ok (.getfield 23, 3) := by decide +kernel
theorem dX4_began_48 : decode cX4_began 48 = .ok (.iconst 0, 1) := by decide +kernel
theorem dX4_began_49 : decode cX4_began 49 = .ok (.iaload, 1) := by decide +kernel
theorem dX4_began_50 : decode cX4_began 50 = .ok (.iconst (-1), 1) := by decide +kernel
theorem dX4_began_51 : decode cX4_began 51 = .ok (.ixor, 1) := by decide +kernel
theorem dX4_began_52 : decode cX4_began 52 = .ok (.iand, 1) := by decide +kernel
theorem dX4_began_53 : decode cX4_began 53 = .ok (.aload_n 0, 1) := by decide +kernel
theorem dX4_began_54 : decode cX4_began 54 = .ok (.iconst 1, 1) := by decide +kernel
theorem dX4_began_55 : decode cX4_began 55 = .ok (.iload_n 3, 1) := by decide +kernel
theorem dX4_began_56 : decode cX4_began 56 = .ok (.ishl, 1) := by decide +kernel
theorem dX4_began_57 : decode cX4_began 57 = .ok (.invokevirtual 173, 3) := by decide +kernel
theorem dX4_began_60 : decode cX4_began 60 = .ok (.iconst (-1), 1) := by decide +kernel
theorem dX4_began_61 : decode cX4_began 61 = .ok (.ixor, 1) := by decide +kernel
theorem dX4_began_62 : decode cX4_began 62 = .ok (.iand, 1) := by decide +kernel
theorem dX4_began_63 : decode cX4_began 63 = .ok (.ifCond .ne 9, 3) := by decide +kernel
theorem dX4_began_66 : decode cX4_began 66 = .ok (.iconst 1, 1) := by decide +kernel
theorem dX4_began_67 : decode cX4_began 67 = .ok (.iload_n 3, 1) := by decide +kernel
theorem dX4_began_68 : decode cX4_began 68 = .ok (.ishl, 1) := by decide +kernel
theorem dX4_began_69 : decode cX4_began 69 = .ok (.goto 4, 3) := by decide +kernel
theorem dX4_began_72 : decode cX4_began 72 = .ok (.iconst 0, 1) := by decide +kernel
theorem dX4_began_73 : decode cX4_began 73 = .ok (.ior, 1) := by decide +kernel
theorem dX4_began_74 : decode cX4_began 74 = .ok (.istore_n 2, 1) := by decide +kernel
theorem dX4_began_75 : decode cX4_began 75 = .ok (.iinc 3 1, 3) := by decide +kernel
theorem dX4_began_78 : decode cX4_began 78 = .ok (.goto (-54), 3) := by decide +kernel
theorem dX4_began_81 : decode cX4_began 81 = .ok (.iload_n 2, 1) := by decide +kernel
theorem dX4_began_82 : decode cX4_began 82 = .ok (.ireturn, 1) := by decide +kernel
theorem dX4_odds_0 : decode cX4_odds 0 = .ok (.aload_n 0, 1) := by decide +kernel
theorem dX4_odds_1 : decode cX4_odds 1 = .ok (.iload_n 1, 1) := by decide +kernel
theorem dX4_odds_2 : decode cX4_odds 2 = .ok (.invokevirtual 117, 3) := by decide +kernel
theorem dX4_odds_5 : decode cX4_odds 5 = .ok (.ifCond .eq 22, 3) := by decide +kernel
theorem dX4_odds_8 : decode cX4_odds 8 = .ok (.iload_n 2, 1) := by decide +kernel
theorem dX4_odds_9 : decode cX4_odds 9 = .ok (.iconst 0, 1) := by decide +kernel
theorem dX4_odds_10 : decode cX4_odds 10 = .ok (.bipush 10, 2) := by decide +kernel
theorem dX4_odds_12 : decode cX4_odds 12 = .ok (.invokestatic 57, 3) := by decide +kernel
theorem dX4_odds_15 : decode cX4_odds 15 = .ok (.ifCond .eq 12, 3) := by decide +kernel
theorem dX4_odds_18 : decode cX4_odds 18 = .ok (.iload_n 3, 1) := by decide +kernel
theorem dX4_odds_19 : decode cX4_odds 19 = .ok (.iconst 0, 1) := by decide +kernel
theorem dX4_odds_20 : decode cX4_odds 20 = .ok (.iconst 1, 1) := by decide +kernel
theorem dX4_odds_21 : decode cX4_odds 21 = .ok (.invokestatic 57, 3) := by decide +kernel
theorem dX4_odds_24 : decode cX4_odds 24 = .ok (.ifCond .ne 5, 3) := by decide +kernel
theorem dX4_odds_27 : decode cX4_odds 27 = .ok (.iconst (-1), 1) := by decide +kernel
theorem dX4_odds_28 : decode cX4_odds 28 = .ok (.ireturn, 1) := by decide +kernel
theorem dX4_odds_29 : decode cX4_odds 29 = .ok (.iconst 0, 1) := by decide +kernel
theorem dX4_odds_30 : decode cX4_odds 30 = .ok (.istore 4, 2) := by decide +kernel
theorem dX4_odds_32 : decode cX4_odds 32 = .ok (.iconst 1, 1) := by decide +kernel
theorem dX4_odds_33 : decode cX4_odds 33 = .ok (.istore 5, 2) := by decide +kernel
theorem dX4_odds_35 : decode cX4_odds 35 = .ok (.iconst 0, 1) := by decide +kernel
theorem dX4_odds_36 : decode cX4_odds 36 = .ok (.istore 6, 2) := by decide +kernel
theorem dX4_odds_38 : decode cX4_odds 38 = .ok (.iload 6, 2) := by decide +kernel
theorem dX4_odds_40 : decode cX4_odds 40 = .ok (.aload_n 0, 1) := by decide +kernel
theorem dX4_odds_41 : decode cX4_odds 41 = .ok (.getfield 23, 3) := by decide +kernel
theorem dX4_odds_44 : decode cX4_odds 44 = .ok (.iconst 0, 1) := by decide +kernel
theorem dX4_odds_45 : decode cX4_odds 45 = .ok (.iaload, 1) := by decide +kernel
theorem dX4_odds_46 : decode cX4_odds 46 = .ok (.invokestatic 170, 3) := by decide +kernel
theorem dX4_odds_49 : decode cX4_odds 49 = .ok (.if_icmp .ge 16, 3) := by decide +kernel
theorem dX4_odds_52 : decode cX4_odds 52 = .ok (.iload 5, 2) := by decide +kernel
theorem dX4_odds_54 : decode cX4_odds 54 = .ok (.bipush 10, 2) := by decide +kernel
theorem dX4_odds_56 : decode cX4_odds 56 = .ok (.imul, 1) := by decide +kernel
theorem dX4_odds_57 : decode cX4_odds 57 = .ok (.istore 5, 2) := by decide +kernel
theorem dX4_odds_59 : decode cX4_odds 59 = .ok (.iinc 6 1, 3) := by decide +kernel
theorem dX4_odds_62 : decode cX4_odds 62 = .ok (.goto (-24), 3) := by decide +kernel
theorem dX4_odds_65 : decode cX4_odds 65 = .ok (.iconst 0, 1) := by decide +kernel
theorem dX4_odds_66 : decode cX4_odds 66 = .ok (.istore 6, 2) := by decide +kernel
theorem dX4_odds_68 : decode cX4_odds 68 = .ok (.iload 6, 2) := by decide +kernel
theorem dX4_odds_70 : decode cX4_odds 70 = .ok (.iconst 1, 1) := by decide +kernel
theorem dX4_odds_71 : decode cX4_odds 71 = .ok (.aload_n 0, 1) := by decide +kernel
theorem dX4_odds_72 : decode cX4_odds 72 = .ok (.getfield 13, 3) := by decide +kernel
theorem dX4_odds_75 : decode cX4_odds 75 = .ok (.iconst 0, 1) := by decide +kernel
theorem dX4_odds_76 : decode cX4_odds 76 = .ok (.iaload, 1) := by decide +kernel
theorem dX4_odds_77 : decode cX4_odds 77 = .ok (.ishl, 1) := by decide +kernel
theorem dX4_odds_78 : decode cX4_odds 78 = .ok (.if_icmp .ge 111, 3) := by decide +kernel
theorem dX4_odds_81 : decode cX4_odds 81 = .ok (.iload 6, 2) := by decide +kernel
theorem dX4_odds_83 : decode cX4_odds 83 = .ok (.aload_n 0, 1) := by decide +kernel
theorem dX4_odds_84 : decode cX4_odds 84 = .ok (.getfield 23, 3) := by decide +kernel
theorem dX4_odds_87 : decode cX4_odds 87 = .ok (.iconst 0, 1) := by decide +kernel
theorem dX4_odds_88 : decode cX4_odds 88 = .ok (.iaload, 1) := by decide +kernel
theorem dX4_odds_89 : decode cX4_odds 89 = .ok (.iconst (-1), 1) := by decide +kernel
theorem dX4_odds_90 : decode cX4_odds 90 = .ok (.ixor, 1) := by decide +kernel
theorem dX4_odds_91 : decode cX4_odds 91 = .ok (.iand, 1) := by decide +kernel
theorem dX4_odds_92 : decode cX4_odds 92 = .ok (.ifCond .ne 24, 3) := by decide +kernel
theorem dX4_odds_95 : decode cX4_odds 95 = .ok (.iload 6, 2) := by decide +kernel
theorem dX4_odds_97 : decode cX4_odds 97 = .ok (.aload_n 0, 1) := by decide +kernel
theorem dX4_odds_98 : decode cX4_odds 98 = .ok (.iload 6, 2) := by decide +kernel
theorem dX4_odds_100 : decode cX4_odds 100 = .ok (.invokevirtual 173, 3) := by decide +kernel
theorem dX4_odds_103 : decode cX4_odds 103 = .ok (.ior, 1) := by decide +kernel
theorem dX4_odds_104 : decode cX4_odds 104 = .ok (.iload_n 1, 1) := by decide +kernel
theorem dX4_odds_105 : decode cX4_odds 105 = .ok (.ishr, 1) := by decide +kernel
theorem dX4_odds_106 : decode cX4_odds 106 = .ok (.iconst 1, 1) := by decide +kernel
theorem dX4_odds_107 : decode cX4_odds 107 = .ok (.iand, 1) := by decide +kernel
theorem dX4_odds_108 : decode cX4_odds 108 = .ok (.iconst 1, 1) := by decide +kernel
theorem dX4_odds_109 : decode cX4_odds 109 = .ok (.if_icmp .ne 7, 3) := by decide +kernel
theorem dX4_odds_112 : decode cX4_odds 112 = .ok (.iconst 1, 1) := by decide +kernel
theorem dX4_odds_113 : decode cX4_odds 113 = .ok (.goto 4, 3) := by decide +kernel
theorem dX4_odds_116 : decode cX4_odds 116 = .ok (.iconst 0, 1) := by decide +kernel
theorem dX4_odds_117 : decode cX4_odds 117 = .ok (.istore 7, 2) := by decide +kernel
theorem dX4_odds_119 : decode cX4_odds 119 = .ok (.iconst 0, 1) := by decide +kernel
theorem dX4_odds_120 : decode cX4_odds 120 = .ok (.istore 8, 2) := by decide +kernel
theorem dX4_odds_122 : decode cX4_odds 122 = .ok (.iload 8, 2) := by decide +kernel
theorem dX4_odds_124 : decode cX4_odds 124 = .ok (.aload_n 0, 1) := by decide +kernel
theorem dX4_odds_125 : decode cX4_odds 125 = .ok (.getfield 13, 3) := by decide +kernel
theorem dX4_odds_128 : decode cX4_odds 128 = .ok (.iconst 0, 1) := by decide +kernel
theorem dX4_odds_129 : decode cX4_odds 129 = .ok (.iaload, 1) := by decide +kernel
theorem dX4_odds_130 : decode cX4_odds 130 = .ok (.if_icmp .ge 46, 3) := by decide +kernel
theorem dX4_odds_133 : decode cX4_odds 133 = .ok (.iload 7, 2) := by decide +kernel
theorem dX4_odds_135 : decode cX4_odds 135 = .ok (.aload_n 0, 1) := by decide +kernel
theorem dX4_odds_136 : decode cX4_odds 136 = .ok (.iload 8, 2) := by decide +kernel
theorem dX4_odds_138 : decode cX4_odds 138 = .ok (.invokevirtual 120, 3) := by decide +kernel
theorem dX4_odds_141 : decode cX4_odds 141 = .ok (.ifCond .ne 7, 3) := by decide +kernel
theorem dX4_odds_144 : decode cX4_odds 144 = .ok (.iconst 1, 1) := by decide +kernel
theorem dX4_odds_145 : decode cX4_odds 145 = .ok (.goto 22, 3) := by decide +kernel
theorem dX4_odds_148 : decode cX4_odds 148 = .ok (.iload 6, 2) := by decide +kernel
theorem dX4_odds_150 : decode cX4_odds 150 = .ok (.iload 8, 2) := by decide +kernel
theorem dX4_odds_152 : decode cX4_odds 152 = .ok (.ishr, 1) := by decide +kernel
theorem dX4_odds_153 : decode cX4_odds 153 = .ok (.iconst 1, 1) := by decide +kernel
theorem dX4_odds_154 : decode cX4_odds 154 = .ok (.iand, 1) := by decide +kernel
theorem dX4_odds_155 : decode cX4_odds 155 = .ok (.iconst 1, 1) := by decide +kernel
theorem dX4_odds_156 : decode cX4_odds 156 = .ok (.if_icmp .ne 7, 3) := by decide +kernel
theorem dX4_odds_159 : decode cX4_odds 159 = .ok (.iload_n 2, 1) := by decide +kernel
theorem dX4_odds_160 : decode cX4_odds 160 = .ok (.goto 7, 3) := by decide +kernel
theorem dX4_odds_163 : decode cX4_odds 163 = .ok (.bipush 10, 2) := by decide +kernel
theorem dX4_odds_165 : decode cX4_odds 165 = .ok (.iload_n 2, 1) := by decide +kernel
theorem dX4_odds_166 : decode cX4_odds 166 = .ok (.isub, 1) := by decide +kernel
theorem dX4_odds_167 : decode cX4_odds 167 = .ok (.imul, 1) := by decide +kernel
theorem dX4_odds_168 : decode cX4_odds 168 = .ok (.istore 7, 2) := by decide +kernel
theorem dX4_odds_170 : decode cX4_odds 170 = .ok (.iinc 8 1, 3) := by decide +kernel
theorem dX4_odds_173 : decode cX4_odds 173 = .ok (.goto (-51), 3) := by decide +kernel
theorem dX4_odds_176 : decode cX4_odds 176 = .ok (.iload 4, 2) := by decide +kernel
theorem dX4_odds_178 : decode cX4_odds 178 = .ok (.iload 7, 2) := by decide +kernel
theorem dX4_odds_180 : decode cX4_odds 180 = .ok (.iadd, 1) := by decide +kernel
theorem dX4_odds_181 : decode cX4_odds 181 = .ok (.istore 4, 2) := by decide +kernel
theorem dX4_odds_183 : decode cX4_odds 183 = .ok (.iinc 6 1, 3) := by decide +kernel
theorem dX4_odds_186 : decode cX4_odds 186 = .ok (.goto (-118), 3) := by decide +kernel
theorem dX4_odds_189 : decode cX4_odds 189 = .ok (.iload 4, 2) := by decide +kernel
theorem dX4_odds_191 : decode cX4_odds 191 = .ok (.istore 6, 2) := by decide +kernel
theorem dX4_odds_193 : decode cX4_odds 193 = .ok (.iload 5, 2) := by decide +kernel
theorem dX4_odds_195 : decode cX4_odds 195 = .ok (.istore 7, 2) := by decide +kernel
theorem dX4_odds_197 : decode cX4_odds 197 = .ok (.iload 7, 2) := by decide +kernel
theorem dX4_odds_199 : decode cX4_odds 199 = .ok (.ifCond .eq 21, 3) := by decide +kernel
theorem dX4_odds_202 : decode cX4_odds 202 = .ok (.iload 6, 2) := by decide +kernel
theorem dX4_odds_204 : decode cX4_odds 204 = .ok (.iload 7, 2) := by decide +kernel
theorem dX4_odds_206 : decode cX4_odds 206 = .ok (.irem, 1) := by decide +kernel
theorem dX4_odds_207 : decode cX4_odds 207 = .ok (.istore 8, 2) := by decide +kernel
theorem dX4_odds_209 : decode cX4_odds 209 = .ok (.iload 7, 2) := by decide +kernel
theorem dX4_odds_211 : decode cX4_odds 211 = .ok (.istore 6, 2) := by decide +kernel
theorem dX4_odds_213 : decode cX4_odds 213 = .ok (.iload 8, 2) := by decide +kernel
theorem dX4_odds_215 : decode cX4_odds 215 = .ok (.istore 7, 2) := by decide +kernel
theorem dX4_odds_217 : decode cX4_odds 217 = .ok (.goto (-20), 3) := by decide +kernel
theorem dX4_odds_220 : decode cX4_odds 220 = .ok (.iload_n 3, 1) := by decide +kernel
theorem dX4_odds_221 : decode cX4_odds 221 = .ok (.ifCond .ne 11, 3) := by decide +kernel
theorem dX4_odds_224 : decode cX4_odds 224 = .ok (.iload 4, 2) := by decide +kernel
theorem dX4_odds_226 : decode cX4_odds 226 = .ok (.iload 6, 2) := by decide +kernel
theorem dX4_odds_228 : decode cX4_odds 228 = .ok (.idiv, 1) := by decide +kernel
theorem dX4_odds_229 : decode cX4_odds 229 = .ok (.goto 8, 3) := by decide +kernel
theorem dX4_odds_232 : decode cX4_odds 232 = .ok (.iload 5, 2) := by decide +kernel
theorem dX4_odds_234 : decode cX4_odds 234 = .ok (.iload 6, 2) := by decide +kernel
theorem dX4_odds_236 : decode cX4_odds 236 = .ok (.idiv, 1) := by decide +kernel
theorem dX4_odds_237 : decode cX4_odds 237 = .ok (.ireturn, 1) := by decide +kernel
theorem dX4_tells_0 : decode cX4_tells 0 = .ok (.aload_n 0, 1) := by decide +kernel
theorem dX4_tells_1 : decode cX4_tells 1 = .ok (.iload_n 1, 1) := by decide +kernel
theorem dX4_tells_2 : decode cX4_tells 2 = .ok (.invokevirtual 117, 3) := by decide +kernel
theorem dX4_tells_5 : decode cX4_tells 5 = .ok (.ifCond .eq 16, 3) := by decide +kernel
theorem dX4_tells_8 : decode cX4_tells 8 = .ok (.aload_n 0, 1) := by decide +kernel
theorem dX4_tells_9 : decode cX4_tells 9 = .ok (.iload_n 2, 1) := by decide +kernel
theorem dX4_tells_10 : decode cX4_tells 10 = .ok (.invokevirtual 117, 3) := by decide +kernel
theorem dX4_tells_13 : decode cX4_tells 13 = .ok (.ifCond .eq 8, 3) := by decide +kernel
theorem dX4_tells_16 : decode cX4_tells 16 = .ok (.iload_n 1, 1) := by decide +kernel
theorem dX4_tells_17 : decode cX4_tells 17 = .ok (.iload_n 2, 1) := by decide +kernel
theorem dX4_tells_18 : decode cX4_tells 18 = .ok (.if_icmp .ne 5, 3) := by decide +kernel
theorem dX4_tells_21 : decode cX4_tells 21 = .ok (.iconst (-1), 1) := by decide +kernel
theorem dX4_tells_22 : decode cX4_tells 22 = .ok (.ireturn, 1) := by decide +kernel
theorem dX4_tells_23 : decode cX4_tells 23 = .ok (.aload_n 0, 1) := by decide +kernel
theorem dX4_tells_24 : decode cX4_tells 24 = .ok (.getfield 102, 3) := by decide +kernel
end
section
theorem dX4_tells_27 : decode cX4_tells 27 = .ok (.bipush 6, 2) := by decide +kernel
theorem dX4_tells_29 : decode cX4_tells 29 = .ok (.if_icmp .ne 6, 3) := by decide +kernel
theorem dX4_tells_32 : decode cX4_tells 32 = .ok (.bipush (-3), 2) := by decide +kernel
theorem dX4_tells_34 : decode cX4_tells 34 = .ok (.ireturn, 1) := by decide +kernel
theorem dX4_tells_35 : decode cX4_tells 35 = .ok (.aload_n 0, 1) := by decide +kernel
theorem dX4_tells_36 : decode cX4_tells 36 = .ok (.getfield 42, 3) := by decide +kernel
theorem dX4_tells_39 : decode cX4_tells 39 = .ok (.aload_n 0, 1) := by decide +kernel
theorem dX4_tells_40 : decode cX4_tells 40 = .ok (.getfield 102, 3) := by decide +kernel
theorem dX4_tells_43 : decode cX4_tells 43 = .ok (.iload_n 1, 1) := by decide +kernel
theorem dX4_tells_44 : decode cX4_tells 44 = .ok (.iastore, 1) := by decide +kernel
theorem dX4_tells_45 : decode cX4_tells 45 = .ok (.aload_n 0, 1) := by decide +kernel
theorem dX4_tells_46 : decode cX4_tells 46 = .ok (.getfield 45, 3) := by decide +kernel
theorem dX4_tells_49 : decode cX4_tells 49 = .ok (.aload_n 0, 1) := by decide +kernel
theorem dX4_tells_50 : decode cX4_tells 50 = .ok (.getfield 102, 3) := by decide +kernel
theorem dX4_tells_53 : decode cX4_tells 53 = .ok (.iload_n 2, 1) := by decide +kernel
theorem dX4_tells_54 : decode cX4_tells 54 = .ok (.iastore, 1) := by decide +kernel
theorem dX4_tells_55 : decode cX4_tells 55 = .ok (.aload_n 0, 1) := by decide +kernel
theorem dX4_tells_56 : decode cX4_tells 56 = .ok (.dup, 1) := by decide +kernel
theorem dX4_tells_57 : decode cX4_tells 57 = .ok (.getfield 102, 3) := by decide +kernel
theorem dX4_tells_60 : decode cX4_tells 60 = .ok (.iconst 1, 1) := by decide +kernel
theorem dX4_tells_61 : decode cX4_tells 61 = .ok (.iadd, 1) := by decide +kernel
theorem dX4_tells_62 : decode cX4_tells 62 = .ok (.putfield 102, 3) := by decide +kernel
theorem dX4_tells_65 : decode cX4_tells 65 = .ok (.aload_n 0, 1) := by decide +kernel
theorem dX4_tells_66 : decode cX4_tells 66 = .ok (.getfield 102, 3) := by decide +kernel
theorem dX4_tells_69 : decode cX4_tells 69 = .ok (.ireturn, 1) := by decide +kernel
theorem dX4_forget_0 : decode cX4_forget 0 = .ok (.aload_n 0, 1) := by decide +kernel
theorem dX4_forget_1 : decode cX4_forget 1 = .ok (.getfield 102, 3) := by decide +kernel
theorem dX4_forget_4 : decode cX4_forget 4 = .ok (.istore_n 1, 1) := by decide +kernel
theorem dX4_forget_5 : decode cX4_forget 5 = .ok (.aload_n 0, 1) := by decide +kernel
theorem dX4_forget_6 : decode cX4_forget 6 = .ok (.iconst 0, 1) := by decide +kernel
theorem dX4_forget_7 : decode cX4_forget 7 = .ok (.putfield 102, 3) := by decide +kernel
theorem dX4_forget_10 : decode cX4_forget 10 = .ok (.iload_n 1, 1) := by decide +kernel
theorem dX4_forget_11 : decode cX4_forget 11 = .ok (.ireturn, 1) := by decide +kernel
theorem dX4_firstOf_0 : decode cX4_firstOf 0 = .ok (.iconst 0, 1) := by decide +kernel
theorem dX4_firstOf_1 : decode cX4_firstOf 1 = .ok (.istore_n 2, 1) := by decide +kernel
theorem dX4_firstOf_2 : decode cX4_firstOf 2 = .ok (.iload_n 2, 1) := by decide +kernel
theorem dX4_firstOf_3 : decode cX4_firstOf 3 = .ok (.aload_n 0, 1) := by decide +kernel
theorem dX4_firstOf_4 : decode cX4_firstOf 4 = .ok (.getfield 35, 3) := by decide +kernel
theorem dX4_firstOf_7 : decode cX4_firstOf 7 = .ok (.bipush 120, 2) := by decide +kernel
theorem dX4_firstOf_9 : decode cX4_firstOf 9 = .ok (.iaload, 1) := by decide +kernel
theorem dX4_firstOf_10 : decode cX4_firstOf 10 = .ok (.if_icmp .ge 23, 3) := by decide +kernel
theorem dX4_firstOf_13 : decode cX4_firstOf 13 = .ok (.aload_n 0, 1) := by decide +kernel
theorem dX4_firstOf_14 : decode cX4_firstOf 14 = .ok (.getfield 35, 3) := by decide +kernel
theorem dX4_firstOf_17 : decode cX4_firstOf 17 = .ok (.iconst 0, 1) := by decide +kernel
theorem dX4_firstOf_18 : decode cX4_firstOf 18 = .ok (.iload_n 2, 1) := by decide +kernel
theorem dX4_firstOf_19 : decode cX4_firstOf 19 = .ok (.iadd, 1) := by decide +kernel
theorem dX4_firstOf_20 : decode cX4_firstOf 20 = .ok (.iaload, 1) := by decide +kernel
theorem dX4_firstOf_21 : decode cX4_firstOf 21 = .ok (.iload_n 1, 1) := by decide +kernel
theorem dX4_firstOf_22 : decode cX4_firstOf 22 = .ok (.if_icmp .ne 5, 3) := by decide +kernel
theorem dX4_firstOf_25 : decode cX4_firstOf 25 = .ok (.iload_n 2, 1) := by decide +kernel
theorem dX4_firstOf_26 : decode cX4_firstOf 26 = .ok (.ireturn, 1) := by decide +kernel
theorem dX4_firstOf_27 : decode cX4_firstOf 27 = .ok (.iinc 2 1, 3) := by decide +kernel
theorem dX4_firstOf_30 : decode cX4_firstOf 30 = .ok (.goto (-28), 3) := by decide +kernel
theorem dX4_firstOf_33 : decode cX4_firstOf 33 = .ok (.bipush (-9), 2) := by decide +kernel
theorem dX4_firstOf_35 : decode cX4_firstOf 35 = .ok (.ireturn, 1) := by decide +kernel
theorem dX4_fits_0 : decode cX4_fits 0 = .ok (.iconst 1, 1) := by decide +kernel
theorem dX4_fits_1 : decode cX4_fits 1 = .ok (.istore_n 1, 1) := by decide +kernel
theorem dX4_fits_2 : decode cX4_fits 2 = .ok (.iconst 0, 1) := by decide +kernel
theorem dX4_fits_3 : decode cX4_fits 3 = .ok (.istore_n 2, 1) := by decide +kernel
theorem dX4_fits_4 : decode cX4_fits 4 = .ok (.iload_n 2, 1) := by decide +kernel
theorem dX4_fits_5 : decode cX4_fits 5 = .ok (.aload_n 0, 1) := by decide +kernel
theorem dX4_fits_6 : decode cX4_fits 6 = .ok (.getfield 102, 3) := by decide +kernel
theorem dX4_fits_9 : decode cX4_fits 9 = .ok (.if_icmp .ge 50, 3) := by decide +kernel
theorem dX4_fits_12 : decode cX4_fits 12 = .ok (.aload_n 0, 1) := by decide +kernel
theorem dX4_fits_13 : decode cX4_fits 13 = .ok (.aload_n 0, 1) := by decide +kernel
theorem dX4_fits_14 : decode cX4_fits 14 = .ok (.getfield 42, 3) := by decide +kernel
theorem dX4_fits_17 : decode cX4_fits 17 = .ok (.iload_n 2, 1) := by decide +kernel
theorem dX4_fits_18 : decode cX4_fits 18 = .ok (.iaload, 1) := by decide +kernel
theorem dX4_fits_19 : decode cX4_fits 19 = .ok (.invokevirtual 176, 3) := by decide +kernel
theorem dX4_fits_22 : decode cX4_fits 22 = .ok (.istore_n 3, 1) := by decide +kernel
theorem dX4_fits_23 : decode cX4_fits 23 = .ok (.iload_n 1, 1) := by decide +kernel
theorem dX4_fits_24 : decode cX4_fits 24 = .ok (.ifCond .eq 27, 3) := by decide +kernel
theorem dX4_fits_27 : decode cX4_fits 27 = .ok (.iload_n 3, 1) := by decide +kernel
theorem dX4_fits_28 : decode cX4_fits 28 = .ok (.bipush (-9), 2) := by decide +kernel
theorem dX4_fits_30 : decode cX4_fits 30 = .ok (.if_icmp .eq 21, 3) := by decide +kernel
theorem dX4_fits_33 : decode cX4_fits 33 = .ok (.aload_n 0, 1) := by decide +kernel
theorem dX4_fits_34 : decode cX4_fits 34 = .ok (.aload_n 0, 1) := by decide +kernel
theorem dX4_fits_35 : decode cX4_fits 35 = .ok (.getfield 45, 3) := by decide +kernel
theorem dX4_fits_38 : decode cX4_fits 38 = .ok (.iload_n 2, 1) := by decide +kernel
theorem dX4_fits_39 : decode cX4_fits 39 = .ok (.iaload, 1) := by decide +kernel
theorem dX4_fits_40 : decode cX4_fits 40 = .ok (.invokevirtual 176, 3) := by decide +kernel
theorem dX4_fits_43 : decode cX4_fits 43 = .ok (.iload_n 3, 1) := by decide +kernel
theorem dX4_fits_44 : decode cX4_fits 44 = .ok (.if_icmp .le 7, 3) := by decide +kernel
theorem dX4_fits_47 : decode cX4_fits 47 = .ok (.iconst 1, 1) := by decide +kernel
theorem dX4_fits_48 : decode cX4_fits 48 = .ok (.goto 4, 3) := by decide +kernel
theorem dX4_fits_51 : decode cX4_fits 51 = .ok (.iconst 0, 1) := by decide +kernel
theorem dX4_fits_52 : decode cX4_fits 52 = .ok (.istore_n 1, 1) := by decide +kernel
theorem dX4_fits_53 : decode cX4_fits 53 = .ok (.iinc 2 1, 3) := by decide +kernel
theorem dX4_fits_56 : decode cX4_fits 56 = .ok (.goto (-52), 3) := by decide +kernel
theorem dX4_fits_59 : decode cX4_fits 59 = .ok (.iload_n 1, 1) := by decide +kernel
theorem dX4_fits_60 : decode cX4_fits 60 = .ok (.ifCond .eq 7, 3) := by decide +kernel
theorem dX4_fits_63 : decode cX4_fits 63 = .ok (.iconst 1, 1) := by decide +kernel
theorem dX4_fits_64 : decode cX4_fits 64 = .ok (.goto 4, 3) := by decide +kernel
theorem dX4_fits_67 : decode cX4_fits 67 = .ok (.iconst 0, 1) := by decide +kernel
theorem dX4_fits_68 : decode cX4_fits 68 = .ok (.ireturn, 1) := by decide +kernel
theorem dX4_canCome_0 : decode cX4_canCome 0 = .ok (.aload_n 0, 1) := by decide +kernel
theorem dX4_canCome_1 : decode cX4_canCome 1 = .ok (.iload_n 1, 1) := by decide +kernel
theorem dX4_canCome_2 : decode cX4_canCome 2 = .ok (.invokevirtual 120, 3) := by decide +kernel
theorem dX4_canCome_5 : decode cX4_canCome 5 = .ok (.ifCond .ne 22, 3) := by decide +kernel
theorem dX4_canCome_8 : decode cX4_canCome 8 = .ok (.aload_n 0, 1) := by decide +kernel
theorem dX4_canCome_9 : decode cX4_canCome 9 = .ok (.iload_n 1, 1) := by decide +kernel
theorem dX4_canCome_10 : decode cX4_canCome 10 = .ok (.invokevirtual 123, 3) := by decide +kernel
theorem dX4_canCome_13 : decode cX4_canCome 13 = .ok (.ifCond .eq 18, 3) := by decide +kernel
theorem dX4_canCome_16 : decode cX4_canCome 16 = .ok (.aload_n 0, 1) := by decide +kernel
theorem dX4_canCome_17 : decode cX4_canCome 17 = .ok (.getfield 20, 3) := by decide +kernel
theorem dX4_canCome_20 : decode cX4_canCome 20 = .ok (.iload_n 1, 1) := by decide +kernel
theorem dX4_canCome_21 : decode cX4_canCome 21 = .ok (.iaload, 1) := by decide +kernel
theorem dX4_canCome_22 : decode cX4_canCome 22 = .ok (.iload_n 2, 1) := by decide +kernel
theorem dX4_canCome_23 : decode cX4_canCome 23 = .ok (.iand, 1) := by decide +kernel
theorem dX4_canCome_24 : decode cX4_canCome 24 = .ok (.ifCond .eq 7, 3) := by decide +kernel
theorem dX4_canCome_27 : decode cX4_canCome 27 = .ok (.iconst 1, 1) := by decide +kernel
theorem dX4_canCome_28 : decode cX4_canCome 28 = .ok (.goto 4, 3) := by decide +kernel
theorem dX4_canCome_31 : decode cX4_canCome 31 = .ok (.iconst 0, 1) := by decide +kernel
theorem dX4_canCome_32 : decode cX4_canCome 32 = .ok (.istore 4, 2) := by decide +kernel
theorem dX4_canCome_34 : decode cX4_canCome 34 = .ok (.iconst 0, 1) := by decide +kernel
theorem dX4_canCome_35 : decode cX4_canCome 35 = .ok (.istore 5, 2) := by decide +kernel
theorem dX4_canCome_37 : decode cX4_canCome 37 = .ok (.iload 5, 2) := by decide +kernel
theorem dX4_canCome_39 : decode cX4_canCome 39 = .ok (.aload_n 0, 1) := by decide +kernel
theorem dX4_canCome_40 : decode cX4_canCome 40 = .ok (.getfield 102, 3) := by decide +kernel
theorem dX4_canCome_43 : decode cX4_canCome 43 = .ok (.if_icmp .ge 89, 3) := by decide +kernel
theorem dX4_canCome_46 : decode cX4_canCome 46 = .ok (.iload_n 3, 1) := by decide +kernel
theorem dX4_canCome_47 : decode cX4_canCome 47 = .ok (.aload_n 0, 1) := by decide +kernel
theorem dX4_canCome_48 : decode cX4_canCome 48 = .ok (.getfield 42, 3) := by decide +kernel
theorem dX4_canCome_51 : decode cX4_canCome 51 = .ok (.iload 5, 2) := by decide +kernel
theorem dX4_canCome_53 : decode cX4_canCome 53 = .ok (.iaload, 1) := by decide +kernel
theorem dX4_canCome_54 : decode cX4_canCome 54 = .ok (.ishr, 1) := by decide +kernel
theorem dX4_canCome_55 : decode cX4_canCome 55 = .ok (.iconst 1, 1) := by decide +kernel
theorem dX4_canCome_56 : decode cX4_canCome 56 = .ok (.iand, 1) := by decide +kernel
theorem dX4_canCome_57 : decode cX4_canCome 57 = .ok (.iconst 1, 1) := by decide +kernel
theorem dX4_canCome_58 : decode cX4_canCome 58 = .ok (.if_icmp .ne 22, 3) := by decide +kernel
theorem dX4_canCome_61 : decode cX4_canCome 61 = .ok (.iload_n 3, 1) := by decide +kernel
theorem dX4_canCome_62 : decode cX4_canCome 62 = .ok (.aload_n 0, 1) := by decide +kernel
theorem dX4_canCome_63 : decode cX4_canCome 63 = .ok (.getfield 45, 3) := by decide +kernel
theorem dX4_canCome_66 : decode cX4_canCome 66 = .ok (.iload 5, 2) := by decide +kernel
theorem dX4_canCome_68 : decode cX4_canCome 68 = .ok (.iaload, 1) := by decide +kernel
theorem dX4_canCome_69 : decode cX4_canCome 69 = .ok (.ishr, 1) := by decide +kernel
theorem dX4_canCome_70 : decode cX4_canCome 70 = .ok (.iconst 1, 1) := by decide +kernel
theorem dX4_canCome_71 : decode cX4_canCome 71 = .ok (.iand, 1) := by decide +kernel
theorem dX4_canCome_72 : decode cX4_canCome 72 = .ok (.iconst 1, 1) := by decide +kernel
theorem dX4_canCome_73 : decode cX4_canCome 73 = .ok (.if_icmp .ne 7, 3) := by decide +kernel
theorem dX4_canCome_76 : decode cX4_canCome 76 = .ok (.iconst 1, 1) := by decide +kernel
theorem dX4_canCome_77 : decode cX4_canCome 77 = .ok (.goto 4, 3) := by decide +kernel
theorem dX4_canCome_80 : decode cX4_canCome 80 = .ok (.iconst 0, 1) := by decide +kernel
theorem dX4_canCome_81 : decode cX4_canCome 81 = .ok (.istore 6, 2) := by decide +kernel
theorem dX4_canCome_83 : decode cX4_canCome 83 = .ok (.iload 4, 2) := by decide +kernel
theorem dX4_canCome_85 : decode cX4_canCome 85 = .ok (.ifCond .eq 38, 3) := by decide +kernel
theorem dX4_canCome_88 : decode cX4_canCome 88 = .ok (.iload 6, 2) := by decide +kernel
theorem dX4_canCome_90 : decode cX4_canCome 90 = .ok (.ifCond .eq 29, 3) := by decide +kernel
theorem dX4_canCome_93 : decode cX4_canCome 93 = .ok (.aload_n 0, 1) := by decide +kernel
theorem dX4_canCome_94 : decode cX4_canCome 94 = .ok (.getfield 45, 3) := by decide +kernel
theorem dX4_canCome_97 : decode cX4_canCome 97 = .ok (.iload 5, 2) := by decide +kernel
theorem dX4_canCome_99 : decode cX4_canCome 99 = .ok (.iaload, 1) := by decide +kernel
theorem dX4_canCome_100 : decode cX4_canCome 100 = .ok (.iload_n 1, 1) := by decide +kernel
theorem dX4_canCome_101 : decode cX4_canCome 101 = .ok (.if_icmp .ne 18, 3) := by decide +kernel
theorem dX4_canCome_104 : decode cX4_canCome 104 = .ok (.iload_n 2, 1) := by decide +kernel
theorem dX4_canCome_105 : decode cX4_canCome 105 = .ok (.aload_n 0, 1) := by decide +kernel
theorem dX4_canCome_106 : decode cX4_canCome 106 = .ok (.getfield 42, 3) := by decide +kernel
theorem dX4_canCome_109 : decode cX4_canCome 109 = .ok (.iload 5, 2) := by decide +kernel
theorem dX4_canCome_111 : decode cX4_canCome 111 = .ok (.iaload, 1) := by decide +kernel
theorem dX4_canCome_112 : decode cX4_canCome 112 = .ok (.ishr, 1) := by decide +kernel
theorem dX4_canCome_113 : decode cX4_canCome 113 = .ok (.iconst 1, 1) := by decide +kernel
theorem dX4_canCome_114 : decode cX4_canCome 114 = .ok (.iand, 1) := by decide +kernel
theorem dX4_canCome_115 : decode cX4_canCome 115 = .ok (.iconst 1, 1) := by decide +kernel
theorem dX4_canCome_116 : decode cX4_canCome 116 = .ok (.if_icmp .ne 7, 3) := by decide +kernel
theorem dX4_canCome_119 : decode cX4_canCome 119 = .ok (.iconst 1, 1) := by decide +kernel
theorem dX4_canCome_120 : decode cX4_canCome 120 = .ok (.goto 4, 3) := by decide +kernel
theorem dX4_canCome_123 : decode cX4_canCome 123 = .ok (.iconst 0, 1) := by decide +kernel
theorem dX4_canCome_124 : decode cX4_canCome 124 = .ok (.istore 4, 2) := by decide +kernel
theorem dX4_canCome_126 : decode cX4_canCome 126 = .ok (.iinc 5 1, 3) := by decide +kernel
theorem dX4_canCome_129 : decode cX4_canCome 129 = .ok (.goto (-92), 3) := by decide +kernel
theorem dX4_canCome_132 : decode cX4_canCome 132 = .ok (.iload 4, 2) := by decide +kernel
theorem dX4_canCome_134 : decode cX4_canCome 134 = .ok (.ireturn, 1) := by decide +kernel
theorem dX4_orders_0 : decode cX4_orders 0 = .ok (.iload_n 1, 1) := by decide +kernel
theorem dX4_orders_1 : decode cX4_orders 1 = .ok (.iconst 0, 1) := by decide +kernel
theorem dX4_orders_2 : decode cX4_orders 2 = .ok (.iconst 1, 1) := by decide +kernel
theorem dX4_orders_3 : decode cX4_orders 3 = .ok (.aload_n 0, 1) := by decide +kernel
theorem dX4_orders_4 : decode cX4_orders 4 = .ok (.getfield 13, 3) := by decide +kernel
theorem dX4_orders_7 : decode cX4_orders 7 = .ok (.iconst 0, 1) := by decide +kernel
theorem dX4_orders_8 : decode cX4_orders 8 = .ok (.iaload, 1) := by decide +kernel
theorem dX4_orders_9 : decode cX4_orders 9 = .ok (.ishl, 1) := by decide +kernel
theorem dX4_orders_10 : decode cX4_orders 10 = .ok (.iconst 1, 1) := by decide +kernel
theorem dX4_orders_11 : decode cX4_orders 11 = .ok (.isub, 1) := by decide +kernel
theorem dX4_orders_12 : decode cX4_orders 12 = .ok (.invokestatic 57, 3) := by decide +kernel
theorem dX4_orders_15 : decode cX4_orders 15 = .ok (.ifCond .ne 5, 3) := by decide +kernel
theorem dX4_orders_18 : decode cX4_orders 18 = .ok (.iconst (-1), 1) := by decide +kernel
theorem dX4_orders_19 : decode cX4_orders 19 = .ok (.ireturn, 1) := by decide +kernel
theorem dX4_orders_20 : decode cX4_orders 20 = .ok (.aload_n 0, 1) := by decide +kernel
theorem dX4_orders_21 : decode cX4_orders 21 = .ok (.getfield 48, 3) := by decide +kernel
theorem dX4_orders_24 : decode cX4_orders 24 = .ok (.iconst 0, 1) := by decide +kernel
theorem dX4_orders_25 : decode cX4_orders 25 = .ok (.iconst 1, 1) := by decide +kernel
theorem dX4_orders_26 : decode cX4_orders 26 = .ok (.iastore, 1) := by decide +kernel
theorem dX4_orders_27 : decode cX4_orders 27 = .ok (.iconst 1, 1) := by decide +kernel
theorem dX4_orders_28 : decode cX4_orders 28 = .ok (.istore_n 2, 1) := by decide +kernel
theorem dX4_orders_29 : decode cX4_orders 29 = .ok (.iload_n 2, 1) := by decide +kernel
theorem dX4_orders_30 : decode cX4_orders 30 = .ok (.iload_n 1, 1) := by decide +kernel
theorem dX4_orders_31 : decode cX4_orders 31 = .ok (.if_icmp .gt 104, 3) := by decide +kernel
theorem dX4_orders_34 : decode cX4_orders 34 = .ok (.aload_n 0, 1) := by decide +kernel
theorem dX4_orders_35 : decode cX4_orders 35 = .ok (.getfield 48, 3) := by decide +kernel
theorem dX4_orders_38 : decode cX4_orders 38 = .ok (.iload_n 2, 1) := by decide +kernel
theorem dX4_orders_39 : decode cX4_orders 39 = .ok (.iconst 0, 1) := by decide +kernel
theorem dX4_orders_40 : decode cX4_orders 40 = .ok (.iastore, 1) := by decide +kernel
theorem dX4_orders_41 : decode cX4_orders 41 = .ok (.iconst 0, 1) := by decide +kernel
theorem dX4_orders_42 : decode cX4_orders 42 = .ok (.istore_n 3, 1) := by decide +kernel
theorem dX4_orders_43 : decode cX4_orders 43 = .ok (.iload_n 3, 1) := by decide +kernel
theorem dX4_orders_44 : decode cX4_orders 44 = .ok (.aload_n 0, 1) := by decide +kernel
theorem dX4_orders_45 : decode cX4_orders 45 = .ok (.getfield 13, 3) := by decide +kernel
theorem dX4_orders_48 : decode cX4_orders 48 = .ok (.iconst 0, 1) := by decide +kernel
theorem dX4_orders_49 : decode cX4_orders 49 = .ok (.iaload, 1) := by decide +kernel
theorem dX4_orders_50 : decode cX4_orders 50 = .ok (.if_icmp .ge 79, 3) := by decide +kernel
theorem dX4_orders_53 : decode cX4_orders 53 = .ok (.iload_n 2, 1) := by decide +kernel
theorem dX4_orders_54 : decode cX4_orders 54 = .ok (.iload_n 1, 1) := by decide +kernel
theorem dX4_orders_55 : decode cX4_orders 55 = .ok (.iconst (-1), 1) := by decide +kernel
theorem dX4_orders_56 : decode cX4_orders 56 = .ok (.ixor, 1) := by decide +kernel
theorem dX4_orders_57 : decode cX4_orders 57 = .ok (.iand, 1) := by decide +kernel
theorem dX4_orders_58 : decode cX4_orders 58 = .ok (.ifCond .ne 32, 3) := by decide +kernel
theorem dX4_orders_61 : decode cX4_orders 61 = .ok (.iload_n 2, 1) := by decide +kernel
theorem dX4_orders_62 : decode cX4_orders 62 = .ok (.iload_n 3, 1) := by decide +kernel
theorem dX4_orders_63 : decode cX4_orders 63 = .ok (.ishr, 1) := by decide +kernel
theorem dX4_orders_64 : decode cX4_orders 64 = .ok (.iconst 1, 1) := by decide +kernel
theorem dX4_orders_65 : decode cX4_orders 65 = .ok (.iand, 1) := by decide +kernel
theorem dX4_orders_66 : decode cX4_orders 66 = .ok (.iconst 1, 1) := by decide +kernel
theorem dX4_orders_67 : decode cX4_orders 67 = .ok (.if_icmp .ne 23, 3) := by decide +kernel
theorem dX4_orders_70 : decode cX4_orders 70 = .ok (.aload_n 0, 1) := by decide +kernel
theorem dX4_orders_71 : decode cX4_orders 71 = .ok (.iload_n 3, 1) := by decide +kernel
theorem dX4_orders_72 : decode cX4_orders 72 = .ok (.iload_n 2, 1) := by decide +kernel
theorem dX4_orders_73 : decode cX4_orders 73 = .ok (.iconst 1, 1) := by decide +kernel
theorem dX4_orders_74 : decode cX4_orders 74 = .ok (.iload_n 3, 1) := by decide +kernel
theorem dX4_orders_75 : decode cX4_orders 75 = .ok (.ishl, 1) := by decide +kernel
theorem dX4_orders_76 : decode cX4_orders 76 = .ok (.iconst (-1), 1) := by decide +kernel
theorem dX4_orders_77 : decode cX4_orders 77 = .ok (.ixor, 1) := by decide +kernel
theorem dX4_orders_78 : decode cX4_orders 78 = .ok (.iand, 1) := by decide +kernel
theorem dX4_orders_79 : decode cX4_orders 79 = .ok (.iload_n 1, 1) := by decide +kernel
theorem dX4_orders_80 : decode cX4_orders 80 = .ok (.invokevirtual 179, 3) := by decide +kernel
theorem dX4_orders_83 : decode cX4_orders 83 = .ok (.ifCond .eq 7, 3) := by decide +kernel
theorem dX4_orders_86 : decode cX4_orders 86 = .ok (.iconst 1, 1) := by decide +kernel
theorem dX4_orders_87 : decode cX4_orders 87 = .ok (.goto 4, 3) := by decide +kernel
theorem dX4_orders_90 : decode cX4_orders 90 = .ok (.iconst 0, 1) := by decide +kernel
theorem dX4_orders_91 : decode cX4_orders 91 = .ok (.istore 4, 2) := by decide +kernel
theorem dX4_orders_93 : decode cX4_orders 93 = .ok (.aload_n 0, 1) := by decide +kernel
theorem dX4_orders_94 : decode cX4_orders 94 = .ok (.getfield 48, 3) := by decide +kernel
theorem dX4_orders_97 : decode cX4_orders 97 = .ok (.iload_n 2, 1) := by decide +kernel
theorem dX4_orders_98 : decode cX4_orders 98 = .ok (.dup2, 1) := by decide +kernel
theorem dX4_orders_99 : decode cX4_orders 99 = .ok (.iaload, 1) := by decide +kernel
theorem dX4_orders_100 : decode cX4_orders 100 = .ok (.iload 4, 2) := by decide +kernel
theorem dX4_orders_102 : decode cX4_orders 102 = .ok (.ifCond .eq 18, 3) := by decide +kernel
theorem dX4_orders_105 : decode cX4_orders 105 = .ok (.aload_n 0, 1) := by decide +kernel
theorem dX4_orders_106 : decode cX4_orders 106 = .ok (.getfield 48, 3) := by decide +kernel
theorem dX4_orders_109 : decode cX4_orders 109 = .ok (.iload_n 2, 1) := by decide +kernel
theorem dX4_orders_110 : decode cX4_orders 110 = .ok (.iconst 1, 1) := by decide +kernel
theorem dX4_orders_111 : decode cX4_orders 111 = .ok (.iload_n 3, 1) := by decide +kernel
theorem dX4_orders_112 : decode cX4_orders 112 = .ok (.ishl, 1) := by decide +kernel
theorem dX4_orders_113 : decode cX4_orders 113 = .ok (.iconst (-1), 1) := by decide +kernel
theorem dX4_orders_114 : decode cX4_orders 114 = .ok (.ixor, 1) := by decide +kernel
theorem dX4_orders_115 : decode cX4_orders 115 = .ok (.iand, 1) := by decide +kernel
theorem dX4_orders_116 : decode cX4_orders 116 = .ok (.iaload, 1) := by decide +kernel
theorem dX4_orders_117 : decode cX4_orders 117 = .ok (.goto 4, 3) := by decide +kernel
theorem dX4_orders_120 : decode cX4_orders 120 = .ok (.iconst 0, 1) := by decide +kernel
theorem dX4_orders_121 : decode cX4_orders 121 = .ok (.iadd, 1) := by decide +kernel
theorem dX4_orders_122 : decode cX4_orders 122 = .ok (.iastore, 1) := by decide +kernel
theorem dX4_orders_123 : decode cX4_orders 123 = .ok (.iinc 3 1, 3) := by decide +kernel
theorem dX4_orders_126 : decode cX4_orders 126 = .ok (.goto (-83), 3) := by decide +kernel
theorem dX4_orders_129 : decode cX4_orders 129 = .ok (.iinc 2 1, 3) := by decide +kernel
theorem dX4_orders_132 : decode cX4_orders 132 = .ok (.goto (-103), 3) := by decide +kernel
theorem dX4_orders_135 : decode cX4_orders 135 = .ok (.aload_n 0, 1) := by decide +kernel
theorem dX4_orders_136 : decode cX4_orders 136 = .ok (.getfield 48, 3) := by decide +kernel
theorem dX4_orders_139 : decode cX4_orders 139 = .ok (.iload_n 1, 1) := by decide +kernel
theorem dX4_orders_140 : decode cX4_orders 140 = .ok (.iaload, 1) := by decide +kernel
theorem dX4_orders_141 : decode cX4_orders 141 = .ok (.ireturn, 1) := by decide +kernel
theorem dX4_mark_0 : decode cX4_mark 0 = .ok (.iload_n 1, 1) := by decide +kernel
theorem dX4_mark_1 : decode cX4_mark 1 = .ok (.iconst 0, 1) := by decide +kernel
theorem dX4_mark_2 : decode cX4_mark 2 = .ok (.iconst 5, 1) := by decide +kernel
theorem dX4_mark_3 : decode cX4_mark 3 = .ok (.invokestatic 57, 3) := by decide +kernel
theorem dX4_mark_6 : decode cX4_mark 6 = .ok (.ifCond .eq 11, 3) := by decide +kernel
theorem dX4_mark_9 : decode cX4_mark 9 = .ok (.aload_n 0, 1) := by decide +kernel
theorem dX4_mark_10 : decode cX4_mark 10 = .ok (.iload_n 2, 1) := by decide +kernel
theorem dX4_mark_11 : decode cX4_mark 11 = .ok (.invokevirtual 117, 3) := by decide +kernel
theorem dX4_mark_14 : decode cX4_mark 14 = .ok (.ifCond .ne 6, 3) := by decide +kernel
theorem dX4_mark_17 : decode cX4_mark 17 = .ok (.ldc 182, 2) := by decide +kernel
theorem dX4_mark_19 : decode cX4_mark 19 = .ok (.ireturn, 1) := by decide +kernel
theorem dX4_mark_20 : decode cX4_mark 20 = .ok (.aload_n 0, 1) := by decide +kernel
theorem dX4_mark_21 : decode cX4_mark 21 = .ok (.getfield 20, 3) := by decide +kernel
theorem dX4_mark_24 : decode cX4_mark 24 = .ok (.iload_n 2, 1) := by decide +kernel
theorem dX4_mark_25 : decode cX4_mark 25 = .ok (.iaload, 1) := by decide +kernel
theorem dX4_mark_26 : decode cX4_mark 26 = .ok (.invokestatic 170, 3) := by decide +kernel
theorem dX4_mark_29 : decode cX4_mark 29 = .ok (.istore_n 3, 1) := by decide +kernel
theorem dX4_mark_30 : decode cX4_mark 30 = .ok (.aload_n 0, 1) := by decide +kernel
theorem dX4_mark_31 : decode cX4_mark 31 = .ok (.getfield 17, 3) := by decide +kernel
theorem dX4_mark_34 : decode cX4_mark 34 = .ok (.iload_n 2, 1) := by decide +kernel
theorem dX4_mark_35 : decode cX4_mark 35 = .ok (.iaload, 1) := by decide +kernel
theorem dX4_mark_36 : decode cX4_mark 36 = .ok (.aload_n 0, 1) := by decide +kernel
theorem dX4_mark_37 : decode cX4_mark 37 = .ok (.iload_n 2, 1) := by decide +kernel
theorem dX4_mark_38 : decode cX4_mark 38 = .ok (.invokevirtual 127, 3) := by decide +kernel
theorem dX4_mark_41 : decode cX4_mark 41 = .ok (.isub, 1) := by decide +kernel
theorem dX4_mark_42 : decode cX4_mark 42 = .ok (.istore 4, 2) := by decide +kernel
theorem dX4_mark_44 : decode cX4_mark 44 = .ok (.iload_n 1, 1) := by decide +kernel
theorem dX4_mark_45 : decode cX4_mark 45 = .ok (.tableswitch 135 0 4 #[35, 52, 73, 88, 111], 35) := by decide +kernel
theorem dX4_mark_80 : decode cX4_mark 80 = .ok (.aload_n 0, 1) := by decide +kernel
theorem dX4_mark_81 : decode cX4_mark 81 = .ok (.dup, 1) := by decide +kernel
theorem dX4_mark_82 : decode cX4_mark 82 = .ok (.getfield 183, 3) := by decide +kernel
theorem dX4_mark_85 : decode cX4_mark 85 = .ok (.lconst 1, 1) := by decide +kernel
theorem dX4_mark_86 : decode cX4_mark 86 = .ok (.ladd, 1) := by decide +kernel
theorem dX4_mark_87 : decode cX4_mark 87 = .ok (.putfield 183, 3) := by decide +kernel
theorem dX4_mark_90 : decode cX4_mark 90 = .ok (.aload_n 0, 1) := by decide +kernel
theorem dX4_mark_91 : decode cX4_mark 91 = .ok (.getfield 17, 3) := by decide +kernel
theorem dX4_mark_94 : decode cX4_mark 94 = .ok (.iload_n 2, 1) := by decide +kernel
theorem dX4_mark_95 : decode cX4_mark 95 = .ok (.iaload, 1) := by decide +kernel
theorem dX4_mark_96 : decode cX4_mark 96 = .ok (.ireturn, 1) := by decide +kernel
theorem dX4_mark_97 : decode cX4_mark 97 = .ok (.aload_n 0, 1) := by decide +kernel
theorem dX4_mark_98 : decode cX4_mark 98 = .ok (.dup, 1) := by decide +kernel
theorem dX4_mark_99 : decode cX4_mark 99 = .ok (.getfield 183, 3) := by decide +kernel
theorem dX4_mark_102 : decode cX4_mark 102 = .ok (.ldc2_w 187, 3) := by decide +kernel
theorem dX4_mark_105 : decode cX4_mark 105 = .ok (.ladd, 1) := by decide +kernel
theorem dX4_mark_106 : decode cX4_mark 106 = .ok (.putfield 183, 3) := by decide +kernel
theorem dX4_mark_109 : decode cX4_mark 109 = .ok (.aload_n 0, 1) := by decide +kernel
theorem dX4_mark_110 : decode cX4_mark 110 = .ok (.getfield 17, 3) := by decide +kernel
theorem dX4_mark_113 : decode cX4_mark 113 = .ok (.iload_n 2, 1) := by decide +kernel
theorem dX4_mark_114 : decode cX4_mark 114 = .ok (.iaload, 1) := by decide +kernel
theorem dX4_mark_115 : decode cX4_mark 115 = .ok (.iload_n 3, 1) := by decide +kernel
theorem dX4_mark_116 : decode cX4_mark 116 = .ok (.iadd, 1) := by decide +kernel
theorem dX4_mark_117 : decode cX4_mark 117 = .ok (.ireturn, 1) := by decide +kernel
theorem dX4_mark_118 : decode cX4_mark 118 = .ok (.aload_n 0, 1) := by decide +kernel
theorem dX4_mark_119 : decode cX4_mark 119 = .ok (.dup, 1) := by decide +kernel
theorem dX4_mark_120 : decode cX4_mark 120 = .ok (.getfield 183, 3) := by decide +kernel
theorem dX4_mark_123 : decode cX4_mark 123 = .ok (.ldc2_w 189, 3) := by decide +kernel
theorem dX4_mark_126 : decode cX4_mark 126 = .ok (.ladd, 1) := by decide +kernel
theorem dX4_mark_127 : decode cX4_mark 127 = .ok (.putfield 183, 3) := by decide +kernel
theorem dX4_mark_130 : decode cX4_mark 130 = .ok (.iload 4, 2) := by decide +kernel
theorem dX4_mark_132 : decode cX4_mark 132 = .ok (.ireturn, 1) := by decide +kernel
theorem dX4_mark_133 : decode cX4_mark 133 = .ok (.aload_n 0, 1) := by decide +kernel
theorem dX4_mark_134 : decode cX4_mark 134 = .ok (.dup, 1) := by decide +kernel
theorem dX4_mark_135 : decode cX4_mark 135 = .ok (.getfield 183, 3) := by decide +kernel
theorem dX4_mark_138 : decode cX4_mark 138 = .ok (.ldc2_w 191, 3) := by decide +kernel
theorem dX4_mark_141 : decode cX4_mark 141 = .ok (.ladd, 1) := by decide +kernel
theorem dX4_mark_142 : decode cX4_mark 142 = .ok (.putfield 183, 3) := by decide +kernel
theorem dX4_mark_145 : decode cX4_mark 145 = .ok (.iconst 2, 1) := by decide +kernel
theorem dX4_mark_146 : decode cX4_mark 146 = .ok (.aload_n 0, 1) := by decide +kernel
theorem dX4_mark_147 : decode cX4_mark 147 = .ok (.getfield 17, 3) := by decide +kernel
theorem dX4_mark_150 : decode cX4_mark 150 = .ok (.iload_n 2, 1) := by decide +kernel
theorem dX4_mark_151 : decode cX4_mark 151 = .ok (.iaload, 1) := by decide +kernel
theorem dX4_mark_152 : decode cX4_mark 152 = .ok (.iload_n 3, 1) := by decide +kernel
theorem dX4_mark_153 : decode cX4_mark 153 = .ok (.iadd, 1) := by decide +kernel
theorem dX4_mark_154 : decode cX4_mark 154 = .ok (.imul, 1) := by decide +kernel
theorem dX4_mark_155 : decode cX4_mark 155 = .ok (.ireturn, 1) := by decide +kernel
theorem dX4_mark_156 : decode cX4_mark 156 = .ok (.aload_n 0, 1) := by decide +kernel
theorem dX4_mark_157 : decode cX4_mark 157 = .ok (.dup, 1) := by decide +kernel
theorem dX4_mark_158 : decode cX4_mark 158 = .ok (.getfield 183, 3) := by decide +kernel
theorem dX4_mark_161 : decode cX4_mark 161 = .ok (.ldc2_w 193, 3) := by decide +kernel
theorem dX4_mark_164 : decode cX4_mark 164 = .ok (.ladd, 1) := by decide +kernel
theorem dX4_mark_165 : decode cX4_mark 165 = .ok (.putfield 183, 3) := by decide +kernel
theorem dX4_mark_168 : decode cX4_mark 168 = .ok (.iload 4, 2) := by decide +kernel
theorem dX4_mark_170 : decode cX4_mark 170 = .ok (.aload_n 0, 1) := by decide +kernel
theorem dX4_mark_171 : decode cX4_mark 171 = .ok (.iload_n 2, 1) := by decide +kernel
theorem dX4_mark_172 : decode cX4_mark 172 = .ok (.invokevirtual 123, 3) := by decide +kernel
theorem dX4_mark_175 : decode cX4_mark 175 = .ok (.invokestatic 170, 3) := by decide +kernel
theorem dX4_mark_178 : decode cX4_mark 178 = .ok (.iadd, 1) := by decide +kernel
theorem dX4_mark_179 : decode cX4_mark 179 = .ok (.ireturn, 1) := by decide +kernel
theorem dX4_mark_180 : decode cX4_mark 180 = .ok (.aload_n 0, 1) := by decide +kernel
theorem dX4_mark_181 : decode cX4_mark 181 = .ok (.dup, 1) := by decide +kernel
theorem dX4_mark_182 : decode cX4_mark 182 = .ok (.getfield 183, 3) := by decide +kernel
theorem dX4_mark_185 : decode cX4_mark 185 = .ok (.ldc2_w 195, 3) := by decide +kernel
theorem dX4_mark_188 : decode cX4_mark 188 = .ok (.ladd, 1) := by decide +kernel
theorem dX4_mark_189 : decode cX4_mark 189 = .ok (.putfield 183, 3) := by decide +kernel
theorem dX4_mark_192 : decode cX4_mark 192 = .ok (.aload_n 0, 1) := by decide +kernel
theorem dX4_mark_193 : decode cX4_mark 193 = .ok (.getfield 17, 3) := by decide +kernel
theorem dX4_mark_196 : decode cX4_mark 196 = .ok (.iload_n 2, 1) := by decide +kernel
theorem dX4_mark_197 : decode cX4_mark 197 = .ok (.iaload, 1) := by decide +kernel
theorem dX4_mark_198 : decode cX4_mark 198 = .ok (.aload_n 0, 1) := by decide +kernel
theorem dX4_mark_199 : decode cX4_mark 199 = .ok (.getfield 35, 3) := by decide +kernel
theorem dX4_mark_202 : decode cX4_mark 202 = .ok (.bipush 121, 2) := by decide +kernel
theorem dX4_mark_204 : decode cX4_mark 204 = .ok (.iaload, 1) := by decide +kernel
theorem dX4_mark_205 : decode cX4_mark 205 = .ok (.iadd, 1) := by decide +kernel
theorem dX4_mark_206 : decode cX4_mark 206 = .ok (.ireturn, 1) := by decide +kernel
theorem dX4_keep_0 : decode cX4_keep 0 = .ok (.iload_n 1, 1) := by decide +kernel
theorem dX4_keep_1 : decode cX4_keep 1 = .ok (.iconst 0, 1) := by decide +kernel
theorem dX4_keep_2 : decode cX4_keep 2 = .ok (.iconst 1, 1) := by decide +kernel
theorem dX4_keep_3 : decode cX4_keep 3 = .ok (.invokestatic 57, 3) := by decide +kernel
theorem dX4_keep_6 : decode cX4_keep 6 = .ok (.ifCond .ne 5, 3) := by decide +kernel
theorem dX4_keep_9 : decode cX4_keep 9 = .ok (.iconst (-1), 1) := by decide +kernel
theorem dX4_keep_10 : decode cX4_keep 10 = .ok (.ireturn, 1) := by decide +kernel
theorem dX4_keep_11 : decode cX4_keep 11 = .ok (.iconst 0, 1) := by decide +kernel
theorem dX4_keep_12 : decode cX4_keep 12 = .ok (.istore_n 2, 1) := by decide +kernel
theorem dX4_keep_13 : decode cX4_keep 13 = .ok (.iload_n 2, 1) := by decide +kernel
theorem dX4_keep_14 : decode cX4_keep 14 = .ok (.sipush 147, 3) := by decide +kernel
theorem dX4_keep_17 : decode cX4_keep 17 = .ok (.if_icmp .ge 29, 3) := by decide +kernel
theorem dX4_keep_20 : decode cX4_keep 20 = .ok (.aload_n 0, 1) := by decide +kernel
theorem dX4_keep_21 : decode cX4_keep 21 = .ok (.getfield 35, 3) := by decide +kernel
theorem dX4_keep_24 : decode cX4_keep 24 = .ok (.sipush 147, 3) := by decide +kernel
theorem dX4_keep_27 : decode cX4_keep 27 = .ok (.iconst 1, 1) := by decide +kernel
theorem dX4_keep_28 : decode cX4_keep 28 = .ok (.iload_n 1, 1) := by decide +kernel
theorem dX4_keep_29 : decode cX4_keep 29 = .ok (.iadd, 1) := by decide +kernel
theorem dX4_keep_30 : decode cX4_keep 30 = .ok (.imul, 1) := by decide +kernel
theorem dX4_keep_31 : decode cX4_keep 31 = .ok (.iload_n 2, 1) := by decide +kernel
theorem dX4_keep_32 : decode cX4_keep 32 = .ok (.iadd, 1) := by decide +kernel
theorem dX4_keep_33 : decode cX4_keep 33 = .ok (.aload_n 0, 1) := by decide +kernel
theorem dX4_keep_34 : decode cX4_keep 34 = .ok (.getfield 35, 3) := by decide +kernel
theorem dX4_keep_37 : decode cX4_keep 37 = .ok (.iload_n 2, 1) := by decide +kernel
theorem dX4_keep_38 : decode cX4_keep 38 = .ok (.iaload, 1) := by decide +kernel
theorem dX4_keep_39 : decode cX4_keep 39 = .ok (.iastore, 1) := by decide +kernel
theorem dX4_keep_40 : decode cX4_keep 40 = .ok (.iinc 2 1, 3) := by decide +kernel
theorem dX4_keep_43 : decode cX4_keep 43 = .ok (.goto (-30), 3) := by decide +kernel
theorem dX4_keep_46 : decode cX4_keep 46 = .ok (.aload_n 0, 1) := by decide +kernel
theorem dX4_keep_47 : decode cX4_keep 47 = .ok (.getfield 38, 3) := by decide +kernel
theorem dX4_keep_50 : decode cX4_keep 50 = .ok (.iload_n 1, 1) := by decide +kernel
theorem dX4_keep_51 : decode cX4_keep 51 = .ok (.iconst 1, 1) := by decide +kernel
theorem dX4_keep_52 : decode cX4_keep 52 = .ok (.bastore, 1) := by decide +kernel
theorem dX4_keep_53 : decode cX4_keep 53 = .ok (.aload_n 0, 1) := by decide +kernel
theorem dX4_keep_54 : decode cX4_keep 54 = .ok (.getfield 35, 3) := by decide +kernel
theorem dX4_keep_57 : decode cX4_keep 57 = .ok (.bipush 121, 2) := by decide +kernel
theorem dX4_keep_59 : decode cX4_keep 59 = .ok (.iaload, 1) := by decide +kernel
theorem dX4_keep_60 : decode cX4_keep 60 = .ok (.ireturn, 1) := by decide +kernel
theorem dX4_back_0 : decode cX4_back 0 = .ok (.iload_n 1, 1) := by decide +kernel
theorem dX4_back_1 : decode cX4_back 1 = .ok (.iconst 0, 1) := by decide +kernel
theorem dX4_back_2 : decode cX4_back 2 = .ok (.iconst 1, 1) := by decide +kernel
theorem dX4_back_3 : decode cX4_back 3 = .ok (.invokestatic 57, 3) := by decide +kernel
theorem dX4_back_6 : decode cX4_back 6 = .ok (.ifCond .ne 5, 3) := by decide +kernel
theorem dX4_back_9 : decode cX4_back 9 = .ok (.iconst (-1), 1) := by decide +kernel
theorem dX4_back_10 : decode cX4_back 10 = .ok (.ireturn, 1) := by decide +kernel
theorem dX4_back_11 : decode cX4_back 11 = .ok (.aload_n 0, 1) := by decide +kernel
theorem dX4_back_12 : decode cX4_back 12 = .ok (.getfield 38, 3) := by decide +kernel
theorem dX4_back_15 : decode cX4_back 15 = .ok (.iload_n 1, 1) := by decide +kernel
theorem dX4_back_16 : decode cX4_back 16 = .ok (.baload, 1) := by decide +kernel
theorem dX4_back_17 : decode cX4_back 17 = .ok (.ifCond .ne 6, 3) := by decide +kernel
theorem dX4_back_20 : decode cX4_back 20 = .ok (.bipush (-2), 2) := by decide +kernel
theorem dX4_back_22 : decode cX4_back 22 = .ok (.ireturn, 1) := by decide +kernel
theorem dX4_back_23 : decode cX4_back 23 = .ok (.iconst 0, 1) := by decide +kernel
theorem dX4_back_24 : decode cX4_back 24 = .ok (.istore_n 2, 1) := by decide +kernel
theorem dX4_back_25 : decode cX4_back 25 = .ok (.iload_n 2, 1) := by decide +kernel
theorem dX4_back_26 : decode cX4_back 26 = .ok (.sipush 147, 3) := by decide +kernel
theorem dX4_back_29 : decode cX4_back 29 = .ok (.if_icmp .ge 29, 3) := by decide +kernel
theorem dX4_back_32 : decode cX4_back 32 = .ok (.aload_n 0, 1) := by decide +kernel
theorem dX4_back_33 : decode cX4_back 33 = .ok (.getfield 35, 3) := by decide +kernel
theorem dX4_back_36 : decode cX4_back 36 = .ok (.iload_n 2, 1) := by decide +kernel
theorem dX4_back_37 : decode cX4_back 37 = .ok (.aload_n 0, 1) := by decide +kernel
theorem dX4_back_38 : decode cX4_back 38 = .ok (.getfield 35, 3) := by decide +kernel
theorem dX4_back_41 : decode cX4_back 41 = .ok (.sipush 147, 3) := by decide +kernel
theorem dX4_back_44 : decode cX4_back 44 = .ok (.iconst 1, 1) := by decide +kernel
theorem dX4_back_45 : decode cX4_back 45 = .ok (.iload_n 1, 1) := by decide +kernel
theorem dX4_back_46 : decode cX4_back 46 = .ok (.iadd, 1) := by decide +kernel
theorem dX4_back_47 : decode cX4_back 47 = .ok (.imul, 1) := by decide +kernel
theorem dX4_back_48 : decode cX4_back 48 = .ok (.iload_n 2, 1) := by decide +kernel
theorem dX4_back_49 : decode cX4_back 49 = .ok (.iadd, 1) := by decide +kernel
theorem dX4_back_50 : decode cX4_back 50 = .ok (.iaload, 1) := by decide +kernel
theorem dX4_back_51 : decode cX4_back 51 = .ok (.iastore, 1) := by decide +kernel
theorem dX4_back_52 : decode cX4_back 52 = .ok (.iinc 2 1, 3) := by decide +kernel
theorem dX4_back_55 : decode cX4_back 55 = .ok (.goto (-30), 3) := by decide +kernel
theorem dX4_back_58 : decode cX4_back 58 = .ok (.aload_n 0, 1) := by decide +kernel
theorem dX4_back_59 : decode cX4_back 59 = .ok (.getfield 35, 3) := by decide +kernel
theorem dX4_back_62 : decode cX4_back 62 = .ok (.bipush 121, 2) := by decide +kernel
theorem dX4_back_64 : decode cX4_back 64 = .ok (.iaload, 1) := by decide +kernel
theorem dX4_back_65 : decode cX4_back 65 = .ok (.ireturn, 1) := by decide +kernel
theorem dX4_count_0 : decode cX4_count 0 = .ok (.iload_n 1, 1) := by decide +kernel
theorem dX4_count_1 : decode cX4_count 1 = .ok (.tableswitch 78 0 5 #[39, 46, 53, 60, 65, 73], 39) := by decide +kernel
theorem dX4_count_40 : decode cX4_count 40 = .ok (.aload_n 0, 1) := by decide +kernel
theorem dX4_count_41 : decode cX4_count 41 = .ok (.getfield 13, 3) := by decide +kernel
theorem dX4_count_44 : decode cX4_count 44 = .ok (.iconst 0, 1) := by decide +kernel
theorem dX4_count_45 : decode cX4_count 45 = .ok (.iaload, 1) := by decide +kernel
theorem dX4_count_46 : decode cX4_count 46 = .ok (.ireturn, 1) := by decide +kernel
theorem dX4_count_47 : decode cX4_count 47 = .ok (.aload_n 0, 1) := by decide +kernel
theorem dX4_count_48 : decode cX4_count 48 = .ok (.getfield 26, 3) := by decide +kernel
theorem dX4_count_51 : decode cX4_count 51 = .ok (.iconst 0, 1) := by decide +kernel
theorem dX4_count_52 : decode cX4_count 52 = .ok (.iaload, 1) := by decide +kernel
theorem dX4_count_53 : decode cX4_count 53 = .ok (.ireturn, 1) := by decide +kernel
theorem dX4_count_54 : decode cX4_count 54 = .ok (.aload_n 0, 1) := by decide +kernel
theorem dX4_count_55 : decode cX4_count 55 = .ok (.getfield 32, 3) := by decide +kernel
theorem dX4_count_58 : decode cX4_count 58 = .ok (.iconst 0, 1) := by decide +kernel
theorem dX4_count_59 : decode cX4_count 59 = .ok (.iaload, 1) := by decide +kernel
theorem dX4_count_60 : decode cX4_count 60 = .ok (.ireturn, 1) := by decide +kernel
theorem dX4_count_61 : decode cX4_count 61 = .ok (.aload_n 0, 1) := by decide +kernel
theorem dX4_count_62 : decode cX4_count 62 = .ok (.getfield 102, 3) := by decide +kernel
theorem dX4_count_65 : decode cX4_count 65 = .ok (.ireturn, 1) := by decide +kernel
theorem dX4_count_66 : decode cX4_count 66 = .ok (.aload_n 0, 1) := by decide +kernel
theorem dX4_count_67 : decode cX4_count 67 = .ok (.getfield 35, 3) := by decide +kernel
theorem dX4_count_70 : decode cX4_count 70 = .ok (.bipush 122, 2) := by decide +kernel
theorem dX4_count_72 : decode cX4_count 72 = .ok (.iaload, 1) := by decide +kernel
theorem dX4_count_73 : decode cX4_count 73 = .ok (.ireturn, 1) := by decide +kernel
theorem dX4_count_74 : decode cX4_count 74 = .ok (.aload_n 0, 1) := by decide +kernel
theorem dX4_count_75 : decode cX4_count 75 = .ok (.getfield 61, 3) := by decide +kernel
theorem dX4_count_78 : decode cX4_count 78 = .ok (.ireturn, 1) := by decide +kernel
theorem dX4_count_79 : decode cX4_count 79 = .ok (.iconst (-1), 1) := by decide +kernel
theorem dX4_count_80 : decode cX4_count 80 = .ok (.ireturn, 1) := by decide +kernel
theorem dX4_trace_0 : decode cX4_trace 0 = .ok (.aload_n 0, 1) := by decide +kernel
theorem dX4_trace_1 : decode cX4_trace 1 = .ok (.getfield 183, 3) := by decide +kernel
theorem dX4_trace_4 : decode cX4_trace 4 = .ok (.lreturn, 1) := by decide +kernel
end
section
theorem dL_law_0 : decode cL_law 0 = .ok (.new 7, 3) := by decide +kernel
theorem dL_law_3 : decode cL_law 3 = .ok (.dup, 1) := by decide +kernel
theorem dL_law_4 : decode cL_law 4 = .ok (.invokespecial 9, 3) := by decide +kernel
theorem dL_law_7 : decode cL_law 7 = .ok (.astore_n 1, 1) := by decide +kernel
theorem dL_law_8 : decode cL_law 8 = .ok (.new 10, 3) := by decide +kernel
theorem dL_law_11 : decode cL_law 11 = .ok (.dup, 1) := by decide +kernel
theorem dL_law_12 : decode cL_law 12 = .ok (.invokespecial 12, 3) := by decide +kernel
theorem dL_law_15 : decode cL_law 15 = .ok (.astore_n 2, 1) := by decide +kernel
theorem dL_law_16 : decode cL_law 16 = .ok (.iconst 0, 1) := by decide +kernel
theorem dL_law_17 : decode cL_law 17 = .ok (.istore_n 3, 1) := by decide +kernel
theorem dL_law_18 : decode cL_law 18 = .ok (.iload_n 3, 1) := by decide +kernel
theorem dL_law_19 : decode cL_law 19 = .ok (.aload_n 0, 1) := by decide +kernel
theorem dL_law_20 : decode cL_law 20 = .ok (.arraylength, 1) := by decide +kernel
theorem dL_law_21 : decode cL_law 21 = .ok (.iconst 4, 1) := by decide +kernel
theorem dL_law_22 : decode cL_law 22 = .ok (.isub, 1) := by decide +kernel
theorem dL_law_23 : decode cL_law 23 = .ok (.if_icmp .gt 727, 3) := by decide +kernel
theorem dL_law_26 : decode cL_law 26 = .ok (.aload_n 0, 1) := by decide +kernel
theorem dL_law_27 : decode cL_law 27 = .ok (.iload_n 3, 1) := by decide +kernel
theorem dL_law_28 : decode cL_law 28 = .ok (.iaload, 1) := by decide +kernel
theorem dL_law_29 : decode cL_law 29 = .ok (.bipush 31, 2) := by decide +kernel
theorem dL_law_31 : decode cL_law 31 = .ok (.iand, 1) := by decide +kernel
theorem dL_law_32 : decode cL_law 32 = .ok (.tableswitch 712 0 24 #[116, 139, 152, 165, 198, 231, 264, 287, 320, 333, 346, 369, 392, 425, 448, 471, 514, 547, 560, 573, 596, 629, 652, 675, 698], 116) := by decide +kernel
theorem dL_law_148 : decode cL_law 148 = .ok (.aload_n 1, 1) := by decide +kernel
theorem dL_law_149 : decode cL_law 149 = .ok (.aload_n 0, 1) := by decide +kernel
theorem dL_law_150 : decode cL_law 150 = .ok (.iload_n 3, 1) := by decide +kernel
theorem dL_law_151 : decode cL_law 151 = .ok (.iconst 1, 1) := by decide +kernel
theorem dL_law_152 : decode cL_law 152 = .ok (.iadd, 1) := by decide +kernel
theorem dL_law_153 : decode cL_law 153 = .ok (.iaload, 1) := by decide +kernel
theorem dL_law_154 : decode cL_law 154 = .ok (.invokevirtual 13, 3) := by decide +kernel
theorem dL_law_157 : decode cL_law 157 = .ok (.aload_n 2, 1) := by decide +kernel
theorem dL_law_158 : decode cL_law 158 = .ok (.aload_n 0, 1) := by decide +kernel
theorem dL_law_159 : decode cL_law 159 = .ok (.iload_n 3, 1) := by decide +kernel
theorem dL_law_160 : decode cL_law 160 = .ok (.iconst 1, 1) := by decide +kernel
theorem dL_law_161 : decode cL_law 161 = .ok (.iadd, 1) := by decide +kernel
theorem dL_law_162 : decode cL_law 162 = .ok (.iaload, 1) := by decide +kernel
theorem dL_law_163 : decode cL_law 163 = .ok (.invokevirtual 17, 3) := by decide +kernel
theorem dL_law_166 : decode cL_law 166 = .ok (.if_icmp .eq 578, 3) := by decide +kernel
theorem dL_law_169 : decode cL_law 169 = .ok (.iconst 0, 1) := by decide +kernel
theorem dL_law_170 : decode cL_law 170 = .ok (.ireturn, 1) := by decide +kernel
theorem dL_law_171 : decode cL_law 171 = .ok (.aload_n 1, 1) := by decide +kernel
theorem dL_law_172 : decode cL_law 172 = .ok (.invokevirtual 18, 3) := by decide +kernel
theorem dL_law_175 : decode cL_law 175 = .ok (.aload_n 2, 1) := by decide +kernel
theorem dL_law_176 : decode cL_law 176 = .ok (.invokevirtual 22, 3) := by decide +kernel
theorem dL_law_179 : decode cL_law 179 = .ok (.if_icmp .eq 565, 3) := by decide +kernel
theorem dL_law_182 : decode cL_law 182 = .ok (.iconst 0, 1) := by decide +kernel
theorem dL_law_183 : decode cL_law 183 = .ok (.ireturn, 1) := by decide +kernel
theorem dL_law_184 : decode cL_law 184 = .ok (.aload_n 1, 1) := by decide +kernel
theorem dL_law_185 : decode cL_law 185 = .ok (.invokevirtual 23, 3) := by decide +kernel
theorem dL_law_188 : decode cL_law 188 = .ok (.aload_n 2, 1) := by decide +kernel
theorem dL_law_189 : decode cL_law 189 = .ok (.invokevirtual 26, 3) := by decide +kernel
theorem dL_law_192 : decode cL_law 192 = .ok (.if_icmp .eq 552, 3) := by decide +kernel
theorem dL_law_195 : decode cL_law 195 = .ok (.iconst 0, 1) := by decide +kernel
theorem dL_law_196 : decode cL_law 196 = .ok (.ireturn, 1) := by decide +kernel
theorem dL_law_197 : decode cL_law 197 = .ok (.aload_n 1, 1) := by decide +kernel
theorem dL_law_198 : decode cL_law 198 = .ok (.aload_n 0, 1) := by decide +kernel
theorem dL_law_199 : decode cL_law 199 = .ok (.iload_n 3, 1) := by decide +kernel
theorem dL_law_200 : decode cL_law 200 = .ok (.iconst 1, 1) := by decide +kernel
theorem dL_law_201 : decode cL_law 201 = .ok (.iadd, 1) := by decide +kernel
theorem dL_law_202 : decode cL_law 202 = .ok (.iaload, 1) := by decide +kernel
theorem dL_law_203 : decode cL_law 203 = .ok (.aload_n 0, 1) := by decide +kernel
theorem dL_law_204 : decode cL_law 204 = .ok (.iload_n 3, 1) := by decide +kernel
theorem dL_law_205 : decode cL_law 205 = .ok (.iconst 2, 1) := by decide +kernel
theorem dL_law_206 : decode cL_law 206 = .ok (.iadd, 1) := by decide +kernel
theorem dL_law_207 : decode cL_law 207 = .ok (.iaload, 1) := by decide +kernel
theorem dL_law_208 : decode cL_law 208 = .ok (.invokevirtual 27, 3) := by decide +kernel
theorem dL_law_211 : decode cL_law 211 = .ok (.aload_n 2, 1) := by decide +kernel
theorem dL_law_212 : decode cL_law 212 = .ok (.aload_n 0, 1) := by decide +kernel
theorem dL_law_213 : decode cL_law 213 = .ok (.iload_n 3, 1) := by decide +kernel
theorem dL_law_214 : decode cL_law 214 = .ok (.iconst 1, 1) := by decide +kernel
theorem dL_law_215 : decode cL_law 215 = .ok (.iadd, 1) := by decide +kernel
theorem dL_law_216 : decode cL_law 216 = .ok (.iaload, 1) := by decide +kernel
theorem dL_law_217 : decode cL_law 217 = .ok (.aload_n 0, 1) := by decide +kernel
theorem dL_law_218 : decode cL_law 218 = .ok (.iload_n 3, 1) := by decide +kernel
theorem dL_law_219 : decode cL_law 219 = .ok (.iconst 2, 1) := by decide +kernel
theorem dL_law_220 : decode cL_law 220 = .ok (.iadd, 1) := by decide +kernel
theorem dL_law_221 : decode cL_law 221 = .ok (.iaload, 1) := by decide +kernel
theorem dL_law_222 : decode cL_law 222 = .ok (.invokevirtual 31, 3) := by decide +kernel
theorem dL_law_225 : decode cL_law 225 = .ok (.if_icmp .eq 519, 3) := by decide +kernel
theorem dL_law_228 : decode cL_law 228 = .ok (.iconst 0, 1) := by decide +kernel
theorem dL_law_229 : decode cL_law 229 = .ok (.ireturn, 1) := by decide +kernel
theorem dL_law_230 : decode cL_law 230 = .ok (.aload_n 1, 1) := by decide +kernel
theorem dL_law_231 : decode cL_law 231 = .ok (.aload_n 0, 1) := by decide +kernel
theorem dL_law_232 : decode cL_law 232 = .ok (.iload_n 3, 1) := by decide +kernel
theorem dL_law_233 : decode cL_law 233 = .ok (.iconst 1, 1) := by decide +kernel
theorem dL_law_234 : decode cL_law 234 = .ok (.iadd, 1) := by decide +kernel
theorem dL_law_235 : decode cL_law 235 = .ok (.iaload, 1) := by decide +kernel
theorem dL_law_236 : decode cL_law 236 = .ok (.aload_n 0, 1) := by decide +kernel
theorem dL_law_237 : decode cL_law 237 = .ok (.iload_n 3, 1) := by decide +kernel
theorem dL_law_238 : decode cL_law 238 = .ok (.iconst 2, 1) := by decide +kernel
theorem dL_law_239 : decode cL_law 239 = .ok (.iadd, 1) := by decide +kernel
theorem dL_law_240 : decode cL_law 240 = .ok (.iaload, 1) := by decide +kernel
theorem dL_law_241 : decode cL_law 241 = .ok (.invokevirtual 32, 3) := by decide +kernel
theorem dL_law_244 : decode cL_law 244 = .ok (.aload_n 2, 1) := by decide +kernel
theorem dL_law_245 : decode cL_law 245 = .ok (.aload_n 0, 1) := by decide +kernel
theorem dL_law_246 : decode cL_law 246 = .ok (.iload_n 3, 1) := by decide +kernel
theorem dL_law_247 : decode cL_law 247 = .ok (.iconst 1, 1) := by decide +kernel
theorem dL_law_248 : decode cL_law 248 = .ok (.iadd, 1) := by decide +kernel
theorem dL_law_249 : decode cL_law 249 = .ok (.iaload, 1) := by decide +kernel
theorem dL_law_250 : decode cL_law 250 = .ok (.aload_n 0, 1) := by decide +kernel
theorem dL_law_251 : decode cL_law 251 = .ok (.iload_n 3, 1) := by decide +kernel
theorem dL_law_252 : decode cL_law 252 = .ok (.iconst 2, 1) := by decide +kernel
theorem dL_law_253 : decode cL_law 253 = .ok (.iadd, 1) := by decide +kernel
theorem dL_law_254 : decode cL_law 254 = .ok (.iaload, 1) := by decide +kernel
theorem dL_law_255 : decode cL_law 255 = .ok (.invokevirtual 35, 3) := by decide +kernel
theorem dL_law_258 : decode cL_law 258 = .ok (.if_icmp .eq 486, 3) := by decide +kernel
theorem dL_law_261 : decode cL_law 261 = .ok (.iconst 0, 1) := by decide +kernel
theorem dL_law_262 : decode cL_law 262 = .ok (.ireturn, 1) := by decide +kernel
theorem dL_law_263 : decode cL_law 263 = .ok (.aload_n 1, 1) := by decide +kernel
theorem dL_law_264 : decode cL_law 264 = .ok (.aload_n 0, 1) := by decide +kernel
theorem dL_law_265 : decode cL_law 265 = .ok (.iload_n 3, 1) := by decide +kernel
theorem dL_law_266 : decode cL_law 266 = .ok (.iconst 1, 1) := by decide +kernel
theorem dL_law_267 : decode cL_law 267 = .ok (.iadd, 1) := by decide +kernel
theorem dL_law_268 : decode cL_law 268 = .ok (.iaload, 1) := by decide +kernel
theorem dL_law_269 : decode cL_law 269 = .ok (.aload_n 0, 1) := by decide +kernel
theorem dL_law_270 : decode cL_law 270 = .ok (.iload_n 3, 1) := by decide +kernel
theorem dL_law_271 : decode cL_law 271 = .ok (.iconst 2, 1) := by decide +kernel
theorem dL_law_272 : decode cL_law 272 = .ok (.iadd, 1) := by decide +kernel
theorem dL_law_273 : decode cL_law 273 = .ok (.iaload, 1) := by decide +kernel
theorem dL_law_274 : decode cL_law 274 = .ok (.invokevirtual 36, 3) := by decide +kernel
theorem dL_law_277 : decode cL_law 277 = .ok (.aload_n 2, 1) := by decide +kernel
theorem dL_law_278 : decode cL_law 278 = .ok (.aload_n 0, 1) := by decide +kernel
theorem dL_law_279 : decode cL_law 279 = .ok (.iload_n 3, 1) := by decide +kernel
theorem dL_law_280 : decode cL_law 280 = .ok (.iconst 1, 1) := by decide +kernel
theorem dL_law_281 : decode cL_law 281 = .ok (.iadd, 1) := by decide +kernel
theorem dL_law_282 : decode cL_law 282 = .ok (.iaload, 1) := by decide +kernel
theorem dL_law_283 : decode cL_law 283 = .ok (.aload_n 0, 1) := by decide +kernel
theorem dL_law_284 : decode cL_law 284 = .ok (.iload_n 3, 1) := by decide +kernel
theorem dL_law_285 : decode cL_law 285 = .ok (.iconst 2, 1) := by decide +kernel
theorem dL_law_286 : decode cL_law 286 = .ok (.iadd, 1) := by decide +kernel
theorem dL_law_287 : decode cL_law 287 = .ok (.iaload, 1) := by decide +kernel
theorem dL_law_288 : decode cL_law 288 = .ok (.invokevirtual 39, 3) := by decide +kernel
theorem dL_law_291 : decode cL_law 291 = .ok (.if_icmp .eq 453, 3) := by decide +kernel
theorem dL_law_294 : decode cL_law 294 = .ok (.iconst 0, 1) := by decide +kernel
theorem dL_law_295 : decode cL_law 295 = .ok (.ireturn, 1) := by decide +kernel
theorem dL_law_296 : decode cL_law 296 = .ok (.aload_n 1, 1) := by decide +kernel
theorem dL_law_297 : decode cL_law 297 = .ok (.aload_n 0, 1) := by decide +kernel
theorem dL_law_298 : decode cL_law 298 = .ok (.iload_n 3, 1) := by decide +kernel
theorem dL_law_299 : decode cL_law 299 = .ok (.iconst 1, 1) := by decide +kernel
theorem dL_law_300 : decode cL_law 300 = .ok (.iadd, 1) := by decide +kernel
theorem dL_law_301 : decode cL_law 301 = .ok (.iaload, 1) := by decide +kernel
theorem dL_law_302 : decode cL_law 302 = .ok (.invokevirtual 40, 3) := by decide +kernel
theorem dL_law_305 : decode cL_law 305 = .ok (.aload_n 2, 1) := by decide +kernel
theorem dL_law_306 : decode cL_law 306 = .ok (.aload_n 0, 1) := by decide +kernel
theorem dL_law_307 : decode cL_law 307 = .ok (.iload_n 3, 1) := by decide +kernel
theorem dL_law_308 : decode cL_law 308 = .ok (.iconst 1, 1) := by decide +kernel
theorem dL_law_309 : decode cL_law 309 = .ok (.iadd, 1) := by decide +kernel
theorem dL_law_310 : decode cL_law 310 = .ok (.iaload, 1) := by decide +kernel
theorem dL_law_311 : decode cL_law 311 = .ok (.invokevirtual 43, 3) := by decide +kernel
theorem dL_law_314 : decode cL_law 314 = .ok (.if_icmp .eq 430, 3) := by decide +kernel
theorem dL_law_317 : decode cL_law 317 = .ok (.iconst 0, 1) := by decide +kernel
theorem dL_law_318 : decode cL_law 318 = .ok (.ireturn, 1) := by decide +kernel
theorem dL_law_319 : decode cL_law 319 = .ok (.aload_n 1, 1) := by decide +kernel
theorem dL_law_320 : decode cL_law 320 = .ok (.aload_n 0, 1) := by decide +kernel
theorem dL_law_321 : decode cL_law 321 = .ok (.iload_n 3, 1) := by decide +kernel
theorem dL_law_322 : decode cL_law 322 = .ok (.iconst 1, 1) := by decide +kernel
theorem dL_law_323 : decode cL_law 323 = .ok (.iadd, 1) := by decide +kernel
theorem dL_law_324 : decode cL_law 324 = .ok (.iaload, 1) := by decide +kernel
theorem dL_law_325 : decode cL_law 325 = .ok (.aload_n 0, 1) := by decide +kernel
theorem dL_law_326 : decode cL_law 326 = .ok (.iload_n 3, 1) := by decide +kernel
theorem dL_law_327 : decode cL_law 327 = .ok (.iconst 2, 1) := by decide +kernel
theorem dL_law_328 : decode cL_law 328 = .ok (.iadd, 1) := by decide +kernel
theorem dL_law_329 : decode cL_law 329 = .ok (.iaload, 1) := by decide +kernel
theorem dL_law_330 : decode cL_law 330 = .ok (.invokevirtual 44, 3) := by decide +kernel
theorem dL_law_333 : decode cL_law 333 = .ok (.aload_n 2, 1) := by decide +kernel
theorem dL_law_334 : decode cL_law 334 = .ok (.aload_n 0, 1) := by decide +kernel
theorem dL_law_335 : decode cL_law 335 = .ok (.iload_n 3, 1) := by decide +kernel
theorem dL_law_336 : decode cL_law 336 = .ok (.iconst 1, 1) := by decide +kernel
theorem dL_law_337 : decode cL_law 337 = .ok (.iadd, 1) := by decide +kernel
theorem dL_law_338 : decode cL_law 338 = .ok (.iaload, 1) := by decide +kernel
theorem dL_law_339 : decode cL_law 339 = .ok (.aload_n 0, 1) := by decide +kernel
theorem dL_law_340 : decode cL_law 340 = .ok (.iload_n 3, 1) := by decide +kernel
theorem dL_law_341 : decode cL_law 341 = .ok (.iconst 2, 1) := by decide +kernel
theorem dL_law_342 : decode cL_law 342 = .ok (.iadd, 1) := by decide +kernel
theorem dL_law_343 : decode cL_law 343 = .ok (.iaload, 1) := by decide +kernel
theorem dL_law_344 : decode cL_law 344 = .ok (.invokevirtual 47, 3) := by decide +kernel
theorem dL_law_347 : decode cL_law 347 = .ok (.if_icmp .eq 397, 3) := by decide +kernel
theorem dL_law_350 : decode cL_law 350 = .ok (.iconst 0, 1) := by decide +kernel
theorem dL_law_351 : decode cL_law 351 = .ok (.ireturn, 1) := by decide +kernel
theorem dL_law_352 : decode cL_law 352 = .ok (.aload_n 1, 1) := by decide +kernel
theorem dL_law_353 : decode cL_law 353 = .ok (.invokevirtual 48, 3) := by decide +kernel
theorem dL_law_356 : decode cL_law 356 = .ok (.aload_n 2, 1) := by decide +kernel
theorem dL_law_357 : decode cL_law 357 = .ok (.invokevirtual 51, 3) := by decide +kernel
theorem dL_law_360 : decode cL_law 360 = .ok (.if_icmp .eq 384, 3) := by decide +kernel
theorem dL_law_363 : decode cL_law 363 = .ok (.iconst 0, 1) := by decide +kernel
theorem dL_law_364 : decode cL_law 364 = .ok (.ireturn, 1) := by decide +kernel
theorem dL_law_365 : decode cL_law 365 = .ok (.aload_n 1, 1) := by decide +kernel
theorem dL_law_366 : decode cL_law 366 = .ok (.invokevirtual 52, 3) := by decide +kernel
theorem dL_law_369 : decode cL_law 369 = .ok (.aload_n 2, 1) := by decide +kernel
theorem dL_law_370 : decode cL_law 370 = .ok (.invokevirtual 55, 3) := by decide +kernel
theorem dL_law_373 : decode cL_law 373 = .ok (.if_icmp .eq 371, 3) := by decide +kernel
theorem dL_law_376 : decode cL_law 376 = .ok (.iconst 0, 1) := by decide +kernel
theorem dL_law_377 : decode cL_law 377 = .ok (.ireturn, 1) := by decide +kernel
theorem dL_law_378 : decode cL_law 378 = .ok (.aload_n 1, 1) := by decide +kernel
theorem dL_law_379 : decode cL_law 379 = .ok (.aload_n 0, 1) := by decide +kernel
theorem dL_law_380 : decode cL_law 380 = .ok (.iload_n 3, 1) := by decide +kernel
theorem dL_law_381 : decode cL_law 381 = .ok (.iconst 1, 1) := by decide +kernel
theorem dL_law_382 : decode cL_law 382 = .ok (.iadd, 1) := by decide +kernel
theorem dL_law_383 : decode cL_law 383 = .ok (.iaload, 1) := by decide +kernel
theorem dL_law_384 : decode cL_law 384 = .ok (.invokevirtual 56, 3) := by decide +kernel
theorem dL_law_387 : decode cL_law 387 = .ok (.aload_n 2, 1) := by decide +kernel
theorem dL_law_388 : decode cL_law 388 = .ok (.aload_n 0, 1) := by decide +kernel
theorem dL_law_389 : decode cL_law 389 = .ok (.iload_n 3, 1) := by decide +kernel
theorem dL_law_390 : decode cL_law 390 = .ok (.iconst 1, 1) := by decide +kernel
theorem dL_law_391 : decode cL_law 391 = .ok (.iadd, 1) := by decide +kernel
theorem dL_law_392 : decode cL_law 392 = .ok (.iaload, 1) := by decide +kernel
theorem dL_law_393 : decode cL_law 393 = .ok (.invokevirtual 59, 3) := by decide +kernel
theorem dL_law_396 : decode cL_law 396 = .ok (.if_icmp .eq 348, 3) := by decide +kernel
theorem dL_law_399 : decode cL_law 399 = .ok (.iconst 0, 1) := by decide +kernel
theorem dL_law_400 : decode cL_law 400 = .ok (.ireturn, 1) := by decide +kernel
theorem dL_law_401 : decode cL_law 401 = .ok (.aload_n 1, 1) := by decide +kernel
theorem dL_law_402 : decode cL_law 402 = .ok (.aload_n 0, 1) := by decide +kernel
theorem dL_law_403 : decode cL_law 403 = .ok (.iload_n 3, 1) := by decide +kernel
theorem dL_law_404 : decode cL_law 404 = .ok (.iconst 1, 1) := by decide +kernel
theorem dL_law_405 : decode cL_law 405 = .ok (.iadd, 1) := by decide +kernel
theorem dL_law_406 : decode cL_law 406 = .ok (.iaload, 1) := by decide +kernel
theorem dL_law_407 : decode cL_law 407 = .ok (.invokevirtual 60, 3) := by decide +kernel
theorem dL_law_410 : decode cL_law 410 = .ok (.aload_n 2, 1) := by decide +kernel
theorem dL_law_411 : decode cL_law 411 = .ok (.aload_n 0, 1) := by decide +kernel
theorem dL_law_412 : decode cL_law 412 = .ok (.iload_n 3, 1) := by decide +kernel
theorem dL_law_413 : decode cL_law 413 = .ok (.iconst 1, 1) := by decide +kernel
theorem dL_law_414 : decode cL_law 414 = .ok (.iadd, 1) := by decide +kernel
theorem dL_law_415 : decode cL_law 415 = .ok (.iaload, 1) := by decide +kernel
theorem dL_law_416 : decode cL_law 416 = .ok (.invokevirtual 63, 3) := by decide +kernel
theorem dL_law_419 : decode cL_law 419 = .ok (.if_icmp .eq 325, 3) := by decide +kernel
theorem dL_law_422 : decode cL_law 422 = .ok (.iconst 0, 1) := by decide +kernel
theorem dL_law_423 : decode cL_law 423 = .ok (.ireturn, 1) := by decide +kernel
theorem dL_law_424 : decode cL_law 424 = .ok (.aload_n 1, 1) := by decide +kernel
theorem dL_law_425 : decode cL_law 425 = .ok (.aload_n 0, 1) := by decide +kernel
theorem dL_law_426 : decode cL_law 426 = .ok (.iload_n 3, 1) := by decide +kernel
theorem dL_law_427 : decode cL_law 427 = .ok (.iconst 1, 1) := by decide +kernel
theorem dL_law_428 : decode cL_law 428 = .ok (.iadd, 1) := by decide +kernel
theorem dL_law_429 : decode cL_law 429 = .ok (.iaload, 1) := by decide +kernel
theorem dL_law_430 : decode cL_law 430 = .ok (.aload_n 0, 1) := by decide +kernel
theorem dL_law_431 : decode cL_law 431 = .ok (.iload_n 3, 1) := by decide +kernel
theorem dL_law_432 : decode cL_law 432 = .ok (.iconst 2, 1) := by decide +kernel
theorem dL_law_433 : decode cL_law 433 = .ok (.iadd, 1) := by decide +kernel
theorem dL_law_434 : decode cL_law 434 = .ok (.iaload, 1) := by decide +kernel
theorem dL_law_435 : decode cL_law 435 = .ok (.invokevirtual 64, 3) := by decide +kernel
theorem dL_law_438 : decode cL_law 438 = .ok (.aload_n 2, 1) := by decide +kernel
theorem dL_law_439 : decode cL_law 439 = .ok (.aload_n 0, 1) := by decide +kernel
theorem dL_law_440 : decode cL_law 440 = .ok (.iload_n 3, 1) := by decide +kernel
theorem dL_law_441 : decode cL_law 441 = .ok (.iconst 1, 1) := by decide +kernel
theorem dL_law_442 : decode cL_law 442 = .ok (.iadd, 1) := by decide +kernel
theorem dL_law_443 : decode cL_law 443 = .ok (.iaload, 1) := by decide +kernel
theorem dL_law_444 : decode cL_law 444 = .ok (.aload_n 0, 1) := by decide +kernel
theorem dL_law_445 : decode cL_law 445 = .ok (.iload_n 3, 1) := by decide +kernel
theorem dL_law_446 : decode cL_law 446 = .ok (.iconst 2, 1) := by decide +kernel
theorem dL_law_447 : decode cL_law 447 = .ok (.iadd, 1) := by decide +kernel
theorem dL_law_448 : decode cL_law 448 = .ok (.iaload, 1) := by decide +kernel
theorem dL_law_449 : decode cL_law 449 = .ok (.invokevirtual 67, 3) := by decide +kernel
theorem dL_law_452 : decode cL_law 452 = .ok (.if_icmp .eq 292, 3) := by decide +kernel
theorem dL_law_455 : decode cL_law 455 = .ok (.iconst 0, 1) := by decide +kernel
theorem dL_law_456 : decode cL_law 456 = .ok (.ireturn, 1) := by decide +kernel
theorem dL_law_457 : decode cL_law 457 = .ok (.aload_n 1, 1) := by decide +kernel
theorem dL_law_458 : decode cL_law 458 = .ok (.aload_n 0, 1) := by decide +kernel
theorem dL_law_459 : decode cL_law 459 = .ok (.iload_n 3, 1) := by decide +kernel
theorem dL_law_460 : decode cL_law 460 = .ok (.iconst 1, 1) := by decide +kernel
theorem dL_law_461 : decode cL_law 461 = .ok (.iadd, 1) := by decide +kernel
theorem dL_law_462 : decode cL_law 462 = .ok (.iaload, 1) := by decide +kernel
theorem dL_law_463 : decode cL_law 463 = .ok (.invokevirtual 68, 3) := by decide +kernel
theorem dL_law_466 : decode cL_law 466 = .ok (.aload_n 2, 1) := by decide +kernel
theorem dL_law_467 : decode cL_law 467 = .ok (.aload_n 0, 1) := by decide +kernel
theorem dL_law_468 : decode cL_law 468 = .ok (.iload_n 3, 1) := by decide +kernel
theorem dL_law_469 : decode cL_law 469 = .ok (.iconst 1, 1) := by decide +kernel
theorem dL_law_470 : decode cL_law 470 = .ok (.iadd, 1) := by decide +kernel
theorem dL_law_471 : decode cL_law 471 = .ok (.iaload, 1) := by decide +kernel
theorem dL_law_472 : decode cL_law 472 = .ok (.invokevirtual 71, 3) := by decide +kernel
theorem dL_law_475 : decode cL_law 475 = .ok (.if_icmp .eq 269, 3) := by decide +kernel
theorem dL_law_478 : decode cL_law 478 = .ok (.iconst 0, 1) := by decide +kernel
theorem dL_law_479 : decode cL_law 479 = .ok (.ireturn, 1) := by decide +kernel
theorem dL_law_480 : decode cL_law 480 = .ok (.aload_n 1, 1) := by decide +kernel
theorem dL_law_481 : decode cL_law 481 = .ok (.aload_n 0, 1) := by decide +kernel
theorem dL_law_482 : decode cL_law 482 = .ok (.iload_n 3, 1) := by decide +kernel
theorem dL_law_483 : decode cL_law 483 = .ok (.iconst 1, 1) := by decide +kernel
theorem dL_law_484 : decode cL_law 484 = .ok (.iadd, 1) := by decide +kernel
theorem dL_law_485 : decode cL_law 485 = .ok (.iaload, 1) := by decide +kernel
theorem dL_law_486 : decode cL_law 486 = .ok (.invokevirtual 72, 3) := by decide +kernel
theorem dL_law_489 : decode cL_law 489 = .ok (.aload_n 2, 1) := by decide +kernel
theorem dL_law_490 : decode cL_law 490 = .ok (.aload_n 0, 1) := by decide +kernel
theorem dL_law_491 : decode cL_law 491 = .ok (.iload_n 3, 1) := by decide +kernel
theorem dL_law_492 : decode cL_law 492 = .ok (.iconst 1, 1) := by decide +kernel
theorem dL_law_493 : decode cL_law 493 = .ok (.iadd, 1) := by decide +kernel
theorem dL_law_494 : decode cL_law 494 = .ok (.iaload, 1) := by decide +kernel
theorem dL_law_495 : decode cL_law 495 = .ok (.invokevirtual 75, 3) := by decide +kernel
theorem dL_law_498 : decode cL_law 498 = .ok (.if_icmp .eq 246, 3) := by decide +kernel
theorem dL_law_501 : decode cL_law 501 = .ok (.iconst 0, 1) := by decide +kernel
theorem dL_law_502 : decode cL_law 502 = .ok (.ireturn, 1) := by decide +kernel
theorem dL_law_503 : decode cL_law 503 = .ok (.aload_n 1, 1) := by decide +kernel
theorem dL_law_504 : decode cL_law 504 = .ok (.aload_n 0, 1) := by decide +kernel
theorem dL_law_505 : decode cL_law 505 = .ok (.iload_n 3, 1) := by decide +kernel
theorem dL_law_506 : decode cL_law 506 = .ok (.iconst 1, 1) := by decide +kernel
theorem dL_law_507 : decode cL_law 507 = .ok (.iadd, 1) := by decide +kernel
theorem dL_law_508 : decode cL_law 508 = .ok (.iaload, 1) := by decide +kernel
theorem dL_law_509 : decode cL_law 509 = .ok (.aload_n 0, 1) := by decide +kernel
theorem dL_law_510 : decode cL_law 510 = .ok (.iload_n 3, 1) := by decide +kernel
theorem dL_law_511 : decode cL_law 511 = .ok (.iconst 2, 1) := by decide +kernel
theorem dL_law_512 : decode cL_law 512 = .ok (.iadd, 1) := by decide +kernel
theorem dL_law_513 : decode cL_law 513 = .ok (.iaload, 1) := by decide +kernel
theorem dL_law_514 : decode cL_law 514 = .ok (.aload_n 0, 1) := by decide +kernel
theorem dL_law_515 : decode cL_law 515 = .ok (.iload_n 3, 1) := by decide +kernel
theorem dL_law_516 : decode cL_law 516 = .ok (.iconst 3, 1) := by decide +kernel
theorem dL_law_517 : decode cL_law 517 = .ok (.iadd, 1) := by decide +kernel
theorem dL_law_518 : decode cL_law 518 = .ok (.iaload, 1) := by decide +kernel
theorem dL_law_519 : decode cL_law 519 = .ok (.invokevirtual 76, 3) := by decide +kernel
theorem dL_law_522 : decode cL_law 522 = .ok (.aload_n 2, 1) := by decide +kernel
theorem dL_law_523 : decode cL_law 523 = .ok (.aload_n 0, 1) := by decide +kernel
theorem dL_law_524 : decode cL_law 524 = .ok (.iload_n 3, 1) := by decide +kernel
theorem dL_law_525 : decode cL_law 525 = .ok (.iconst 1, 1) := by decide +kernel
theorem dL_law_526 : decode cL_law 526 = .ok (.iadd, 1) := by decide +kernel
theorem dL_law_527 : decode cL_law 527 = .ok (.iaload, 1) := by decide +kernel
theorem dL_law_528 : decode cL_law 528 = .ok (.aload_n 0, 1) := by decide +kernel
theorem dL_law_529 : decode cL_law 529 = .ok (.iload_n 3, 1) := by decide +kernel
theorem dL_law_530 : decode cL_law 530 = .ok (.iconst 2, 1) := by decide +kernel
theorem dL_law_531 : decode cL_law 531 = .ok (.iadd, 1) := by decide +kernel
theorem dL_law_532 : decode cL_law 532 = .ok (.iaload, 1) := by decide +kernel
theorem dL_law_533 : decode cL_law 533 = .ok (.aload_n 0, 1) := by decide +kernel
theorem dL_law_534 : decode cL_law 534 = .ok (.iload_n 3, 1) := by decide +kernel
theorem dL_law_535 : decode cL_law 535 = .ok (.iconst 3, 1) := by decide +kernel
theorem dL_law_536 : decode cL_law 536 = .ok (.iadd, 1) := by decide +kernel
theorem dL_law_537 : decode cL_law 537 = .ok (.iaload, 1) := by decide +kernel
theorem dL_law_538 : decode cL_law 538 = .ok (.invokevirtual 80, 3) := by decide +kernel
theorem dL_law_541 : decode cL_law 541 = .ok (.if_icmp .eq 203, 3) := by decide +kernel
theorem dL_law_544 : decode cL_law 544 = .ok (.iconst 0, 1) := by decide +kernel
theorem dL_law_545 : decode cL_law 545 = .ok (.ireturn, 1) := by decide +kernel
theorem dL_law_546 : decode cL_law 546 = .ok (.aload_n 1, 1) := by decide +kernel
theorem dL_law_547 : decode cL_law 547 = .ok (.aload_n 0, 1) := by decide +kernel
theorem dL_law_548 : decode cL_law 548 = .ok (.iload_n 3, 1) := by decide +kernel
theorem dL_law_549 : decode cL_law 549 = .ok (.iconst 1, 1) := by decide +kernel
theorem dL_law_550 : decode cL_law 550 = .ok (.iadd, 1) := by decide +kernel
theorem dL_law_551 : decode cL_law 551 = .ok (.iaload, 1) := by decide +kernel
theorem dL_law_552 : decode cL_law 552 = .ok (.aload_n 0, 1) := by decide +kernel
theorem dL_law_553 : decode cL_law 553 = .ok (.iload_n 3, 1) := by decide +kernel
theorem dL_law_554 : decode cL_law 554 = .ok (.iconst 2, 1) := by decide +kernel
theorem dL_law_555 : decode cL_law 555 = .ok (.iadd, 1) := by decide +kernel
theorem dL_law_556 : decode cL_law 556 = .ok (.iaload, 1) := by decide +kernel
theorem dL_law_557 : decode cL_law 557 = .ok (.invokevirtual 81, 3) := by decide +kernel
theorem dL_law_560 : decode cL_law 560 = .ok (.aload_n 2, 1) := by decide +kernel
theorem dL_law_561 : decode cL_law 561 = .ok (.aload_n 0, 1) := by decide +kernel
theorem dL_law_562 : decode cL_law 562 = .ok (.iload_n 3, 1) := by decide +kernel
theorem dL_law_563 : decode cL_law 563 = .ok (.iconst 1, 1) := by decide +kernel
theorem dL_law_564 : decode cL_law 564 = .ok (.iadd, 1) := by decide +kernel
theorem dL_law_565 : decode cL_law 565 = .ok (.iaload, 1) := by decide +kernel
theorem dL_law_566 : decode cL_law 566 = .ok (.aload_n 0, 1) := by decide +kernel
theorem dL_law_567 : decode cL_law 567 = .ok (.iload_n 3, 1) := by decide +kernel
theorem dL_law_568 : decode cL_law 568 = .ok (.iconst 2, 1) := by decide +kernel
theorem dL_law_569 : decode cL_law 569 = .ok (.iadd, 1) := by decide +kernel
theorem dL_law_570 : decode cL_law 570 = .ok (.iaload, 1) := by decide +kernel
theorem dL_law_571 : decode cL_law 571 = .ok (.invokevirtual 84, 3) := by decide +kernel
theorem dL_law_574 : decode cL_law 574 = .ok (.if_icmp .eq 170, 3) := by decide +kernel
theorem dL_law_577 : decode cL_law 577 = .ok (.iconst 0, 1) := by decide +kernel
theorem dL_law_578 : decode cL_law 578 = .ok (.ireturn, 1) := by decide +kernel
theorem dL_law_579 : decode cL_law 579 = .ok (.aload_n 1, 1) := by decide +kernel
theorem dL_law_580 : decode cL_law 580 = .ok (.invokevirtual 85, 3) := by decide +kernel
theorem dL_law_583 : decode cL_law 583 = .ok (.aload_n 2, 1) := by decide +kernel
theorem dL_law_584 : decode cL_law 584 = .ok (.invokevirtual 88, 3) := by decide +kernel
theorem dL_law_587 : decode cL_law 587 = .ok (.if_icmp .eq 157, 3) := by decide +kernel
theorem dL_law_590 : decode cL_law 590 = .ok (.iconst 0, 1) := by decide +kernel
theorem dL_law_591 : decode cL_law 591 = .ok (.ireturn, 1) := by decide +kernel
theorem dL_law_592 : decode cL_law 592 = .ok (.aload_n 1, 1) := by decide +kernel
theorem dL_law_593 : decode cL_law 593 = .ok (.invokevirtual 89, 3) := by decide +kernel
theorem dL_law_596 : decode cL_law 596 = .ok (.aload_n 2, 1) := by decide +kernel
theorem dL_law_597 : decode cL_law 597 = .ok (.invokevirtual 92, 3) := by decide +kernel
theorem dL_law_600 : decode cL_law 600 = .ok (.if_icmp .eq 144, 3) := by decide +kernel
theorem dL_law_603 : decode cL_law 603 = .ok (.iconst 0, 1) := by decide +kernel
theorem dL_law_604 : decode cL_law 604 = .ok (.ireturn, 1) := by decide +kernel
theorem dL_law_605 : decode cL_law 605 = .ok (.aload_n 1, 1) := by decide +kernel
theorem dL_law_606 : decode cL_law 606 = .ok (.aload_n 0, 1) := by decide +kernel
theorem dL_law_607 : decode cL_law 607 = .ok (.iload_n 3, 1) := by decide +kernel
theorem dL_law_608 : decode cL_law 608 = .ok (.iconst 1, 1) := by decide +kernel
theorem dL_law_609 : decode cL_law 609 = .ok (.iadd, 1) := by decide +kernel
theorem dL_law_610 : decode cL_law 610 = .ok (.iaload, 1) := by decide +kernel
theorem dL_law_611 : decode cL_law 611 = .ok (.invokevirtual 93, 3) := by decide +kernel
theorem dL_law_614 : decode cL_law 614 = .ok (.aload_n 2, 1) := by decide +kernel
theorem dL_law_615 : decode cL_law 615 = .ok (.aload_n 0, 1) := by decide +kernel
theorem dL_law_616 : decode cL_law 616 = .ok (.iload_n 3, 1) := by decide +kernel
theorem dL_law_617 : decode cL_law 617 = .ok (.iconst 1, 1) := by decide +kernel
theorem dL_law_618 : decode cL_law 618 = .ok (.iadd, 1) := by decide +kernel
theorem dL_law_619 : decode cL_law 619 = .ok (.iaload, 1) := by decide +kernel
theorem dL_law_620 : decode cL_law 620 = .ok (.invokevirtual 96, 3) := by decide +kernel
theorem dL_law_623 : decode cL_law 623 = .ok (.if_icmp .eq 121, 3) := by decide +kernel
theorem dL_law_626 : decode cL_law 626 = .ok (.iconst 0, 1) := by decide +kernel
theorem dL_law_627 : decode cL_law 627 = .ok (.ireturn, 1) := by decide +kernel
theorem dL_law_628 : decode cL_law 628 = .ok (.aload_n 1, 1) := by decide +kernel
theorem dL_law_629 : decode cL_law 629 = .ok (.aload_n 0, 1) := by decide +kernel
theorem dL_law_630 : decode cL_law 630 = .ok (.iload_n 3, 1) := by decide +kernel
theorem dL_law_631 : decode cL_law 631 = .ok (.iconst 1, 1) := by decide +kernel
theorem dL_law_632 : decode cL_law 632 = .ok (.iadd, 1) := by decide +kernel
theorem dL_law_633 : decode cL_law 633 = .ok (.iaload, 1) := by decide +kernel
theorem dL_law_634 : decode cL_law 634 = .ok (.aload_n 0, 1) := by decide +kernel
theorem dL_law_635 : decode cL_law 635 = .ok (.iload_n 3, 1) := by decide +kernel
theorem dL_law_636 : decode cL_law 636 = .ok (.iconst 2, 1) := by decide +kernel
theorem dL_law_637 : decode cL_law 637 = .ok (.iadd, 1) := by decide +kernel
theorem dL_law_638 : decode cL_law 638 = .ok (.iaload, 1) := by decide +kernel
theorem dL_law_639 : decode cL_law 639 = .ok (.invokevirtual 97, 3) := by decide +kernel
theorem dL_law_642 : decode cL_law 642 = .ok (.aload_n 2, 1) := by decide +kernel
theorem dL_law_643 : decode cL_law 643 = .ok (.aload_n 0, 1) := by decide +kernel
theorem dL_law_644 : decode cL_law 644 = .ok (.iload_n 3, 1) := by decide +kernel
theorem dL_law_645 : decode cL_law 645 = .ok (.iconst 1, 1) := by decide +kernel
theorem dL_law_646 : decode cL_law 646 = .ok (.iadd, 1) := by decide +kernel
theorem dL_law_647 : decode cL_law 647 = .ok (.iaload, 1) := by decide +kernel
theorem dL_law_648 : decode cL_law 648 = .ok (.aload_n 0, 1) := by decide +kernel
theorem dL_law_649 : decode cL_law 649 = .ok (.iload_n 3, 1) := by decide +kernel
theorem dL_law_650 : decode cL_law 650 = .ok (.iconst 2, 1) := by decide +kernel
theorem dL_law_651 : decode cL_law 651 = .ok (.iadd, 1) := by decide +kernel
theorem dL_law_652 : decode cL_law 652 = .ok (.iaload, 1) := by decide +kernel
theorem dL_law_653 : decode cL_law 653 = .ok (.invokevirtual 100, 3) := by decide +kernel
theorem dL_law_656 : decode cL_law 656 = .ok (.if_icmp .eq 88, 3) := by decide +kernel
theorem dL_law_659 : decode cL_law 659 = .ok (.iconst 0, 1) := by decide +kernel
theorem dL_law_660 : decode cL_law 660 = .ok (.ireturn, 1) := by decide +kernel
theorem dL_law_661 : decode cL_law 661 = .ok (.aload_n 1, 1) := by decide +kernel
theorem dL_law_662 : decode cL_law 662 = .ok (.aload_n 0, 1) := by decide +kernel
theorem dL_law_663 : decode cL_law 663 = .ok (.iload_n 3, 1) := by decide +kernel
theorem dL_law_664 : decode cL_law 664 = .ok (.iconst 1, 1) := by decide +kernel
theorem dL_law_665 : decode cL_law 665 = .ok (.iadd, 1) := by decide +kernel
theorem dL_law_666 : decode cL_law 666 = .ok (.iaload, 1) := by decide +kernel
theorem dL_law_667 : decode cL_law 667 = .ok (.invokevirtual 101, 3) := by decide +kernel
theorem dL_law_670 : decode cL_law 670 = .ok (.aload_n 2, 1) := by decide +kernel
theorem dL_law_671 : decode cL_law 671 = .ok (.aload_n 0, 1) := by decide +kernel
theorem dL_law_672 : decode cL_law 672 = .ok (.iload_n 3, 1) := by decide +kernel
theorem dL_law_673 : decode cL_law 673 = .ok (.iconst 1, 1) := by decide +kernel
theorem dL_law_674 : decode cL_law 674 = .ok (.iadd, 1) := by decide +kernel
theorem dL_law_675 : decode cL_law 675 = .ok (.iaload, 1) := by decide +kernel
theorem dL_law_676 : decode cL_law 676 = .ok (.invokevirtual 104, 3) := by decide +kernel
theorem dL_law_679 : decode cL_law 679 = .ok (.if_icmp .eq 65, 3) := by decide +kernel
theorem dL_law_682 : decode cL_law 682 = .ok (.iconst 0, 1) := by decide +kernel
theorem dL_law_683 : decode cL_law 683 = .ok (.ireturn, 1) := by decide +kernel
theorem dL_law_684 : decode cL_law 684 = .ok (.aload_n 1, 1) := by decide +kernel
theorem dL_law_685 : decode cL_law 685 = .ok (.aload_n 0, 1) := by decide +kernel
theorem dL_law_686 : decode cL_law 686 = .ok (.iload_n 3, 1) := by decide +kernel
theorem dL_law_687 : decode cL_law 687 = .ok (.iconst 1, 1) := by decide +kernel
theorem dL_law_688 : decode cL_law 688 = .ok (.iadd, 1) := by decide +kernel
theorem dL_law_689 : decode cL_law 689 = .ok (.iaload, 1) := by decide +kernel
theorem dL_law_690 : decode cL_law 690 = .ok (.invokevirtual 105, 3) := by decide +kernel
theorem dL_law_693 : decode cL_law 693 = .ok (.aload_n 2, 1) := by decide +kernel
theorem dL_law_694 : decode cL_law 694 = .ok (.aload_n 0, 1) := by decide +kernel
theorem dL_law_695 : decode cL_law 695 = .ok (.iload_n 3, 1) := by decide +kernel
theorem dL_law_696 : decode cL_law 696 = .ok (.iconst 1, 1) := by decide +kernel
theorem dL_law_697 : decode cL_law 697 = .ok (.iadd, 1) := by decide +kernel
theorem dL_law_698 : decode cL_law 698 = .ok (.iaload, 1) := by decide +kernel
theorem dL_law_699 : decode cL_law 699 = .ok (.invokevirtual 108, 3) := by decide +kernel
theorem dL_law_702 : decode cL_law 702 = .ok (.if_icmp .eq 42, 3) := by decide +kernel
theorem dL_law_705 : decode cL_law 705 = .ok (.iconst 0, 1) := by decide +kernel
theorem dL_law_706 : decode cL_law 706 = .ok (.ireturn, 1) := by decide +kernel
theorem dL_law_707 : decode cL_law 707 = .ok (.aload_n 1, 1) := by decide +kernel
theorem dL_law_708 : decode cL_law 708 = .ok (.aload_n 0, 1) := by decide +kernel
theorem dL_law_709 : decode cL_law 709 = .ok (.iload_n 3, 1) := by decide +kernel
theorem dL_law_710 : decode cL_law 710 = .ok (.iconst 1, 1) := by decide +kernel
theorem dL_law_711 : decode cL_law 711 = .ok (.iadd, 1) := by decide +kernel
theorem dL_law_712 : decode cL_law 712 = .ok (.iaload, 1) := by decide +kernel
theorem dL_law_713 : decode cL_law 713 = .ok (.invokevirtual 109, 3) := by decide +kernel
theorem dL_law_716 : decode cL_law 716 = .ok (.aload_n 2, 1) := by decide +kernel
theorem dL_law_717 : decode cL_law 717 = .ok (.aload_n 0, 1) := by decide +kernel
theorem dL_law_718 : decode cL_law 718 = .ok (.iload_n 3, 1) := by decide +kernel
theorem dL_law_719 : decode cL_law 719 = .ok (.iconst 1, 1) := by decide +kernel
theorem dL_law_720 : decode cL_law 720 = .ok (.iadd, 1) := by decide +kernel
theorem dL_law_721 : decode cL_law 721 = .ok (.iaload, 1) := by decide +kernel
theorem dL_law_722 : decode cL_law 722 = .ok (.invokevirtual 112, 3) := by decide +kernel
theorem dL_law_725 : decode cL_law 725 = .ok (.if_icmp .eq 19, 3) := by decide +kernel
theorem dL_law_728 : decode cL_law 728 = .ok (.iconst 0, 1) := by decide +kernel
theorem dL_law_729 : decode cL_law 729 = .ok (.ireturn, 1) := by decide +kernel
theorem dL_law_730 : decode cL_law 730 = .ok (.aload_n 1, 1) := by decide +kernel
theorem dL_law_731 : decode cL_law 731 = .ok (.invokevirtual 113, 3) := by decide +kernel
theorem dL_law_734 : decode cL_law 734 = .ok (.aload_n 2, 1) := by decide +kernel
theorem dL_law_735 : decode cL_law 735 = .ok (.invokevirtual 117, 3) := by decide +kernel
theorem dL_law_738 : decode cL_law 738 = .ok (.lcmp, 1) := by decide +kernel
theorem dL_law_739 : decode cL_law 739 = .ok (.ifCond .eq 5, 3) := by decide +kernel
theorem dL_law_742 : decode cL_law 742 = .ok (.iconst 0, 1) := by decide +kernel
theorem dL_law_743 : decode cL_law 743 = .ok (.ireturn, 1) := by decide +kernel
theorem dL_law_744 : decode cL_law 744 = .ok (.iinc 3 4, 3) := by decide +kernel
theorem dL_law_747 : decode cL_law 747 = .ok (.goto (-729), 3) := by decide +kernel
theorem dL_law_750 : decode cL_law 750 = .ok (.iconst 1, 1) := by decide +kernel
theorem dL_law_751 : decode cL_law 751 = .ok (.ireturn, 1) := by decide +kernel
end
section
/-! ===== the tables' words by their places; fields, methods and links for Z ===== -/
def ztbl : List Cond := lw_tbl.filter goodWord
theorem zall_good : ∀ w ∈ ztbl, ((w.onTables && w.keeps) = true ∨ ∃ ty, w = .arrayClass ty) := fun w h => good_of_word (List.mem_filter.mp h).2
theorem zt_1 {w : Cond} (h : w ∈ tables_1_1) : w ∈ lw_tbl := List.mem_append_right _ (show w ∈ tables_1_1 ++ (tables_1_2 ++ (tables_1_3 ++ tables_1_4)) from List.mem_append_left _ h)
theorem zt_2 {w : Cond} (h : w ∈ tables_1_2) : w ∈ lw_tbl := List.mem_append_right _ (show w ∈ tables_1_1 ++ (tables_1_2 ++ (tables_1_3 ++ tables_1_4)) from List.mem_append_right _ (List.mem_append_left _ h))
theorem zt_3 {w : Cond} (h : w ∈ tables_1_3) : w ∈ lw_tbl := List.mem_append_right _ (show w ∈ tables_1_1 ++ (tables_1_2 ++ (tables_1_3 ++ tables_1_4)) from List.mem_append_right _ (List.mem_append_right _ (List.mem_append_left _ h)))
theorem zt_4 {w : Cond} (h : w ∈ tables_1_4) : w ∈ lw_tbl := List.mem_append_right _ (show w ∈ tables_1_1 ++ (tables_1_2 ++ (tables_1_3 ++ tables_1_4)) from List.mem_append_right _ (List.mem_append_right _ (List.mem_append_right _ h)))
theorem zg {w : Cond} (h : w ∈ lw_tbl) (g : goodWord w = true) : w ∈ ztbl := List.mem_filter.mpr ⟨h, g⟩
-- fields' places
set_option maxRecDepth 20000 in
theorem zm_1_70 : Cond.laysFinal "AnswerSquare$Duchy" "AnswerSquare$Duchy" "worthy" "[I" ∈ ztbl := zg (zt_1 (List.mem_of_getElem? (i := 70) rfl)) rfl
set_option maxRecDepth 20000 in
theorem zm_1_72 : Cond.laysFinal "AnswerSquare$Duchy" "AnswerSquare$Duchy" "answers" "[I" ∈ ztbl := zg (zt_1 (List.mem_of_getElem? (i := 72) rfl)) rfl
set_option maxRecDepth 20000 in
theorem zm_1_74 : Cond.laysFinal "AnswerSquare$Duchy" "AnswerSquare$Duchy" "knows" "[I" ∈ ztbl := zg (zt_1 (List.mem_of_getElem? (i := 74) rfl)) rfl
set_option maxRecDepth 20000 in
theorem zm_1_76 : Cond.lays "AnswerSquare$Duchy" "AnswerSquare$Duchy" "sayings" "I" ∈ ztbl := zg (zt_1 (List.mem_of_getElem? (i := 76) rfl)) rfl
set_option maxRecDepth 20000 in
theorem zm_1_78 : Cond.lays "AnswerSquare$Duchy" "AnswerSquare$Duchy" "people" "I" ∈ ztbl := zg (zt_1 (List.mem_of_getElem? (i := 78) rfl)) rfl
set_option maxRecDepth 20000 in
theorem zm_1_80 : Cond.lays "AnswerSquare$Duchy" "AnswerSquare$Duchy" "old" "I" ∈ ztbl := zg (zt_1 (List.mem_of_getElem? (i := 80) rfl)) rfl
set_option maxRecDepth 20000 in
theorem zm_1_82 : Cond.lays "AnswerSquare$Duchy" "AnswerSquare$Duchy" "oldIsTold" "Z" ∈ ztbl := zg (zt_1 (List.mem_of_getElem? (i := 82) rfl)) rfl
set_option maxRecDepth 20000 in
theorem zm_1_84 : Cond.lays "AnswerSquare$Duchy" "AnswerSquare$Duchy" "soundBits" "I" ∈ ztbl := zg (zt_1 (List.mem_of_getElem? (i := 84) rfl)) rfl
set_option maxRecDepth 20000 in
theorem zm_1_86 : Cond.lays "AnswerSquare$Duchy" "AnswerSquare$Duchy" "sayable" "I" ∈ ztbl := zg (zt_1 (List.mem_of_getElem? (i := 86) rfl)) rfl
theorem zu_X0 : ∀ w ∈ u_ws RX0 TX0 9, w ∈ ztbl := by
  intro w hw
  obtain ⟨k, hk, rfl⟩ := List.mem_map.mp hw
  have hk := List.mem_range.mp hk
  rcases (show k = 0 ∨ k = 1 ∨ k = 2 ∨ k = 3 ∨ k = 4 ∨ k = 5 ∨ k = 6 ∨ k = 7 ∨ k = 8 by omega) with rfl | rfl | rfl | rfl | rfl | rfl | rfl | rfl | rfl
  · exact zm_1_70
  · exact zm_1_72
  · exact zm_1_74
  · exact zm_1_76
  · exact zm_1_78
  · exact zm_1_80
  · exact zm_1_82
  · exact zm_1_84
  · exact zm_1_86
set_option maxRecDepth 20000 in
theorem zm_1_115 : Cond.laysFinal "AnswerSquare$Moment" "AnswerSquare$Moment" "which" "[I" ∈ ztbl := zg (zt_1 (List.mem_of_getElem? (i := 115) rfl)) rfl
set_option maxRecDepth 20000 in
theorem zm_1_117 : Cond.laysFinal "AnswerSquare$Moment" "AnswerSquare$Moment" "at" "[I" ∈ ztbl := zg (zt_1 (List.mem_of_getElem? (i := 117) rfl)) rfl
set_option maxRecDepth 20000 in
theorem zm_1_119 : Cond.laysFinal "AnswerSquare$Moment" "AnswerSquare$Moment" "by" "[I" ∈ ztbl := zg (zt_1 (List.mem_of_getElem? (i := 119) rfl)) rfl
set_option maxRecDepth 20000 in
theorem zm_1_121 : Cond.laysFinal "AnswerSquare$Moment" "AnswerSquare$Moment" "to" "[I" ∈ ztbl := zg (zt_1 (List.mem_of_getElem? (i := 121) rfl)) rfl
set_option maxRecDepth 20000 in
theorem zm_1_123 : Cond.laysFinal "AnswerSquare$Moment" "AnswerSquare$Moment" "root" "[I" ∈ ztbl := zg (zt_1 (List.mem_of_getElem? (i := 123) rfl)) rfl
set_option maxRecDepth 20000 in
theorem zm_1_125 : Cond.laysFinal "AnswerSquare$Moment" "AnswerSquare$Moment" "far" "[I" ∈ ztbl := zg (zt_1 (List.mem_of_getElem? (i := 125) rfl)) rfl
set_option maxRecDepth 20000 in
theorem zm_1_127 : Cond.lays "AnswerSquare$Moment" "AnswerSquare$Moment" "size" "I" ∈ ztbl := zg (zt_1 (List.mem_of_getElem? (i := 127) rfl)) rfl
set_option maxRecDepth 20000 in
theorem zm_1_129 : Cond.lays "AnswerSquare$Moment" "AnswerSquare$Moment" "clock" "I" ∈ ztbl := zg (zt_1 (List.mem_of_getElem? (i := 129) rfl)) rfl
set_option maxRecDepth 20000 in
theorem zm_1_131 : Cond.lays "AnswerSquare$Moment" "AnswerSquare$Moment" "undoable" "I" ∈ ztbl := zg (zt_1 (List.mem_of_getElem? (i := 131) rfl)) rfl
set_option maxRecDepth 20000 in
theorem zm_1_133 : Cond.lays "AnswerSquare$Moment" "AnswerSquare$Moment" "hourBits" "I" ∈ ztbl := zg (zt_1 (List.mem_of_getElem? (i := 133) rfl)) rfl
set_option maxRecDepth 20000 in
theorem zm_1_135 : Cond.lays "AnswerSquare$Moment" "AnswerSquare$Moment" "kept" "Z" ∈ ztbl := zg (zt_1 (List.mem_of_getElem? (i := 135) rfl)) rfl
theorem zu_X1 : ∀ w ∈ u_ws RX1 TX1 11, w ∈ ztbl := by
  intro w hw
  obtain ⟨k, hk, rfl⟩ := List.mem_map.mp hw
  have hk := List.mem_range.mp hk
  rcases (show k = 0 ∨ k = 1 ∨ k = 2 ∨ k = 3 ∨ k = 4 ∨ k = 5 ∨ k = 6 ∨ k = 7 ∨ k = 8 ∨ k = 9 ∨ k = 10 by omega) with rfl | rfl | rfl | rfl | rfl | rfl | rfl | rfl | rfl | rfl | rfl
  · exact zm_1_115
  · exact zm_1_117
  · exact zm_1_119
  · exact zm_1_121
  · exact zm_1_123
  · exact zm_1_125
  · exact zm_1_127
  · exact zm_1_129
  · exact zm_1_131
  · exact zm_1_133
  · exact zm_1_135
set_option maxRecDepth 20000 in
theorem zm_1_33 : Cond.laysFinal "AnswerSquare$Text" "AnswerSquare$Text" "bytes" "[I" ∈ ztbl := zg (zt_1 (List.mem_of_getElem? (i := 33) rfl)) rfl
set_option maxRecDepth 20000 in
theorem zm_1_35 : Cond.lays "AnswerSquare$Text" "AnswerSquare$Text" "length" "I" ∈ ztbl := zg (zt_1 (List.mem_of_getElem? (i := 35) rfl)) rfl
set_option maxRecDepth 20000 in
theorem zm_1_37 : Cond.lays "AnswerSquare$Text" "AnswerSquare$Text" "token" "I" ∈ ztbl := zg (zt_1 (List.mem_of_getElem? (i := 37) rfl)) rfl
set_option maxRecDepth 20000 in
theorem zm_1_39 : Cond.lays "AnswerSquare$Text" "AnswerSquare$Text" "start" "I" ∈ ztbl := zg (zt_1 (List.mem_of_getElem? (i := 39) rfl)) rfl
set_option maxRecDepth 20000 in
theorem zm_1_41 : Cond.lays "AnswerSquare$Text" "AnswerSquare$Text" "behind" "I" ∈ ztbl := zg (zt_1 (List.mem_of_getElem? (i := 41) rfl)) rfl
set_option maxRecDepth 20000 in
theorem zm_1_43 : Cond.lays "AnswerSquare$Text" "AnswerSquare$Text" "value" "I" ∈ ztbl := zg (zt_1 (List.mem_of_getElem? (i := 43) rfl)) rfl
theorem zu_X2 : ∀ w ∈ u_ws RX2 TX2 6, w ∈ ztbl := by
  intro w hw
  obtain ⟨k, hk, rfl⟩ := List.mem_map.mp hw
  have hk := List.mem_range.mp hk
  rcases (show k = 0 ∨ k = 1 ∨ k = 2 ∨ k = 3 ∨ k = 4 ∨ k = 5 by omega) with rfl | rfl | rfl | rfl | rfl | rfl
  · exact zm_1_33
  · exact zm_1_35
  · exact zm_1_37
  · exact zm_1_39
  · exact zm_1_41
  · exact zm_1_43
set_option maxRecDepth 20000 in
theorem zm_1_149 : Cond.laysFinal "AnswerSquare" "AnswerSquare" "text" "LAnswerSquare$Text;" ∈ ztbl := zg (zt_1 (List.mem_of_getElem? (i := 149) rfl)) rfl
set_option maxRecDepth 20000 in
theorem zm_1_151 : Cond.lays "AnswerSquare" "AnswerSquare" "told" "LAnswerSquare$Duchy;" ∈ ztbl := zg (zt_1 (List.mem_of_getElem? (i := 151) rfl)) rfl
set_option maxRecDepth 20000 in
theorem zm_1_153 : Cond.lays "AnswerSquare" "AnswerSquare" "spare" "LAnswerSquare$Duchy;" ∈ ztbl := zg (zt_1 (List.mem_of_getElem? (i := 153) rfl)) rfl
set_option maxRecDepth 20000 in
theorem zm_1_155 : Cond.laysFinal "AnswerSquare" "AnswerSquare" "present" "LAnswerSquare$Moment;" ∈ ztbl := zg (zt_1 (List.mem_of_getElem? (i := 155) rfl)) rfl
set_option maxRecDepth 20000 in
theorem zm_1_157 : Cond.laysFinal "AnswerSquare" "AnswerSquare" "firstImage" "LAnswerSquare$Moment;" ∈ ztbl := zg (zt_1 (List.mem_of_getElem? (i := 157) rfl)) rfl
set_option maxRecDepth 20000 in
theorem zm_1_159 : Cond.laysFinal "AnswerSquare" "AnswerSquare" "secondImage" "LAnswerSquare$Moment;" ∈ ztbl := zg (zt_1 (List.mem_of_getElem? (i := 159) rfl)) rfl
set_option maxRecDepth 20000 in
theorem zm_1_161 : Cond.laysFinal "AnswerSquare" "AnswerSquare" "toldAhead" "[I" ∈ ztbl := zg (zt_1 (List.mem_of_getElem? (i := 161) rfl)) rfl
set_option maxRecDepth 20000 in
theorem zm_1_163 : Cond.lays "AnswerSquare" "AnswerSquare" "toldCount" "I" ∈ ztbl := zg (zt_1 (List.mem_of_getElem? (i := 163) rfl)) rfl
set_option maxRecDepth 20000 in
theorem zm_1_165 : Cond.laysFinal "AnswerSquare" "AnswerSquare" "layers" "[I" ∈ ztbl := zg (zt_1 (List.mem_of_getElem? (i := 165) rfl)) rfl
set_option maxRecDepth 20000 in
theorem zm_1_167 : Cond.laysFinal "AnswerSquare" "AnswerSquare" "ways" "[I" ∈ ztbl := zg (zt_1 (List.mem_of_getElem? (i := 167) rfl)) rfl
set_option maxRecDepth 20000 in
theorem zm_1_169 : Cond.lays "AnswerSquare" "AnswerSquare" "traced" "J" ∈ ztbl := zg (zt_1 (List.mem_of_getElem? (i := 169) rfl)) rfl
theorem zu_X3 : ∀ w ∈ u_ws RX3 TX3 11, w ∈ ztbl := by
  intro w hw
  obtain ⟨k, hk, rfl⟩ := List.mem_map.mp hw
  have hk := List.mem_range.mp hk
  rcases (show k = 0 ∨ k = 1 ∨ k = 2 ∨ k = 3 ∨ k = 4 ∨ k = 5 ∨ k = 6 ∨ k = 7 ∨ k = 8 ∨ k = 9 ∨ k = 10 by omega) with rfl | rfl | rfl | rfl | rfl | rfl | rfl | rfl | rfl | rfl | rfl
  · exact zm_1_149
  · exact zm_1_151
  · exact zm_1_153
  · exact zm_1_155
  · exact zm_1_157
  · exact zm_1_159
  · exact zm_1_161
  · exact zm_1_163
  · exact zm_1_165
  · exact zm_1_167
  · exact zm_1_169
set_option maxRecDepth 20000 in
theorem zm_3_102 : Cond.lays "AnswerSquareModel" "AnswerSquareModel" "trace" "J" ∈ ztbl := zg (zt_3 (List.mem_of_getElem? (i := 102) rfl)) rfl
set_option maxRecDepth 20000 in
theorem zm_3_104 : Cond.laysFinal "AnswerSquareModel" "AnswerSquareModel" "text" "[B" ∈ ztbl := zg (zt_3 (List.mem_of_getElem? (i := 104) rfl)) rfl
set_option maxRecDepth 20000 in
theorem zm_3_106 : Cond.lays "AnswerSquareModel" "AnswerSquareModel" "typed" "I" ∈ ztbl := zg (zt_3 (List.mem_of_getElem? (i := 106) rfl)) rfl
set_option maxRecDepth 20000 in
theorem zm_3_108 : Cond.laysFinal "AnswerSquareModel" "AnswerSquareModel" "sayings" "[I" ∈ ztbl := zg (zt_3 (List.mem_of_getElem? (i := 108) rfl)) rfl
set_option maxRecDepth 20000 in
theorem zm_3_110 : Cond.laysFinal "AnswerSquareModel" "AnswerSquareModel" "worthy" "[I" ∈ ztbl := zg (zt_3 (List.mem_of_getElem? (i := 110) rfl)) rfl
set_option maxRecDepth 20000 in
theorem zm_3_112 : Cond.laysFinal "AnswerSquareModel" "AnswerSquareModel" "answers" "[I" ∈ ztbl := zg (zt_3 (List.mem_of_getElem? (i := 112) rfl)) rfl
set_option maxRecDepth 20000 in
theorem zm_3_114 : Cond.laysFinal "AnswerSquareModel" "AnswerSquareModel" "sound" "[I" ∈ ztbl := zg (zt_3 (List.mem_of_getElem? (i := 114) rfl)) rfl
set_option maxRecDepth 20000 in
theorem zm_3_116 : Cond.laysFinal "AnswerSquareModel" "AnswerSquareModel" "people" "[I" ∈ ztbl := zg (zt_3 (List.mem_of_getElem? (i := 116) rfl)) rfl
set_option maxRecDepth 20000 in
theorem zm_3_118 : Cond.laysFinal "AnswerSquareModel" "AnswerSquareModel" "knows" "[I" ∈ ztbl := zg (zt_3 (List.mem_of_getElem? (i := 118) rfl)) rfl
set_option maxRecDepth 20000 in
theorem zm_3_120 : Cond.laysFinal "AnswerSquareModel" "AnswerSquareModel" "old" "[I" ∈ ztbl := zg (zt_3 (List.mem_of_getElem? (i := 120) rfl)) rfl
set_option maxRecDepth 20000 in
theorem zm_3_122 : Cond.lays "AnswerSquareModel" "AnswerSquareModel" "oldTold" "Z" ∈ ztbl := zg (zt_3 (List.mem_of_getElem? (i := 122) rfl)) rfl
set_option maxRecDepth 20000 in
theorem zm_3_124 : Cond.lays "AnswerSquareModel" "AnswerSquareModel" "at" "I" ∈ ztbl := zg (zt_3 (List.mem_of_getElem? (i := 124) rfl)) rfl
set_option maxRecDepth 20000 in
theorem zm_3_126 : Cond.lays "AnswerSquareModel" "AnswerSquareModel" "start" "I" ∈ ztbl := zg (zt_3 (List.mem_of_getElem? (i := 126) rfl)) rfl
set_option maxRecDepth 20000 in
theorem zm_3_128 : Cond.lays "AnswerSquareModel" "AnswerSquareModel" "sort" "I" ∈ ztbl := zg (zt_3 (List.mem_of_getElem? (i := 128) rfl)) rfl
set_option maxRecDepth 20000 in
theorem zm_3_130 : Cond.lays "AnswerSquareModel" "AnswerSquareModel" "value" "I" ∈ ztbl := zg (zt_3 (List.mem_of_getElem? (i := 130) rfl)) rfl
set_option maxRecDepth 20000 in
theorem zm_3_132 : Cond.lays "AnswerSquareModel" "AnswerSquareModel" "fault" "I" ∈ ztbl := zg (zt_3 (List.mem_of_getElem? (i := 132) rfl)) rfl
set_option maxRecDepth 20000 in
theorem zm_3_134 : Cond.laysFinal "AnswerSquareModel" "AnswerSquareModel" "now" "[I" ∈ ztbl := zg (zt_3 (List.mem_of_getElem? (i := 134) rfl)) rfl
set_option maxRecDepth 20000 in
theorem zm_3_136 : Cond.laysFinal "AnswerSquareModel" "AnswerSquareModel" "isKept" "[Z" ∈ ztbl := zg (zt_3 (List.mem_of_getElem? (i := 136) rfl)) rfl
set_option maxRecDepth 20000 in
theorem zm_3_138 : Cond.laysFinal "AnswerSquareModel" "AnswerSquareModel" "toldAhead" "[I" ∈ ztbl := zg (zt_3 (List.mem_of_getElem? (i := 138) rfl)) rfl
set_option maxRecDepth 20000 in
theorem zm_3_140 : Cond.laysFinal "AnswerSquareModel" "AnswerSquareModel" "toldBehind" "[I" ∈ ztbl := zg (zt_3 (List.mem_of_getElem? (i := 140) rfl)) rfl
set_option maxRecDepth 20000 in
theorem zm_3_142 : Cond.lays "AnswerSquareModel" "AnswerSquareModel" "told" "I" ∈ ztbl := zg (zt_3 (List.mem_of_getElem? (i := 142) rfl)) rfl
set_option maxRecDepth 20000 in
theorem zm_3_144 : Cond.laysFinal "AnswerSquareModel" "AnswerSquareModel" "ways" "[I" ∈ ztbl := zg (zt_3 (List.mem_of_getElem? (i := 144) rfl)) rfl
theorem zu_X4 : ∀ w ∈ u_ws RX4 TX4 22, w ∈ ztbl := by
  intro w hw
  obtain ⟨k, hk, rfl⟩ := List.mem_map.mp hw
  have hk := List.mem_range.mp hk
  rcases (show k = 0 ∨ k = 1 ∨ k = 2 ∨ k = 3 ∨ k = 4 ∨ k = 5 ∨ k = 6 ∨ k = 7 ∨ k = 8 ∨ k = 9 ∨ k = 10 ∨ k = 11 ∨ k = 12 ∨ k = 13 ∨ k = 14 ∨ k = 15 ∨ k = 16 ∨ k = 17 ∨ k = 18 ∨ k = 19 ∨ k = 20 ∨ k = 21 by omega) with rfl | rfl | rfl | rfl | rfl | rfl | rfl | rfl | rfl | rfl | rfl | rfl | rfl | rfl | rfl | rfl | rfl | rfl | rfl | rfl | rfl | rfl
  · exact zm_3_102
  · exact zm_3_104
  · exact zm_3_106
  · exact zm_3_108
  · exact zm_3_110
  · exact zm_3_112
  · exact zm_3_114
  · exact zm_3_116
  · exact zm_3_118
  · exact zm_3_120
  · exact zm_3_122
  · exact zm_3_124
  · exact zm_3_126
  · exact zm_3_128
  · exact zm_3_130
  · exact zm_3_132
  · exact zm_3_134
  · exact zm_3_136
  · exact zm_3_138
  · exact zm_3_140
  · exact zm_3_142
  · exact zm_3_144
-- the words of nest mates
def znest : List Cond := [Cond.methodLinkNest "AnswerSquare" (11 : Nat) ({ cls := "AnswerSquare$Text", name := "<init>", desc := "()V" } : MethodName) "AnswerSquare", Cond.fieldLinkNest "AnswerSquare" (61 : Nat) "AnswerSquare$Text" "length" "I" "AnswerSquare", Cond.fieldLinkNest "AnswerSquare$Duchy" (43 : Nat) "AnswerSquare$Text" "token" "I" "AnswerSquare", Cond.fieldLinkNest "AnswerSquare$Duchy" (50 : Nat) "AnswerSquare$Text" "start" "I" "AnswerSquare", Cond.fieldLinkNest "AnswerSquare$Duchy" (59 : Nat) "AnswerSquare$Text" "value" "I" "AnswerSquare", Cond.methodLinkNest "AnswerSquare" (18 : Nat) ({ cls := "AnswerSquare$Duchy", name := "<init>", desc := "()V" } : MethodName) "AnswerSquare", Cond.fieldLinkNest "AnswerSquare" (84 : Nat) "AnswerSquare$Duchy" "worthy" "[I" "AnswerSquare", Cond.fieldLinkNest "AnswerSquare" (87 : Nat) "AnswerSquare$Duchy" "answers" "[I" "AnswerSquare", Cond.fieldLinkNest "AnswerSquare" (100 : Nat) "AnswerSquare$Duchy" "knows" "[I" "AnswerSquare", Cond.fieldLinkNest "AnswerSquare" (207 : Nat) "AnswerSquare$Duchy" "sayings" "I" "AnswerSquare", Cond.fieldLinkNest "AnswerSquare" (280 : Nat) "AnswerSquare$Duchy" "people" "I" "AnswerSquare", Cond.fieldLinkNest "AnswerSquare" (137 : Nat) "AnswerSquare$Duchy" "old" "I" "AnswerSquare", Cond.fieldLinkNest "AnswerSquare" (210 : Nat) "AnswerSquare$Duchy" "soundBits" "I" "AnswerSquare", Cond.fieldLinkNest "AnswerSquare" (195 : Nat) "AnswerSquare$Duchy" "sayable" "I" "AnswerSquare", Cond.methodLinkNest "AnswerSquare" (28 : Nat) ({ cls := "AnswerSquare$Moment", name := "<init>", desc := "()V" } : MethodName) "AnswerSquare", Cond.fieldLinkNest "AnswerSquare" (116 : Nat) "AnswerSquare$Moment" "which" "[I" "AnswerSquare", Cond.fieldLinkNest "AnswerSquare" (119 : Nat) "AnswerSquare$Moment" "at" "[I" "AnswerSquare", Cond.fieldLinkNest "AnswerSquare" (122 : Nat) "AnswerSquare$Moment" "by" "[I" "AnswerSquare", Cond.fieldLinkNest "AnswerSquare" (125 : Nat) "AnswerSquare$Moment" "to" "[I" "AnswerSquare", Cond.fieldLinkNest "AnswerSquare" (128 : Nat) "AnswerSquare$Moment" "root" "[I" "AnswerSquare", Cond.fieldLinkNest "AnswerSquare" (131 : Nat) "AnswerSquare$Moment" "far" "[I" "AnswerSquare", Cond.fieldLinkNest "AnswerSquare" (147 : Nat) "AnswerSquare$Moment" "size" "I" "AnswerSquare", Cond.fieldLinkNest "AnswerSquare" (158 : Nat) "AnswerSquare$Moment" "clock" "I" "AnswerSquare", Cond.fieldLinkNest "AnswerSquare" (164 : Nat) "AnswerSquare$Moment" "undoable" "I" "AnswerSquare", Cond.fieldLinkNest "AnswerSquare" (71 : Nat) "AnswerSquare$Moment" "kept" "Z" "AnswerSquare", Cond.methodLinkNest "AnswerSquare" (57 : Nat) ({ cls := "AnswerSquare$Text", name := "put", desc := "(I)Z" } : MethodName) "AnswerSquare", Cond.methodLinkNest "AnswerSquare" (64 : Nat) ({ cls := "AnswerSquare$Duchy", name := "readFrom", desc := "(LAnswerSquare$Text;)I" } : MethodName) "AnswerSquare", Cond.methodLinkNest "AnswerSquare$Duchy" (38 : Nat) ({ cls := "AnswerSquare$Text", name := "rewind", desc := "()V" } : MethodName) "AnswerSquare", Cond.methodLinkNest "AnswerSquare$Duchy" (53 : Nat) ({ cls := "AnswerSquare$Text", name := "advance", desc := "()V" } : MethodName) "AnswerSquare", Cond.methodLinkNest "AnswerSquare$Duchy" (66 : Nat) ({ cls := "AnswerSquare$Text", name := "isNumber", desc := "(II)Z" } : MethodName) "AnswerSquare", Cond.methodLinkNest "AnswerSquare" (68 : Nat) ({ cls := "AnswerSquare$Moment", name := "reset", desc := "()V" } : MethodName) "AnswerSquare", Cond.methodLinkNest "AnswerSquare" (78 : Nat) ({ cls := "AnswerSquare$Duchy", name := "hasSaying", desc := "(I)Z" } : MethodName) "AnswerSquare", Cond.methodLinkNest "AnswerSquare" (81 : Nat) ({ cls := "AnswerSquare$Duchy", name := "isSound", desc := "(I)Z" } : MethodName) "AnswerSquare", Cond.methodLinkNest "AnswerSquare" (90 : Nat) ({ cls := "AnswerSquare$Duchy", name := "knowers", desc := "(I)I" } : MethodName) "AnswerSquare", Cond.methodLinkNest "AnswerSquare" (94 : Nat) ({ cls := "AnswerSquare$Moment", name := "timesIn", desc := "(I)I" } : MethodName) "AnswerSquare", Cond.methodLinkNest "AnswerSquare" (97 : Nat) ({ cls := "AnswerSquare$Duchy", name := "hasPerson", desc := "(I)Z" } : MethodName) "AnswerSquare", Cond.methodLinkNest "AnswerSquare" (185 : Nat) ({ cls := "AnswerSquare$Moment", name := "there", desc := "(II)I" } : MethodName) "AnswerSquare", Cond.methodLinkNest "AnswerSquare" (107 : Nat) ({ cls := "AnswerSquare$Duchy", name := "answering", desc := "(I)I" } : MethodName) "AnswerSquare", Cond.methodLinkNest "AnswerSquare" (110 : Nat) ({ cls := "AnswerSquare$Moment", name := "timesBy", desc := "(I)I" } : MethodName) "AnswerSquare", Cond.methodLinkNest "AnswerSquare" (113 : Nat) ({ cls := "AnswerSquare$Moment", name := "has", desc := "(I)Z" } : MethodName) "AnswerSquare", Cond.methodLinkNest "AnswerSquare" (134 : Nat) ({ cls := "AnswerSquare$Moment", name := "isOpen", desc := "(I)Z" } : MethodName) "AnswerSquare", Cond.methodLinkNest "AnswerSquare" (140 : Nat) ({ cls := "AnswerSquare$Moment", name := "isThere", desc := "(III)Z" } : MethodName) "AnswerSquare", Cond.methodLinkNest "AnswerSquare" (144 : Nat) ({ cls := "AnswerSquare$Moment", name := "add", desc := "(III)Z" } : MethodName) "AnswerSquare", Cond.methodLinkNest "AnswerSquare" (150 : Nat) ({ cls := "AnswerSquare$Moment", name := "latestOf", desc := "(II)I" } : MethodName) "AnswerSquare", Cond.methodLinkNest "AnswerSquare" (154 : Nat) ({ cls := "AnswerSquare$Moment", name := "passHour", desc := "()Z" } : MethodName) "AnswerSquare", Cond.methodLinkNest "AnswerSquare" (161 : Nat) ({ cls := "AnswerSquare$Moment", name := "takeBack", desc := "()Z" } : MethodName) "AnswerSquare", Cond.methodLinkNest "AnswerSquare" (167 : Nat) ({ cls := "AnswerSquare$Moment", name := "openOnes", desc := "()I" } : MethodName) "AnswerSquare", Cond.methodLinkNest "AnswerSquare" (170 : Nat) ({ cls := "AnswerSquare$Moment", name := "farthest", desc := "()I" } : MethodName) "AnswerSquare", Cond.methodLinkNest "AnswerSquare" (173 : Nat) ({ cls := "AnswerSquare$Moment", name := "lastOpen", desc := "()I" } : MethodName) "AnswerSquare", Cond.methodLinkNest "AnswerSquare" (176 : Nat) ({ cls := "AnswerSquare$Moment", name := "firstAnswerers", desc := "()I" } : MethodName) "AnswerSquare", Cond.methodLinkNest "AnswerSquare" (182 : Nat) ({ cls := "AnswerSquare$Duchy", name := "worthOf", desc := "(I)I" } : MethodName) "AnswerSquare", Cond.methodLinkNest "AnswerSquare" (198 : Nat) ({ cls := "AnswerSquare$Duchy", name := "answeredBy", desc := "(I)I" } : MethodName) "AnswerSquare", Cond.methodLinkNest "AnswerSquare" (204 : Nat) ({ cls := "AnswerSquare$Duchy", name := "hasAll", desc := "(I)Z" } : MethodName) "AnswerSquare", Cond.methodLinkNest "AnswerSquare" (225 : Nat) ({ cls := "AnswerSquare$Duchy", name := "reachable", desc := "(I)I" } : MethodName) "AnswerSquare", Cond.methodLinkNest "AnswerSquare" (231 : Nat) ({ cls := "AnswerSquare$Moment", name := "aheadOf", desc := "(I)I" } : MethodName) "AnswerSquare", Cond.methodLinkNest "AnswerSquare" (237 : Nat) ({ cls := "AnswerSquare$Duchy", name := "canFollow", desc := "(II)Z" } : MethodName) "AnswerSquare", Cond.methodLinkNest "AnswerSquare" (261 : Nat) ({ cls := "AnswerSquare$Duchy", name := "answersCount", desc := "(I)I" } : MethodName) "AnswerSquare", Cond.methodLinkNest "AnswerSquare" (276 : Nat) ({ cls := "AnswerSquare$Moment", name := "become", desc := "(LAnswerSquare$Moment;)V" } : MethodName) "AnswerSquare"]
theorem znest_in : ∀ w ∈ znest, w ∈ lw_tbl := by
  intro w hw
  simp only [znest, List.mem_cons, List.not_mem_nil, or_false] at hw
  rcases hw with rfl | rfl | rfl | rfl | rfl | rfl | rfl | rfl | rfl | rfl | rfl | rfl | rfl | rfl | rfl | rfl | rfl | rfl | rfl | rfl | rfl | rfl | rfl | rfl | rfl | rfl | rfl | rfl | rfl | rfl | rfl | rfl | rfl | rfl | rfl | rfl | rfl | rfl | rfl | rfl | rfl | rfl | rfl | rfl | rfl | rfl | rfl | rfl | rfl | rfl | rfl | rfl | rfl | rfl | rfl | rfl | rfl | rfl
  · exact zt_1 (List.mem_of_getElem? (i := 19) rfl)
  · exact zt_1 (List.mem_of_getElem? (i := 25) rfl)
  · exact zt_1 (List.mem_of_getElem? (i := 27) rfl)
  · exact zt_1 (List.mem_of_getElem? (i := 29) rfl)
  · exact zt_1 (List.mem_of_getElem? (i := 32) rfl)
  · exact zt_1 (List.mem_of_getElem? (i := 49) rfl)
  · exact zt_1 (List.mem_of_getElem? (i := 54) rfl)
  · exact zt_1 (List.mem_of_getElem? (i := 56) rfl)
  · exact zt_1 (List.mem_of_getElem? (i := 58) rfl)
  · exact zt_1 (List.mem_of_getElem? (i := 60) rfl)
  · exact zt_1 (List.mem_of_getElem? (i := 62) rfl)
  · exact zt_1 (List.mem_of_getElem? (i := 64) rfl)
  · exact zt_1 (List.mem_of_getElem? (i := 67) rfl)
  · exact zt_1 (List.mem_of_getElem? (i := 69) rfl)
  · exact zt_1 (List.mem_of_getElem? (i := 91) rfl)
  · exact zt_1 (List.mem_of_getElem? (i := 96) rfl)
  · exact zt_1 (List.mem_of_getElem? (i := 98) rfl)
  · exact zt_1 (List.mem_of_getElem? (i := 100) rfl)
  · exact zt_1 (List.mem_of_getElem? (i := 102) rfl)
  · exact zt_1 (List.mem_of_getElem? (i := 104) rfl)
  · exact zt_1 (List.mem_of_getElem? (i := 106) rfl)
  · exact zt_1 (List.mem_of_getElem? (i := 108) rfl)
  · exact zt_1 (List.mem_of_getElem? (i := 110) rfl)
  · exact zt_1 (List.mem_of_getElem? (i := 112) rfl)
  · exact zt_1 (List.mem_of_getElem? (i := 114) rfl)
  · exact zt_1 (List.mem_of_getElem? (i := 176) rfl)
  · exact zt_1 (List.mem_of_getElem? (i := 188) rfl)
  · exact zt_1 (List.mem_of_getElem? (i := 192) rfl)
  · exact zt_1 (List.mem_of_getElem? (i := 229) rfl)
  · exact zt_1 (List.mem_of_getElem? (i := 230) rfl)
  · exact zt_2 (List.mem_of_getElem? (i := 5) rfl)
  · exact zt_2 (List.mem_of_getElem? (i := 17) rfl)
  · exact zt_2 (List.mem_of_getElem? (i := 21) rfl)
  · exact zt_2 (List.mem_of_getElem? (i := 25) rfl)
  · exact zt_2 (List.mem_of_getElem? (i := 29) rfl)
  · exact zt_2 (List.mem_of_getElem? (i := 37) rfl)
  · exact zt_2 (List.mem_of_getElem? (i := 45) rfl)
  · exact zt_2 (List.mem_of_getElem? (i := 57) rfl)
  · exact zt_2 (List.mem_of_getElem? (i := 66) rfl)
  · exact zt_2 (List.mem_of_getElem? (i := 74) rfl)
  · exact zt_2 (List.mem_of_getElem? (i := 75) rfl)
  · exact zt_2 (List.mem_of_getElem? (i := 83) rfl)
  · exact zt_2 (List.mem_of_getElem? (i := 88) rfl)
  · exact zt_2 (List.mem_of_getElem? (i := 101) rfl)
  · exact zt_2 (List.mem_of_getElem? (i := 109) rfl)
  · exact zt_2 (List.mem_of_getElem? (i := 117) rfl)
  · exact zt_2 (List.mem_of_getElem? (i := 125) rfl)
  · exact zt_2 (List.mem_of_getElem? (i := 130) rfl)
  · exact zt_2 (List.mem_of_getElem? (i := 134) rfl)
  · exact zt_2 (List.mem_of_getElem? (i := 138) rfl)
  · exact zt_2 (List.mem_of_getElem? (i := 150) rfl)
  · exact zt_2 (List.mem_of_getElem? (i := 162) rfl)
  · exact zt_2 (List.mem_of_getElem? (i := 177) rfl)
  · exact zt_2 (List.mem_of_getElem? (i := 185) rfl)
  · exact zt_2 (List.mem_of_getElem? (i := 223) rfl)
  · exact zt_2 (List.mem_of_getElem? (i := 235) rfl)
  · exact zt_3 (List.mem_of_getElem? (i := 14) rfl)
  · exact zt_3 (List.mem_of_getElem? (i := 47) rfl)
def zisNest (w : Cond) : Bool := match w with
  | .fieldLinkNest .. => true
  | .methodLinkNest .. => true
  | _ => false
theorem znest_is : znest.all zisNest = true := rfl
/-- field k of class ci, as the pool entry 'idx' of class 'own' names it -/
def zF (own : String) (idx ci k : Nat) : Prop := ∃ (C : String) (T : u_T) (N : Nat) (ty0 : Nat → FieldType), vwCl[ci]? = some (C, T, N) ∧ k < N ∧ (∀ w ∈ u_ws C T N, w ∈ ztbl) ∧ (∀ k, k < N → parseFieldDescriptor (T k).2.2.1 = some (ty0 k)) ∧ (∀ a, a < N → ∀ b, b < N → a ≠ b → (T a).2.1 ≠ (T b).2.1) ∧
  (Cond.fieldLink own idx (T k).1 (T k).2.1 (T k).2.2.1 ∈ ztbl ∨ ∃ host, Cond.fieldLinkNest own idx (T k).1 (T k).2.1 (T k).2.2.1 host ∈ znest)
/-- ... and it may be written, with values of this type -/
def zFp (own : String) (idx ci k : Nat) (ty : FieldType) : Prop := zF own idx ci k ∧ ∃ q, vwCl[ci]? = some q ∧ (q.2.1 k).2.2.2 = false ∧ parseFieldDescriptor (q.2.1 k).2.2.1 = some ty
abbrev ZM : Type := MethodName × ByteArray × Nat × Option FieldType
/-- what the tables say of a method that may be called: of an object's, of a class's -/
def zYv (y : ZM) (n : Nat) : Prop := Cond.code y.1 y.2.1 y.2.2.1 y.2.2.2 ∈ ztbl ∧ Cond.initialized y.1.cls ∈ ztbl ∧ Cond.instanceMethod y.1 ∈ ztbl ∧ Cond.selects y.1.cls y.1 y.1 ∈ ztbl ∧ (y.1.cls ≠ "java/lang/invoke/MethodHandle" ∧ y.1.cls ≠ "java/lang/invoke/VarHandle") ∧ (parseMethodDescriptor y.1.desc).map (fun d => d.parameters.length) = some n ∧ y.2.2.1 ≤ 11
def zYs (y : ZM) (n : Nat) : Prop := Cond.code y.1 y.2.1 y.2.2.1 y.2.2.2 ∈ ztbl ∧ Cond.initialized y.1.cls ∈ ztbl ∧ Cond.static y.1 ∈ ztbl ∧ (y.1.cls ≠ "java/lang/invoke/MethodHandle" ∧ y.1.cls ≠ "java/lang/invoke/VarHandle") ∧ (parseMethodDescriptor y.1.desc).map (fun d => d.parameters.length) = some n ∧ y.2.2.1 ≤ 11
def zLk (own : String) (idx : Nat) (y : ZM) : Prop := Cond.methodLink own idx y.1 ∈ ztbl ∨ ∃ host, Cond.methodLinkNest own idx y.1 host ∈ znest
set_option maxRecDepth 20000 in
theorem zm_1_23 : Cond.fieldLink "AnswerSquare$Text" (9 : Nat) "AnswerSquare$Text" "bytes" "[I" ∈ ztbl := zg (zt_1 (List.mem_of_getElem? (i := 23) rfl)) rfl
set_option maxRecDepth 20000 in
theorem zf_X2_9 : zF "AnswerSquare$Text" 9 2 0 := ⟨RX2, TX2, 6, tyX2, rfl, by decide, zu_X2, tyX2_ok, nmX2, Or.inl zm_1_23⟩
set_option maxRecDepth 20000 in
theorem zm_1_24 : Cond.fieldLink "AnswerSquare$Text" (15 : Nat) "AnswerSquare$Text" "length" "I" ∈ ztbl := zg (zt_1 (List.mem_of_getElem? (i := 24) rfl)) rfl
set_option maxRecDepth 20000 in
theorem zf_X2_15 : zF "AnswerSquare$Text" 15 2 1 := ⟨RX2, TX2, 6, tyX2, rfl, by decide, zu_X2, tyX2_ok, nmX2, Or.inl zm_1_24⟩
theorem zf_X2_15p : zFp "AnswerSquare$Text" 15 2 1 .int := ⟨zf_X2_15, _, rfl, rfl, by decide +kernel⟩
set_option maxRecDepth 20000 in
theorem zf_X3_61 : zF "AnswerSquare" 61 2 1 := ⟨RX2, TX2, 6, tyX2, rfl, by decide, zu_X2, tyX2_ok, nmX2, Or.inr ⟨_, List.mem_of_getElem? (i := 1) rfl⟩⟩
theorem zf_X3_61p : zFp "AnswerSquare" 61 2 1 .int := ⟨zf_X3_61, _, rfl, rfl, by decide +kernel⟩
set_option maxRecDepth 20000 in
theorem zm_1_26 : Cond.fieldLink "AnswerSquare$Text" (19 : Nat) "AnswerSquare$Text" "token" "I" ∈ ztbl := zg (zt_1 (List.mem_of_getElem? (i := 26) rfl)) rfl
set_option maxRecDepth 20000 in
theorem zf_X2_19 : zF "AnswerSquare$Text" 19 2 2 := ⟨RX2, TX2, 6, tyX2, rfl, by decide, zu_X2, tyX2_ok, nmX2, Or.inl zm_1_26⟩
theorem zf_X2_19p : zFp "AnswerSquare$Text" 19 2 2 .int := ⟨zf_X2_19, _, rfl, rfl, by decide +kernel⟩
set_option maxRecDepth 20000 in
theorem zf_X0_43 : zF "AnswerSquare$Duchy" 43 2 2 := ⟨RX2, TX2, 6, tyX2, rfl, by decide, zu_X2, tyX2_ok, nmX2, Or.inr ⟨_, List.mem_of_getElem? (i := 2) rfl⟩⟩
theorem zf_X0_43p : zFp "AnswerSquare$Duchy" 43 2 2 .int := ⟨zf_X0_43, _, rfl, rfl, by decide +kernel⟩
set_option maxRecDepth 20000 in
theorem zm_1_28 : Cond.fieldLink "AnswerSquare$Text" (22 : Nat) "AnswerSquare$Text" "start" "I" ∈ ztbl := zg (zt_1 (List.mem_of_getElem? (i := 28) rfl)) rfl
set_option maxRecDepth 20000 in
theorem zf_X2_22 : zF "AnswerSquare$Text" 22 2 3 := ⟨RX2, TX2, 6, tyX2, rfl, by decide, zu_X2, tyX2_ok, nmX2, Or.inl zm_1_28⟩
theorem zf_X2_22p : zFp "AnswerSquare$Text" 22 2 3 .int := ⟨zf_X2_22, _, rfl, rfl, by decide +kernel⟩
set_option maxRecDepth 20000 in
theorem zf_X0_50 : zF "AnswerSquare$Duchy" 50 2 3 := ⟨RX2, TX2, 6, tyX2, rfl, by decide, zu_X2, tyX2_ok, nmX2, Or.inr ⟨_, List.mem_of_getElem? (i := 3) rfl⟩⟩
theorem zf_X0_50p : zFp "AnswerSquare$Duchy" 50 2 3 .int := ⟨zf_X0_50, _, rfl, rfl, by decide +kernel⟩
set_option maxRecDepth 20000 in
theorem zm_1_30 : Cond.fieldLink "AnswerSquare$Text" (25 : Nat) "AnswerSquare$Text" "behind" "I" ∈ ztbl := zg (zt_1 (List.mem_of_getElem? (i := 30) rfl)) rfl
set_option maxRecDepth 20000 in
theorem zf_X2_25 : zF "AnswerSquare$Text" 25 2 4 := ⟨RX2, TX2, 6, tyX2, rfl, by decide, zu_X2, tyX2_ok, nmX2, Or.inl zm_1_30⟩
theorem zf_X2_25p : zFp "AnswerSquare$Text" 25 2 4 .int := ⟨zf_X2_25, _, rfl, rfl, by decide +kernel⟩
set_option maxRecDepth 20000 in
theorem zm_1_31 : Cond.fieldLink "AnswerSquare$Text" (28 : Nat) "AnswerSquare$Text" "value" "I" ∈ ztbl := zg (zt_1 (List.mem_of_getElem? (i := 31) rfl)) rfl
set_option maxRecDepth 20000 in
theorem zf_X2_28 : zF "AnswerSquare$Text" 28 2 5 := ⟨RX2, TX2, 6, tyX2, rfl, by decide, zu_X2, tyX2_ok, nmX2, Or.inl zm_1_31⟩
theorem zf_X2_28p : zFp "AnswerSquare$Text" 28 2 5 .int := ⟨zf_X2_28, _, rfl, rfl, by decide +kernel⟩
set_option maxRecDepth 20000 in
theorem zf_X0_59 : zF "AnswerSquare$Duchy" 59 2 5 := ⟨RX2, TX2, 6, tyX2, rfl, by decide, zu_X2, tyX2_ok, nmX2, Or.inr ⟨_, List.mem_of_getElem? (i := 4) rfl⟩⟩
theorem zf_X0_59p : zFp "AnswerSquare$Duchy" 59 2 5 .int := ⟨zf_X0_59, _, rfl, rfl, by decide +kernel⟩
set_option maxRecDepth 20000 in
theorem zm_1_53 : Cond.fieldLink "AnswerSquare$Duchy" (9 : Nat) "AnswerSquare$Duchy" "worthy" "[I" ∈ ztbl := zg (zt_1 (List.mem_of_getElem? (i := 53) rfl)) rfl
set_option maxRecDepth 20000 in
theorem zf_X0_9 : zF "AnswerSquare$Duchy" 9 0 0 := ⟨RX0, TX0, 9, tyX0, rfl, by decide, zu_X0, tyX0_ok, nmX0, Or.inl zm_1_53⟩
set_option maxRecDepth 20000 in
theorem zf_X3_84 : zF "AnswerSquare" 84 0 0 := ⟨RX0, TX0, 9, tyX0, rfl, by decide, zu_X0, tyX0_ok, nmX0, Or.inr ⟨_, List.mem_of_getElem? (i := 6) rfl⟩⟩
set_option maxRecDepth 20000 in
theorem zm_1_55 : Cond.fieldLink "AnswerSquare$Duchy" (15 : Nat) "AnswerSquare$Duchy" "answers" "[I" ∈ ztbl := zg (zt_1 (List.mem_of_getElem? (i := 55) rfl)) rfl
set_option maxRecDepth 20000 in
theorem zf_X0_15 : zF "AnswerSquare$Duchy" 15 0 1 := ⟨RX0, TX0, 9, tyX0, rfl, by decide, zu_X0, tyX0_ok, nmX0, Or.inl zm_1_55⟩
set_option maxRecDepth 20000 in
theorem zf_X3_87 : zF "AnswerSquare" 87 0 1 := ⟨RX0, TX0, 9, tyX0, rfl, by decide, zu_X0, tyX0_ok, nmX0, Or.inr ⟨_, List.mem_of_getElem? (i := 7) rfl⟩⟩
set_option maxRecDepth 20000 in
theorem zm_1_57 : Cond.fieldLink "AnswerSquare$Duchy" (18 : Nat) "AnswerSquare$Duchy" "knows" "[I" ∈ ztbl := zg (zt_1 (List.mem_of_getElem? (i := 57) rfl)) rfl
set_option maxRecDepth 20000 in
theorem zf_X0_18 : zF "AnswerSquare$Duchy" 18 0 2 := ⟨RX0, TX0, 9, tyX0, rfl, by decide, zu_X0, tyX0_ok, nmX0, Or.inl zm_1_57⟩
set_option maxRecDepth 20000 in
theorem zf_X3_100 : zF "AnswerSquare" 100 0 2 := ⟨RX0, TX0, 9, tyX0, rfl, by decide, zu_X0, tyX0_ok, nmX0, Or.inr ⟨_, List.mem_of_getElem? (i := 8) rfl⟩⟩
set_option maxRecDepth 20000 in
theorem zm_1_59 : Cond.fieldLink "AnswerSquare$Duchy" (25 : Nat) "AnswerSquare$Duchy" "sayings" "I" ∈ ztbl := zg (zt_1 (List.mem_of_getElem? (i := 59) rfl)) rfl
set_option maxRecDepth 20000 in
theorem zf_X0_25 : zF "AnswerSquare$Duchy" 25 0 3 := ⟨RX0, TX0, 9, tyX0, rfl, by decide, zu_X0, tyX0_ok, nmX0, Or.inl zm_1_59⟩
theorem zf_X0_25p : zFp "AnswerSquare$Duchy" 25 0 3 .int := ⟨zf_X0_25, _, rfl, rfl, by decide +kernel⟩
set_option maxRecDepth 20000 in
theorem zf_X3_207 : zF "AnswerSquare" 207 0 3 := ⟨RX0, TX0, 9, tyX0, rfl, by decide, zu_X0, tyX0_ok, nmX0, Or.inr ⟨_, List.mem_of_getElem? (i := 9) rfl⟩⟩
theorem zf_X3_207p : zFp "AnswerSquare" 207 0 3 .int := ⟨zf_X3_207, _, rfl, rfl, by decide +kernel⟩
set_option maxRecDepth 20000 in
theorem zm_1_61 : Cond.fieldLink "AnswerSquare$Duchy" (28 : Nat) "AnswerSquare$Duchy" "people" "I" ∈ ztbl := zg (zt_1 (List.mem_of_getElem? (i := 61) rfl)) rfl
set_option maxRecDepth 20000 in
theorem zf_X0_28 : zF "AnswerSquare$Duchy" 28 0 4 := ⟨RX0, TX0, 9, tyX0, rfl, by decide, zu_X0, tyX0_ok, nmX0, Or.inl zm_1_61⟩
theorem zf_X0_28p : zFp "AnswerSquare$Duchy" 28 0 4 .int := ⟨zf_X0_28, _, rfl, rfl, by decide +kernel⟩
set_option maxRecDepth 20000 in
theorem zf_X3_280 : zF "AnswerSquare" 280 0 4 := ⟨RX0, TX0, 9, tyX0, rfl, by decide, zu_X0, tyX0_ok, nmX0, Or.inr ⟨_, List.mem_of_getElem? (i := 10) rfl⟩⟩
theorem zf_X3_280p : zFp "AnswerSquare" 280 0 4 .int := ⟨zf_X3_280, _, rfl, rfl, by decide +kernel⟩
set_option maxRecDepth 20000 in
theorem zm_1_63 : Cond.fieldLink "AnswerSquare$Duchy" (21 : Nat) "AnswerSquare$Duchy" "old" "I" ∈ ztbl := zg (zt_1 (List.mem_of_getElem? (i := 63) rfl)) rfl
set_option maxRecDepth 20000 in
theorem zf_X0_21 : zF "AnswerSquare$Duchy" 21 0 5 := ⟨RX0, TX0, 9, tyX0, rfl, by decide, zu_X0, tyX0_ok, nmX0, Or.inl zm_1_63⟩
theorem zf_X0_21p : zFp "AnswerSquare$Duchy" 21 0 5 .int := ⟨zf_X0_21, _, rfl, rfl, by decide +kernel⟩
set_option maxRecDepth 20000 in
theorem zf_X3_137 : zF "AnswerSquare" 137 0 5 := ⟨RX0, TX0, 9, tyX0, rfl, by decide, zu_X0, tyX0_ok, nmX0, Or.inr ⟨_, List.mem_of_getElem? (i := 11) rfl⟩⟩
theorem zf_X3_137p : zFp "AnswerSquare" 137 0 5 .int := ⟨zf_X3_137, _, rfl, rfl, by decide +kernel⟩
set_option maxRecDepth 20000 in
theorem zm_1_65 : Cond.fieldLink "AnswerSquare$Duchy" (31 : Nat) "AnswerSquare$Duchy" "oldIsTold" "Z" ∈ ztbl := zg (zt_1 (List.mem_of_getElem? (i := 65) rfl)) rfl
set_option maxRecDepth 20000 in
theorem zf_X0_31 : zF "AnswerSquare$Duchy" 31 0 6 := ⟨RX0, TX0, 9, tyX0, rfl, by decide, zu_X0, tyX0_ok, nmX0, Or.inl zm_1_65⟩
theorem zf_X0_31p : zFp "AnswerSquare$Duchy" 31 0 6 .boolean := ⟨zf_X0_31, _, rfl, rfl, by decide +kernel⟩
set_option maxRecDepth 20000 in
theorem zm_1_66 : Cond.fieldLink "AnswerSquare$Duchy" (35 : Nat) "AnswerSquare$Duchy" "soundBits" "I" ∈ ztbl := zg (zt_1 (List.mem_of_getElem? (i := 66) rfl)) rfl
set_option maxRecDepth 20000 in
theorem zf_X0_35 : zF "AnswerSquare$Duchy" 35 0 7 := ⟨RX0, TX0, 9, tyX0, rfl, by decide, zu_X0, tyX0_ok, nmX0, Or.inl zm_1_66⟩
theorem zf_X0_35p : zFp "AnswerSquare$Duchy" 35 0 7 .int := ⟨zf_X0_35, _, rfl, rfl, by decide +kernel⟩
set_option maxRecDepth 20000 in
theorem zf_X3_210 : zF "AnswerSquare" 210 0 7 := ⟨RX0, TX0, 9, tyX0, rfl, by decide, zu_X0, tyX0_ok, nmX0, Or.inr ⟨_, List.mem_of_getElem? (i := 12) rfl⟩⟩
theorem zf_X3_210p : zFp "AnswerSquare" 210 0 7 .int := ⟨zf_X3_210, _, rfl, rfl, by decide +kernel⟩
set_option maxRecDepth 20000 in
theorem zm_1_68 : Cond.fieldLink "AnswerSquare$Duchy" (78 : Nat) "AnswerSquare$Duchy" "sayable" "I" ∈ ztbl := zg (zt_1 (List.mem_of_getElem? (i := 68) rfl)) rfl
set_option maxRecDepth 20000 in
theorem zf_X0_78 : zF "AnswerSquare$Duchy" 78 0 8 := ⟨RX0, TX0, 9, tyX0, rfl, by decide, zu_X0, tyX0_ok, nmX0, Or.inl zm_1_68⟩
theorem zf_X0_78p : zFp "AnswerSquare$Duchy" 78 0 8 .int := ⟨zf_X0_78, _, rfl, rfl, by decide +kernel⟩
set_option maxRecDepth 20000 in
theorem zf_X3_195 : zF "AnswerSquare" 195 0 8 := ⟨RX0, TX0, 9, tyX0, rfl, by decide, zu_X0, tyX0_ok, nmX0, Or.inr ⟨_, List.mem_of_getElem? (i := 13) rfl⟩⟩
theorem zf_X3_195p : zFp "AnswerSquare" 195 0 8 .int := ⟨zf_X3_195, _, rfl, rfl, by decide +kernel⟩
set_option maxRecDepth 20000 in
theorem zm_1_95 : Cond.fieldLink "AnswerSquare$Moment" (9 : Nat) "AnswerSquare$Moment" "which" "[I" ∈ ztbl := zg (zt_1 (List.mem_of_getElem? (i := 95) rfl)) rfl
set_option maxRecDepth 20000 in
theorem zf_X1_9 : zF "AnswerSquare$Moment" 9 1 0 := ⟨RX1, TX1, 11, tyX1, rfl, by decide, zu_X1, tyX1_ok, nmX1, Or.inl zm_1_95⟩
set_option maxRecDepth 20000 in
theorem zf_X3_116 : zF "AnswerSquare" 116 1 0 := ⟨RX1, TX1, 11, tyX1, rfl, by decide, zu_X1, tyX1_ok, nmX1, Or.inr ⟨_, List.mem_of_getElem? (i := 15) rfl⟩⟩
set_option maxRecDepth 20000 in
theorem zm_1_97 : Cond.fieldLink "AnswerSquare$Moment" (15 : Nat) "AnswerSquare$Moment" "at" "[I" ∈ ztbl := zg (zt_1 (List.mem_of_getElem? (i := 97) rfl)) rfl
set_option maxRecDepth 20000 in
theorem zf_X1_15 : zF "AnswerSquare$Moment" 15 1 1 := ⟨RX1, TX1, 11, tyX1, rfl, by decide, zu_X1, tyX1_ok, nmX1, Or.inl zm_1_97⟩
set_option maxRecDepth 20000 in
theorem zf_X3_119 : zF "AnswerSquare" 119 1 1 := ⟨RX1, TX1, 11, tyX1, rfl, by decide, zu_X1, tyX1_ok, nmX1, Or.inr ⟨_, List.mem_of_getElem? (i := 16) rfl⟩⟩
set_option maxRecDepth 20000 in
theorem zm_1_99 : Cond.fieldLink "AnswerSquare$Moment" (18 : Nat) "AnswerSquare$Moment" "by" "[I" ∈ ztbl := zg (zt_1 (List.mem_of_getElem? (i := 99) rfl)) rfl
set_option maxRecDepth 20000 in
theorem zf_X1_18 : zF "AnswerSquare$Moment" 18 1 2 := ⟨RX1, TX1, 11, tyX1, rfl, by decide, zu_X1, tyX1_ok, nmX1, Or.inl zm_1_99⟩
set_option maxRecDepth 20000 in
theorem zf_X3_122 : zF "AnswerSquare" 122 1 2 := ⟨RX1, TX1, 11, tyX1, rfl, by decide, zu_X1, tyX1_ok, nmX1, Or.inr ⟨_, List.mem_of_getElem? (i := 17) rfl⟩⟩
set_option maxRecDepth 20000 in
theorem zm_1_101 : Cond.fieldLink "AnswerSquare$Moment" (21 : Nat) "AnswerSquare$Moment" "to" "[I" ∈ ztbl := zg (zt_1 (List.mem_of_getElem? (i := 101) rfl)) rfl
set_option maxRecDepth 20000 in
theorem zf_X1_21 : zF "AnswerSquare$Moment" 21 1 3 := ⟨RX1, TX1, 11, tyX1, rfl, by decide, zu_X1, tyX1_ok, nmX1, Or.inl zm_1_101⟩
set_option maxRecDepth 20000 in
theorem zf_X3_125 : zF "AnswerSquare" 125 1 3 := ⟨RX1, TX1, 11, tyX1, rfl, by decide, zu_X1, tyX1_ok, nmX1, Or.inr ⟨_, List.mem_of_getElem? (i := 18) rfl⟩⟩
set_option maxRecDepth 20000 in
theorem zm_1_103 : Cond.fieldLink "AnswerSquare$Moment" (24 : Nat) "AnswerSquare$Moment" "root" "[I" ∈ ztbl := zg (zt_1 (List.mem_of_getElem? (i := 103) rfl)) rfl
set_option maxRecDepth 20000 in
theorem zf_X1_24 : zF "AnswerSquare$Moment" 24 1 4 := ⟨RX1, TX1, 11, tyX1, rfl, by decide, zu_X1, tyX1_ok, nmX1, Or.inl zm_1_103⟩
set_option maxRecDepth 20000 in
theorem zf_X3_128 : zF "AnswerSquare" 128 1 4 := ⟨RX1, TX1, 11, tyX1, rfl, by decide, zu_X1, tyX1_ok, nmX1, Or.inr ⟨_, List.mem_of_getElem? (i := 19) rfl⟩⟩
set_option maxRecDepth 20000 in
theorem zm_1_105 : Cond.fieldLink "AnswerSquare$Moment" (27 : Nat) "AnswerSquare$Moment" "far" "[I" ∈ ztbl := zg (zt_1 (List.mem_of_getElem? (i := 105) rfl)) rfl
set_option maxRecDepth 20000 in
theorem zf_X1_27 : zF "AnswerSquare$Moment" 27 1 5 := ⟨RX1, TX1, 11, tyX1, rfl, by decide, zu_X1, tyX1_ok, nmX1, Or.inl zm_1_105⟩
set_option maxRecDepth 20000 in
theorem zf_X3_131 : zF "AnswerSquare" 131 1 5 := ⟨RX1, TX1, 11, tyX1, rfl, by decide, zu_X1, tyX1_ok, nmX1, Or.inr ⟨_, List.mem_of_getElem? (i := 20) rfl⟩⟩
set_option maxRecDepth 20000 in
theorem zm_1_107 : Cond.fieldLink "AnswerSquare$Moment" (30 : Nat) "AnswerSquare$Moment" "size" "I" ∈ ztbl := zg (zt_1 (List.mem_of_getElem? (i := 107) rfl)) rfl
set_option maxRecDepth 20000 in
theorem zf_X1_30 : zF "AnswerSquare$Moment" 30 1 6 := ⟨RX1, TX1, 11, tyX1, rfl, by decide, zu_X1, tyX1_ok, nmX1, Or.inl zm_1_107⟩
theorem zf_X1_30p : zFp "AnswerSquare$Moment" 30 1 6 .int := ⟨zf_X1_30, _, rfl, rfl, by decide +kernel⟩
set_option maxRecDepth 20000 in
theorem zf_X3_147 : zF "AnswerSquare" 147 1 6 := ⟨RX1, TX1, 11, tyX1, rfl, by decide, zu_X1, tyX1_ok, nmX1, Or.inr ⟨_, List.mem_of_getElem? (i := 21) rfl⟩⟩
theorem zf_X3_147p : zFp "AnswerSquare" 147 1 6 .int := ⟨zf_X3_147, _, rfl, rfl, by decide +kernel⟩
set_option maxRecDepth 20000 in
theorem zm_1_109 : Cond.fieldLink "AnswerSquare$Moment" (34 : Nat) "AnswerSquare$Moment" "clock" "I" ∈ ztbl := zg (zt_1 (List.mem_of_getElem? (i := 109) rfl)) rfl
set_option maxRecDepth 20000 in
theorem zf_X1_34 : zF "AnswerSquare$Moment" 34 1 7 := ⟨RX1, TX1, 11, tyX1, rfl, by decide, zu_X1, tyX1_ok, nmX1, Or.inl zm_1_109⟩
theorem zf_X1_34p : zFp "AnswerSquare$Moment" 34 1 7 .int := ⟨zf_X1_34, _, rfl, rfl, by decide +kernel⟩
set_option maxRecDepth 20000 in
theorem zf_X3_158 : zF "AnswerSquare" 158 1 7 := ⟨RX1, TX1, 11, tyX1, rfl, by decide, zu_X1, tyX1_ok, nmX1, Or.inr ⟨_, List.mem_of_getElem? (i := 22) rfl⟩⟩
theorem zf_X3_158p : zFp "AnswerSquare" 158 1 7 .int := ⟨zf_X3_158, _, rfl, rfl, by decide +kernel⟩
set_option maxRecDepth 20000 in
theorem zm_1_111 : Cond.fieldLink "AnswerSquare$Moment" (37 : Nat) "AnswerSquare$Moment" "undoable" "I" ∈ ztbl := zg (zt_1 (List.mem_of_getElem? (i := 111) rfl)) rfl
set_option maxRecDepth 20000 in
theorem zf_X1_37 : zF "AnswerSquare$Moment" 37 1 8 := ⟨RX1, TX1, 11, tyX1, rfl, by decide, zu_X1, tyX1_ok, nmX1, Or.inl zm_1_111⟩
theorem zf_X1_37p : zFp "AnswerSquare$Moment" 37 1 8 .int := ⟨zf_X1_37, _, rfl, rfl, by decide +kernel⟩
set_option maxRecDepth 20000 in
theorem zf_X3_164 : zF "AnswerSquare" 164 1 8 := ⟨RX1, TX1, 11, tyX1, rfl, by decide, zu_X1, tyX1_ok, nmX1, Or.inr ⟨_, List.mem_of_getElem? (i := 23) rfl⟩⟩
theorem zf_X3_164p : zFp "AnswerSquare" 164 1 8 .int := ⟨zf_X3_164, _, rfl, rfl, by decide +kernel⟩
set_option maxRecDepth 20000 in
theorem zm_1_113 : Cond.fieldLink "AnswerSquare$Moment" (40 : Nat) "AnswerSquare$Moment" "hourBits" "I" ∈ ztbl := zg (zt_1 (List.mem_of_getElem? (i := 113) rfl)) rfl
set_option maxRecDepth 20000 in
theorem zf_X1_40 : zF "AnswerSquare$Moment" 40 1 9 := ⟨RX1, TX1, 11, tyX1, rfl, by decide, zu_X1, tyX1_ok, nmX1, Or.inl zm_1_113⟩
theorem zf_X1_40p : zFp "AnswerSquare$Moment" 40 1 9 .int := ⟨zf_X1_40, _, rfl, rfl, by decide +kernel⟩
set_option maxRecDepth 20000 in
theorem zf_X3_71 : zF "AnswerSquare" 71 1 10 := ⟨RX1, TX1, 11, tyX1, rfl, by decide, zu_X1, tyX1_ok, nmX1, Or.inr ⟨_, List.mem_of_getElem? (i := 24) rfl⟩⟩
theorem zf_X3_71p : zFp "AnswerSquare" 71 1 10 .boolean := ⟨zf_X3_71, _, rfl, rfl, by decide +kernel⟩
set_option maxRecDepth 20000 in
theorem zm_1_138 : Cond.fieldLink "AnswerSquare" (12 : Nat) "AnswerSquare" "text" "LAnswerSquare$Text;" ∈ ztbl := zg (zt_1 (List.mem_of_getElem? (i := 138) rfl)) rfl
set_option maxRecDepth 20000 in
theorem zf_X3_12 : zF "AnswerSquare" 12 3 0 := ⟨RX3, TX3, 11, tyX3, rfl, by decide, zu_X3, tyX3_ok, nmX3, Or.inl zm_1_138⟩
set_option maxRecDepth 20000 in
theorem zm_1_139 : Cond.fieldLink "AnswerSquare" (19 : Nat) "AnswerSquare" "told" "LAnswerSquare$Duchy;" ∈ ztbl := zg (zt_1 (List.mem_of_getElem? (i := 139) rfl)) rfl
set_option maxRecDepth 20000 in
theorem zf_X3_19 : zF "AnswerSquare" 19 3 1 := ⟨RX3, TX3, 11, tyX3, rfl, by decide, zu_X3, tyX3_ok, nmX3, Or.inl zm_1_139⟩
theorem zf_X3_19p : zFp "AnswerSquare" 19 3 1 (.object "AnswerSquare$Duchy") := ⟨zf_X3_19, _, rfl, rfl, by decide +kernel⟩
set_option maxRecDepth 20000 in
theorem zm_1_140 : Cond.fieldLink "AnswerSquare" (23 : Nat) "AnswerSquare" "spare" "LAnswerSquare$Duchy;" ∈ ztbl := zg (zt_1 (List.mem_of_getElem? (i := 140) rfl)) rfl
set_option maxRecDepth 20000 in
theorem zf_X3_23 : zF "AnswerSquare" 23 3 2 := ⟨RX3, TX3, 11, tyX3, rfl, by decide, zu_X3, tyX3_ok, nmX3, Or.inl zm_1_140⟩
theorem zf_X3_23p : zFp "AnswerSquare" 23 3 2 (.object "AnswerSquare$Duchy") := ⟨zf_X3_23, _, rfl, rfl, by decide +kernel⟩
set_option maxRecDepth 20000 in
theorem zm_1_141 : Cond.fieldLink "AnswerSquare" (29 : Nat) "AnswerSquare" "present" "LAnswerSquare$Moment;" ∈ ztbl := zg (zt_1 (List.mem_of_getElem? (i := 141) rfl)) rfl
set_option maxRecDepth 20000 in
theorem zf_X3_29 : zF "AnswerSquare" 29 3 3 := ⟨RX3, TX3, 11, tyX3, rfl, by decide, zu_X3, tyX3_ok, nmX3, Or.inl zm_1_141⟩
set_option maxRecDepth 20000 in
theorem zm_1_142 : Cond.fieldLink "AnswerSquare" (33 : Nat) "AnswerSquare" "firstImage" "LAnswerSquare$Moment;" ∈ ztbl := zg (zt_1 (List.mem_of_getElem? (i := 142) rfl)) rfl
set_option maxRecDepth 20000 in
theorem zf_X3_33 : zF "AnswerSquare" 33 3 4 := ⟨RX3, TX3, 11, tyX3, rfl, by decide, zu_X3, tyX3_ok, nmX3, Or.inl zm_1_142⟩
set_option maxRecDepth 20000 in
theorem zm_1_143 : Cond.fieldLink "AnswerSquare" (36 : Nat) "AnswerSquare" "secondImage" "LAnswerSquare$Moment;" ∈ ztbl := zg (zt_1 (List.mem_of_getElem? (i := 143) rfl)) rfl
set_option maxRecDepth 20000 in
theorem zf_X3_36 : zF "AnswerSquare" 36 3 5 := ⟨RX3, TX3, 11, tyX3, rfl, by decide, zu_X3, tyX3_ok, nmX3, Or.inl zm_1_143⟩
set_option maxRecDepth 20000 in
theorem zm_1_144 : Cond.fieldLink "AnswerSquare" (39 : Nat) "AnswerSquare" "toldAhead" "[I" ∈ ztbl := zg (zt_1 (List.mem_of_getElem? (i := 144) rfl)) rfl
set_option maxRecDepth 20000 in
theorem zf_X3_39 : zF "AnswerSquare" 39 3 6 := ⟨RX3, TX3, 11, tyX3, rfl, by decide, zu_X3, tyX3_ok, nmX3, Or.inl zm_1_144⟩
set_option maxRecDepth 20000 in
theorem zm_1_145 : Cond.fieldLink "AnswerSquare" (43 : Nat) "AnswerSquare" "toldCount" "I" ∈ ztbl := zg (zt_1 (List.mem_of_getElem? (i := 145) rfl)) rfl
set_option maxRecDepth 20000 in
theorem zf_X3_43 : zF "AnswerSquare" 43 3 7 := ⟨RX3, TX3, 11, tyX3, rfl, by decide, zu_X3, tyX3_ok, nmX3, Or.inl zm_1_145⟩
theorem zf_X3_43p : zFp "AnswerSquare" 43 3 7 .int := ⟨zf_X3_43, _, rfl, rfl, by decide +kernel⟩
set_option maxRecDepth 20000 in
theorem zm_1_146 : Cond.fieldLink "AnswerSquare" (47 : Nat) "AnswerSquare" "layers" "[I" ∈ ztbl := zg (zt_1 (List.mem_of_getElem? (i := 146) rfl)) rfl
set_option maxRecDepth 20000 in
theorem zf_X3_47 : zF "AnswerSquare" 47 3 8 := ⟨RX3, TX3, 11, tyX3, rfl, by decide, zu_X3, tyX3_ok, nmX3, Or.inl zm_1_146⟩
set_option maxRecDepth 20000 in
theorem zm_1_147 : Cond.fieldLink "AnswerSquare" (50 : Nat) "AnswerSquare" "ways" "[I" ∈ ztbl := zg (zt_1 (List.mem_of_getElem? (i := 147) rfl)) rfl
set_option maxRecDepth 20000 in
theorem zf_X3_50 : zF "AnswerSquare" 50 3 9 := ⟨RX3, TX3, 11, tyX3, rfl, by decide, zu_X3, tyX3_ok, nmX3, Or.inl zm_1_147⟩
set_option maxRecDepth 20000 in
theorem zm_1_148 : Cond.fieldLink "AnswerSquare" (53 : Nat) "AnswerSquare" "traced" "J" ∈ ztbl := zg (zt_1 (List.mem_of_getElem? (i := 148) rfl)) rfl
set_option maxRecDepth 20000 in
theorem zf_X3_53 : zF "AnswerSquare" 53 3 10 := ⟨RX3, TX3, 11, tyX3, rfl, by decide, zu_X3, tyX3_ok, nmX3, Or.inl zm_1_148⟩
theorem zf_X3_53p : zFp "AnswerSquare" 53 3 10 .long := ⟨zf_X3_53, _, rfl, rfl, by decide +kernel⟩
set_option maxRecDepth 20000 in
theorem zm_3_80 : Cond.fieldLink "AnswerSquareModel" (183 : Nat) "AnswerSquareModel" "trace" "J" ∈ ztbl := zg (zt_3 (List.mem_of_getElem? (i := 80) rfl)) rfl
set_option maxRecDepth 20000 in
theorem zf_X4_183 : zF "AnswerSquareModel" 183 4 0 := ⟨RX4, TX4, 22, tyX4, rfl, by decide, zu_X4, tyX4_ok, nmX4, Or.inl zm_3_80⟩
theorem zf_X4_183p : zFp "AnswerSquareModel" 183 4 0 .long := ⟨zf_X4_183, _, rfl, rfl, by decide +kernel⟩
set_option maxRecDepth 20000 in
theorem zm_3_81 : Cond.fieldLink "AnswerSquareModel" (7 : Nat) "AnswerSquareModel" "text" "[B" ∈ ztbl := zg (zt_3 (List.mem_of_getElem? (i := 81) rfl)) rfl
set_option maxRecDepth 20000 in
theorem zf_X4_7 : zF "AnswerSquareModel" 7 4 1 := ⟨RX4, TX4, 22, tyX4, rfl, by decide, zu_X4, tyX4_ok, nmX4, Or.inl zm_3_81⟩
set_option maxRecDepth 20000 in
theorem zm_3_82 : Cond.fieldLink "AnswerSquareModel" (61 : Nat) "AnswerSquareModel" "typed" "I" ∈ ztbl := zg (zt_3 (List.mem_of_getElem? (i := 82) rfl)) rfl
set_option maxRecDepth 20000 in
theorem zf_X4_61 : zF "AnswerSquareModel" 61 4 2 := ⟨RX4, TX4, 22, tyX4, rfl, by decide, zu_X4, tyX4_ok, nmX4, Or.inl zm_3_82⟩
theorem zf_X4_61p : zFp "AnswerSquareModel" 61 4 2 .int := ⟨zf_X4_61, _, rfl, rfl, by decide +kernel⟩
set_option maxRecDepth 20000 in
theorem zm_3_83 : Cond.fieldLink "AnswerSquareModel" (13 : Nat) "AnswerSquareModel" "sayings" "[I" ∈ ztbl := zg (zt_3 (List.mem_of_getElem? (i := 83) rfl)) rfl
set_option maxRecDepth 20000 in
theorem zf_X4_13 : zF "AnswerSquareModel" 13 4 3 := ⟨RX4, TX4, 22, tyX4, rfl, by decide, zu_X4, tyX4_ok, nmX4, Or.inl zm_3_83⟩
set_option maxRecDepth 20000 in
theorem zm_3_84 : Cond.fieldLink "AnswerSquareModel" (17 : Nat) "AnswerSquareModel" "worthy" "[I" ∈ ztbl := zg (zt_3 (List.mem_of_getElem? (i := 84) rfl)) rfl
set_option maxRecDepth 20000 in
theorem zf_X4_17 : zF "AnswerSquareModel" 17 4 4 := ⟨RX4, TX4, 22, tyX4, rfl, by decide, zu_X4, tyX4_ok, nmX4, Or.inl zm_3_84⟩
set_option maxRecDepth 20000 in
theorem zm_3_85 : Cond.fieldLink "AnswerSquareModel" (20 : Nat) "AnswerSquareModel" "answers" "[I" ∈ ztbl := zg (zt_3 (List.mem_of_getElem? (i := 85) rfl)) rfl
set_option maxRecDepth 20000 in
theorem zf_X4_20 : zF "AnswerSquareModel" 20 4 5 := ⟨RX4, TX4, 22, tyX4, rfl, by decide, zu_X4, tyX4_ok, nmX4, Or.inl zm_3_85⟩
set_option maxRecDepth 20000 in
theorem zm_3_86 : Cond.fieldLink "AnswerSquareModel" (23 : Nat) "AnswerSquareModel" "sound" "[I" ∈ ztbl := zg (zt_3 (List.mem_of_getElem? (i := 86) rfl)) rfl
set_option maxRecDepth 20000 in
theorem zf_X4_23 : zF "AnswerSquareModel" 23 4 6 := ⟨RX4, TX4, 22, tyX4, rfl, by decide, zu_X4, tyX4_ok, nmX4, Or.inl zm_3_86⟩
set_option maxRecDepth 20000 in
theorem zm_3_87 : Cond.fieldLink "AnswerSquareModel" (26 : Nat) "AnswerSquareModel" "people" "[I" ∈ ztbl := zg (zt_3 (List.mem_of_getElem? (i := 87) rfl)) rfl
set_option maxRecDepth 20000 in
theorem zf_X4_26 : zF "AnswerSquareModel" 26 4 7 := ⟨RX4, TX4, 22, tyX4, rfl, by decide, zu_X4, tyX4_ok, nmX4, Or.inl zm_3_87⟩
set_option maxRecDepth 20000 in
theorem zm_3_88 : Cond.fieldLink "AnswerSquareModel" (29 : Nat) "AnswerSquareModel" "knows" "[I" ∈ ztbl := zg (zt_3 (List.mem_of_getElem? (i := 88) rfl)) rfl
set_option maxRecDepth 20000 in
theorem zf_X4_29 : zF "AnswerSquareModel" 29 4 8 := ⟨RX4, TX4, 22, tyX4, rfl, by decide, zu_X4, tyX4_ok, nmX4, Or.inl zm_3_88⟩
set_option maxRecDepth 20000 in
theorem zm_3_89 : Cond.fieldLink "AnswerSquareModel" (32 : Nat) "AnswerSquareModel" "old" "[I" ∈ ztbl := zg (zt_3 (List.mem_of_getElem? (i := 89) rfl)) rfl
set_option maxRecDepth 20000 in
theorem zf_X4_32 : zF "AnswerSquareModel" 32 4 9 := ⟨RX4, TX4, 22, tyX4, rfl, by decide, zu_X4, tyX4_ok, nmX4, Or.inl zm_3_89⟩
set_option maxRecDepth 20000 in
theorem zm_3_90 : Cond.fieldLink "AnswerSquareModel" (91 : Nat) "AnswerSquareModel" "oldTold" "Z" ∈ ztbl := zg (zt_3 (List.mem_of_getElem? (i := 90) rfl)) rfl
set_option maxRecDepth 20000 in
theorem zf_X4_91 : zF "AnswerSquareModel" 91 4 10 := ⟨RX4, TX4, 22, tyX4, rfl, by decide, zu_X4, tyX4_ok, nmX4, Or.inl zm_3_90⟩
theorem zf_X4_91p : zFp "AnswerSquareModel" 91 4 10 .boolean := ⟨zf_X4_91, _, rfl, rfl, by decide +kernel⟩
set_option maxRecDepth 20000 in
theorem zm_3_91 : Cond.fieldLink "AnswerSquareModel" (65 : Nat) "AnswerSquareModel" "at" "I" ∈ ztbl := zg (zt_3 (List.mem_of_getElem? (i := 91) rfl)) rfl
set_option maxRecDepth 20000 in
theorem zf_X4_65 : zF "AnswerSquareModel" 65 4 11 := ⟨RX4, TX4, 22, tyX4, rfl, by decide, zu_X4, tyX4_ok, nmX4, Or.inl zm_3_91⟩
theorem zf_X4_65p : zFp "AnswerSquareModel" 65 4 11 .int := ⟨zf_X4_65, _, rfl, rfl, by decide +kernel⟩
set_option maxRecDepth 20000 in
theorem zm_3_92 : Cond.fieldLink "AnswerSquareModel" (72 : Nat) "AnswerSquareModel" "start" "I" ∈ ztbl := zg (zt_3 (List.mem_of_getElem? (i := 92) rfl)) rfl
set_option maxRecDepth 20000 in
theorem zf_X4_72 : zF "AnswerSquareModel" 72 4 12 := ⟨RX4, TX4, 22, tyX4, rfl, by decide, zu_X4, tyX4_ok, nmX4, Or.inl zm_3_92⟩
theorem zf_X4_72p : zFp "AnswerSquareModel" 72 4 12 .int := ⟨zf_X4_72, _, rfl, rfl, by decide +kernel⟩
set_option maxRecDepth 20000 in
theorem zm_3_93 : Cond.fieldLink "AnswerSquareModel" (78 : Nat) "AnswerSquareModel" "sort" "I" ∈ ztbl := zg (zt_3 (List.mem_of_getElem? (i := 93) rfl)) rfl
set_option maxRecDepth 20000 in
theorem zf_X4_78 : zF "AnswerSquareModel" 78 4 13 := ⟨RX4, TX4, 22, tyX4, rfl, by decide, zu_X4, tyX4_ok, nmX4, Or.inl zm_3_93⟩
theorem zf_X4_78p : zFp "AnswerSquareModel" 78 4 13 .int := ⟨zf_X4_78, _, rfl, rfl, by decide +kernel⟩
set_option maxRecDepth 20000 in
theorem zm_3_94 : Cond.fieldLink "AnswerSquareModel" (75 : Nat) "AnswerSquareModel" "value" "I" ∈ ztbl := zg (zt_3 (List.mem_of_getElem? (i := 94) rfl)) rfl
set_option maxRecDepth 20000 in
theorem zf_X4_75 : zF "AnswerSquareModel" 75 4 14 := ⟨RX4, TX4, 22, tyX4, rfl, by decide, zu_X4, tyX4_ok, nmX4, Or.inl zm_3_94⟩
theorem zf_X4_75p : zFp "AnswerSquareModel" 75 4 14 .int := ⟨zf_X4_75, _, rfl, rfl, by decide +kernel⟩
set_option maxRecDepth 20000 in
theorem zm_3_95 : Cond.fieldLink "AnswerSquareModel" (81 : Nat) "AnswerSquareModel" "fault" "I" ∈ ztbl := zg (zt_3 (List.mem_of_getElem? (i := 95) rfl)) rfl
set_option maxRecDepth 20000 in
theorem zf_X4_81 : zF "AnswerSquareModel" 81 4 15 := ⟨RX4, TX4, 22, tyX4, rfl, by decide, zu_X4, tyX4_ok, nmX4, Or.inl zm_3_95⟩
theorem zf_X4_81p : zFp "AnswerSquareModel" 81 4 15 .int := ⟨zf_X4_81, _, rfl, rfl, by decide +kernel⟩
set_option maxRecDepth 20000 in
theorem zm_3_96 : Cond.fieldLink "AnswerSquareModel" (35 : Nat) "AnswerSquareModel" "now" "[I" ∈ ztbl := zg (zt_3 (List.mem_of_getElem? (i := 96) rfl)) rfl
set_option maxRecDepth 20000 in
theorem zf_X4_35 : zF "AnswerSquareModel" 35 4 16 := ⟨RX4, TX4, 22, tyX4, rfl, by decide, zu_X4, tyX4_ok, nmX4, Or.inl zm_3_96⟩
set_option maxRecDepth 20000 in
theorem zm_3_97 : Cond.fieldLink "AnswerSquareModel" (38 : Nat) "AnswerSquareModel" "isKept" "[Z" ∈ ztbl := zg (zt_3 (List.mem_of_getElem? (i := 97) rfl)) rfl
set_option maxRecDepth 20000 in
theorem zf_X4_38 : zF "AnswerSquareModel" 38 4 17 := ⟨RX4, TX4, 22, tyX4, rfl, by decide, zu_X4, tyX4_ok, nmX4, Or.inl zm_3_97⟩
set_option maxRecDepth 20000 in
theorem zm_3_98 : Cond.fieldLink "AnswerSquareModel" (42 : Nat) "AnswerSquareModel" "toldAhead" "[I" ∈ ztbl := zg (zt_3 (List.mem_of_getElem? (i := 98) rfl)) rfl
set_option maxRecDepth 20000 in
theorem zf_X4_42 : zF "AnswerSquareModel" 42 4 18 := ⟨RX4, TX4, 22, tyX4, rfl, by decide, zu_X4, tyX4_ok, nmX4, Or.inl zm_3_98⟩
set_option maxRecDepth 20000 in
theorem zm_3_99 : Cond.fieldLink "AnswerSquareModel" (45 : Nat) "AnswerSquareModel" "toldBehind" "[I" ∈ ztbl := zg (zt_3 (List.mem_of_getElem? (i := 99) rfl)) rfl
set_option maxRecDepth 20000 in
theorem zf_X4_45 : zF "AnswerSquareModel" 45 4 19 := ⟨RX4, TX4, 22, tyX4, rfl, by decide, zu_X4, tyX4_ok, nmX4, Or.inl zm_3_99⟩
set_option maxRecDepth 20000 in
theorem zm_3_100 : Cond.fieldLink "AnswerSquareModel" (102 : Nat) "AnswerSquareModel" "told" "I" ∈ ztbl := zg (zt_3 (List.mem_of_getElem? (i := 100) rfl)) rfl
set_option maxRecDepth 20000 in
theorem zf_X4_102 : zF "AnswerSquareModel" 102 4 20 := ⟨RX4, TX4, 22, tyX4, rfl, by decide, zu_X4, tyX4_ok, nmX4, Or.inl zm_3_100⟩
theorem zf_X4_102p : zFp "AnswerSquareModel" 102 4 20 .int := ⟨zf_X4_102, _, rfl, rfl, by decide +kernel⟩
set_option maxRecDepth 20000 in
theorem zm_3_101 : Cond.fieldLink "AnswerSquareModel" (48 : Nat) "AnswerSquareModel" "ways" "[I" ∈ ztbl := zg (zt_3 (List.mem_of_getElem? (i := 101) rfl)) rfl
set_option maxRecDepth 20000 in
theorem zf_X4_48 : zF "AnswerSquareModel" 48 4 21 := ⟨RX4, TX4, 22, tyX4, rfl, by decide, zu_X4, tyX4_ok, nmX4, Or.inl zm_3_101⟩
-- methods
def mX3_init : ZM := (yX3_init, cX3_init, 1, none)
set_option maxRecDepth 20000 in
theorem zm_1_13 : Cond.code ({ cls := "AnswerSquare", name := "<init>", desc := "()V" } : MethodName) prog_1_method_1_code (1 : Nat) (Option.none : Option FieldType) ∈ ztbl := zg (zt_1 (List.mem_of_getElem? (i := 13) rfl)) rfl
def mX2_init : ZM := (yX2_init, cX2_init, 1, none)
set_option maxRecDepth 20000 in
theorem zm_1_21 : Cond.code ({ cls := "AnswerSquare$Text", name := "<init>", desc := "()V" } : MethodName) prog_4_method_1_code (1 : Nat) (Option.none : Option FieldType) ∈ ztbl := zg (zt_1 (List.mem_of_getElem? (i := 21) rfl)) rfl
def mX0_init : ZM := (yX0_init, cX0_init, 1, none)
set_option maxRecDepth 20000 in
theorem zm_1_51 : Cond.code ({ cls := "AnswerSquare$Duchy", name := "<init>", desc := "()V" } : MethodName) prog_2_method_1_code (1 : Nat) (Option.none : Option FieldType) ∈ ztbl := zg (zt_1 (List.mem_of_getElem? (i := 51) rfl)) rfl
def mX1_init : ZM := (yX1_init, cX1_init, 1, none)
set_option maxRecDepth 20000 in
theorem zm_1_93 : Cond.code ({ cls := "AnswerSquare$Moment", name := "<init>", desc := "()V" } : MethodName) prog_3_method_1_code (1 : Nat) (Option.none : Option FieldType) ∈ ztbl := zg (zt_1 (List.mem_of_getElem? (i := 93) rfl)) rfl
def mX3_type : ZM := (yX3_type, cX3_type, 2, (some (FieldType.int)))
set_option maxRecDepth 20000 in
theorem zm_1_175 : Cond.code ({ cls := "AnswerSquare", name := "type", desc := "(I)I" } : MethodName) prog_1_method_2_code (2 : Nat) (Option.some FieldType.int) ∈ ztbl := zg (zt_1 (List.mem_of_getElem? (i := 175) rfl)) rfl
set_option maxRecDepth 20000 in
theorem zm_1_174 : Cond.selects "AnswerSquare" ({ cls := "AnswerSquare", name := "type", desc := "(I)I" } : MethodName) ({ cls := "AnswerSquare", name := "type", desc := "(I)I" } : MethodName) ∈ ztbl := zg (zt_1 (List.mem_of_getElem? (i := 174) rfl)) rfl
set_option maxRecDepth 20000 in
set_option maxRecDepth 20000 in
theorem zm_1_1 : Cond.initialized "AnswerSquare" ∈ ztbl := zg (zt_1 (List.mem_of_getElem? (i := 1) rfl)) rfl
set_option maxRecDepth 20000 in
theorem zm_1_173 : Cond.instanceMethod ({ cls := "AnswerSquare", name := "type", desc := "(I)I" } : MethodName) ∈ ztbl := zg (zt_1 (List.mem_of_getElem? (i := 173) rfl)) rfl
theorem zy_X3_type : zYv mX3_type 1 := ⟨zm_1_175, zm_1_1, zm_1_173, zm_1_174, ⟨by decide +kernel, by decide +kernel⟩, by decide +kernel, by decide⟩
def mX2_put : ZM := (yX2_put, cX2_put, 2, (some (FieldType.boolean)))
set_option maxRecDepth 20000 in
theorem zm_1_179 : Cond.code ({ cls := "AnswerSquare$Text", name := "put", desc := "(I)Z" } : MethodName) prog_4_method_2_code (2 : Nat) (Option.some FieldType.boolean) ∈ ztbl := zg (zt_1 (List.mem_of_getElem? (i := 179) rfl)) rfl
set_option maxRecDepth 20000 in
theorem zs_X2_put : Cond.selects "AnswerSquare$Text" ({ cls := "AnswerSquare$Text", name := "put", desc := "(I)Z" } : MethodName) ({ cls := "AnswerSquare$Text", name := "put", desc := "(I)Z" } : MethodName) ∈ ztbl := zg (List.mem_append_left _ (List.mem_map.mpr ⟨_, (show _ ∈ lw_privs_1 ++ (lw_privs_2 ++ (lw_privs_3 ++ (lw_privs_4 ++ (lw_privs_5 ++ (lw_privs_6))))) from List.mem_append_left _ (List.mem_of_getElem? (i := 0) rfl)), rfl⟩)) rfl
set_option maxRecDepth 20000 in
set_option maxRecDepth 20000 in
theorem zm_1_2 : Cond.initialized "AnswerSquare$Text" ∈ ztbl := zg (zt_1 (List.mem_of_getElem? (i := 2) rfl)) rfl
set_option maxRecDepth 20000 in
theorem zm_1_178 : Cond.instanceMethod ({ cls := "AnswerSquare$Text", name := "put", desc := "(I)Z" } : MethodName) ∈ ztbl := zg (zt_1 (List.mem_of_getElem? (i := 178) rfl)) rfl
theorem zy_X2_put : zYv mX2_put 1 := ⟨zm_1_179, zm_1_2, zm_1_178, zs_X2_put, ⟨by decide +kernel, by decide +kernel⟩, by decide +kernel, by decide⟩
def mX3_clear : ZM := (yX3_clear, cX3_clear, 2, (some (FieldType.int)))
set_option maxRecDepth 20000 in
theorem zm_1_183 : Cond.code ({ cls := "AnswerSquare", name := "clear", desc := "()I" } : MethodName) prog_1_method_3_code (2 : Nat) (Option.some FieldType.int) ∈ ztbl := zg (zt_1 (List.mem_of_getElem? (i := 183) rfl)) rfl
set_option maxRecDepth 20000 in
theorem zm_1_182 : Cond.selects "AnswerSquare" ({ cls := "AnswerSquare", name := "clear", desc := "()I" } : MethodName) ({ cls := "AnswerSquare", name := "clear", desc := "()I" } : MethodName) ∈ ztbl := zg (zt_1 (List.mem_of_getElem? (i := 182) rfl)) rfl
set_option maxRecDepth 20000 in
set_option maxRecDepth 20000 in
theorem zm_1_181 : Cond.instanceMethod ({ cls := "AnswerSquare", name := "clear", desc := "()I" } : MethodName) ∈ ztbl := zg (zt_1 (List.mem_of_getElem? (i := 181) rfl)) rfl
theorem zy_X3_clear : zYv mX3_clear 0 := ⟨zm_1_183, zm_1_1, zm_1_181, zm_1_182, ⟨by decide +kernel, by decide +kernel⟩, by decide +kernel, by decide⟩
def mX3_duchy : ZM := (yX3_duchy, cX3_duchy, 3, (some (FieldType.int)))
set_option maxRecDepth 20000 in
theorem zm_1_187 : Cond.code ({ cls := "AnswerSquare", name := "duchy", desc := "()I" } : MethodName) prog_1_method_4_code (3 : Nat) (Option.some FieldType.int) ∈ ztbl := zg (zt_1 (List.mem_of_getElem? (i := 187) rfl)) rfl
set_option maxRecDepth 20000 in
theorem zm_1_186 : Cond.selects "AnswerSquare" ({ cls := "AnswerSquare", name := "duchy", desc := "()I" } : MethodName) ({ cls := "AnswerSquare", name := "duchy", desc := "()I" } : MethodName) ∈ ztbl := zg (zt_1 (List.mem_of_getElem? (i := 186) rfl)) rfl
set_option maxRecDepth 20000 in
set_option maxRecDepth 20000 in
theorem zm_1_185 : Cond.instanceMethod ({ cls := "AnswerSquare", name := "duchy", desc := "()I" } : MethodName) ∈ ztbl := zg (zt_1 (List.mem_of_getElem? (i := 185) rfl)) rfl
theorem zy_X3_duchy : zYv mX3_duchy 0 := ⟨zm_1_187, zm_1_1, zm_1_185, zm_1_186, ⟨by decide +kernel, by decide +kernel⟩, by decide +kernel, by decide⟩
def mX0_readFrom : ZM := (yX0_readFrom, cX0_readFrom, 3, (some (FieldType.int)))
set_option maxRecDepth 20000 in
theorem zm_1_191 : Cond.code ({ cls := "AnswerSquare$Duchy", name := "readFrom", desc := "(LAnswerSquare$Text;)I" } : MethodName) prog_2_method_2_code (3 : Nat) (Option.some FieldType.int) ∈ ztbl := zg (zt_1 (List.mem_of_getElem? (i := 191) rfl)) rfl
set_option maxRecDepth 20000 in
theorem zs_X0_readFrom : Cond.selects "AnswerSquare$Duchy" ({ cls := "AnswerSquare$Duchy", name := "readFrom", desc := "(LAnswerSquare$Text;)I" } : MethodName) ({ cls := "AnswerSquare$Duchy", name := "readFrom", desc := "(LAnswerSquare$Text;)I" } : MethodName) ∈ ztbl := zg (List.mem_append_left _ (List.mem_map.mpr ⟨_, (show _ ∈ lw_privs_1 ++ (lw_privs_2 ++ (lw_privs_3 ++ (lw_privs_4 ++ (lw_privs_5 ++ (lw_privs_6))))) from List.mem_append_left _ (List.mem_of_getElem? (i := 1) rfl)), rfl⟩)) rfl
set_option maxRecDepth 20000 in
set_option maxRecDepth 20000 in
theorem zm_1_3 : Cond.initialized "AnswerSquare$Duchy" ∈ ztbl := zg (zt_1 (List.mem_of_getElem? (i := 3) rfl)) rfl
set_option maxRecDepth 20000 in
theorem zm_1_190 : Cond.instanceMethod ({ cls := "AnswerSquare$Duchy", name := "readFrom", desc := "(LAnswerSquare$Text;)I" } : MethodName) ∈ ztbl := zg (zt_1 (List.mem_of_getElem? (i := 190) rfl)) rfl
theorem zy_X0_readFrom : zYv mX0_readFrom 1 := ⟨zm_1_191, zm_1_3, zm_1_190, zs_X0_readFrom, ⟨by decide +kernel, by decide +kernel⟩, by decide +kernel, by decide⟩
def mX2_rewind : ZM := (yX2_rewind, cX2_rewind, 1, none)
set_option maxRecDepth 20000 in
theorem zm_1_195 : Cond.code ({ cls := "AnswerSquare$Text", name := "rewind", desc := "()V" } : MethodName) prog_4_method_3_code (1 : Nat) (Option.none : Option FieldType) ∈ ztbl := zg (zt_1 (List.mem_of_getElem? (i := 195) rfl)) rfl
set_option maxRecDepth 20000 in
theorem zs_X2_rewind : Cond.selects "AnswerSquare$Text" ({ cls := "AnswerSquare$Text", name := "rewind", desc := "()V" } : MethodName) ({ cls := "AnswerSquare$Text", name := "rewind", desc := "()V" } : MethodName) ∈ ztbl := zg (List.mem_append_left _ (List.mem_map.mpr ⟨_, (show _ ∈ lw_privs_1 ++ (lw_privs_2 ++ (lw_privs_3 ++ (lw_privs_4 ++ (lw_privs_5 ++ (lw_privs_6))))) from List.mem_append_left _ (List.mem_of_getElem? (i := 2) rfl)), rfl⟩)) rfl
set_option maxRecDepth 20000 in
set_option maxRecDepth 20000 in
theorem zm_1_194 : Cond.instanceMethod ({ cls := "AnswerSquare$Text", name := "rewind", desc := "()V" } : MethodName) ∈ ztbl := zg (zt_1 (List.mem_of_getElem? (i := 194) rfl)) rfl
theorem zy_X2_rewind : zYv mX2_rewind 0 := ⟨zm_1_195, zm_1_2, zm_1_194, zs_X2_rewind, ⟨by decide +kernel, by decide +kernel⟩, by decide +kernel, by decide⟩
def mX2_advance : ZM := (yX2_advance, cX2_advance, 2, none)
set_option maxRecDepth 20000 in
theorem zm_1_199 : Cond.code ({ cls := "AnswerSquare$Text", name := "advance", desc := "()V" } : MethodName) prog_4_method_4_code (2 : Nat) (Option.none : Option FieldType) ∈ ztbl := zg (zt_1 (List.mem_of_getElem? (i := 199) rfl)) rfl
set_option maxRecDepth 20000 in
theorem zs_X2_advance : Cond.selects "AnswerSquare$Text" ({ cls := "AnswerSquare$Text", name := "advance", desc := "()V" } : MethodName) ({ cls := "AnswerSquare$Text", name := "advance", desc := "()V" } : MethodName) ∈ ztbl := zg (List.mem_append_left _ (List.mem_map.mpr ⟨_, (show _ ∈ lw_privs_1 ++ (lw_privs_2 ++ (lw_privs_3 ++ (lw_privs_4 ++ (lw_privs_5 ++ (lw_privs_6))))) from List.mem_append_left _ (List.mem_of_getElem? (i := 3) rfl)), rfl⟩)) rfl
set_option maxRecDepth 20000 in
set_option maxRecDepth 20000 in
theorem zm_1_198 : Cond.instanceMethod ({ cls := "AnswerSquare$Text", name := "advance", desc := "()V" } : MethodName) ∈ ztbl := zg (zt_1 (List.mem_of_getElem? (i := 198) rfl)) rfl
theorem zy_X2_advance : zYv mX2_advance 0 := ⟨zm_1_199, zm_1_2, zm_1_198, zs_X2_advance, ⟨by decide +kernel, by decide +kernel⟩, by decide +kernel, by decide⟩
def mX2_byteAt : ZM := (yX2_byteAt, cX2_byteAt, 2, (some (FieldType.int)))
set_option maxRecDepth 20000 in
theorem zm_1_203 : Cond.code ({ cls := "AnswerSquare$Text", name := "byteAt", desc := "(I)I" } : MethodName) prog_4_method_7_code (2 : Nat) (Option.some FieldType.int) ∈ ztbl := zg (zt_1 (List.mem_of_getElem? (i := 203) rfl)) rfl
set_option maxRecDepth 20000 in
theorem zs_X2_byteAt : Cond.selects "AnswerSquare$Text" ({ cls := "AnswerSquare$Text", name := "byteAt", desc := "(I)I" } : MethodName) ({ cls := "AnswerSquare$Text", name := "byteAt", desc := "(I)I" } : MethodName) ∈ ztbl := zg (List.mem_append_left _ (List.mem_map.mpr ⟨_, (show _ ∈ lw_privs_1 ++ (lw_privs_2 ++ (lw_privs_3 ++ (lw_privs_4 ++ (lw_privs_5 ++ (lw_privs_6))))) from List.mem_append_left _ (List.mem_of_getElem? (i := 4) rfl)), rfl⟩)) rfl
set_option maxRecDepth 20000 in
set_option maxRecDepth 20000 in
theorem zm_1_202 : Cond.instanceMethod ({ cls := "AnswerSquare$Text", name := "byteAt", desc := "(I)I" } : MethodName) ∈ ztbl := zg (zt_1 (List.mem_of_getElem? (i := 202) rfl)) rfl
theorem zy_X2_byteAt : zYv mX2_byteAt 1 := ⟨zm_1_203, zm_1_2, zm_1_202, zs_X2_byteAt, ⟨by decide +kernel, by decide +kernel⟩, by decide +kernel, by decide⟩
def mX2_isLetter : ZM := (yX2_isLetter, cX2_isLetter, 1, (some (FieldType.boolean)))
set_option maxRecDepth 20000 in
theorem zm_1_206 : Cond.code ({ cls := "AnswerSquare$Text", name := "isLetter", desc := "(I)Z" } : MethodName) prog_4_method_9_code (1 : Nat) (Option.some FieldType.boolean) ∈ ztbl := zg (zt_1 (List.mem_of_getElem? (i := 206) rfl)) rfl
set_option maxRecDepth 20000 in
set_option maxRecDepth 20000 in
theorem zm_1_205 : Cond.static ({ cls := "AnswerSquare$Text", name := "isLetter", desc := "(I)Z" } : MethodName) ∈ ztbl := zg (zt_1 (List.mem_of_getElem? (i := 205) rfl)) rfl
theorem zy_X2_isLetter : zYs mX2_isLetter 1 := ⟨zm_1_206, zm_1_2, zm_1_205, ⟨by decide +kernel, by decide +kernel⟩, by decide +kernel, by decide⟩
def mX2_takeWord : ZM := (yX2_takeWord, cX2_takeWord, 2, none)
set_option maxRecDepth 20000 in
theorem zm_1_210 : Cond.code ({ cls := "AnswerSquare$Text", name := "takeWord", desc := "(I)V" } : MethodName) prog_4_method_5_code (2 : Nat) (Option.none : Option FieldType) ∈ ztbl := zg (zt_1 (List.mem_of_getElem? (i := 210) rfl)) rfl
set_option maxRecDepth 20000 in
theorem zs_X2_takeWord : Cond.selects "AnswerSquare$Text" ({ cls := "AnswerSquare$Text", name := "takeWord", desc := "(I)V" } : MethodName) ({ cls := "AnswerSquare$Text", name := "takeWord", desc := "(I)V" } : MethodName) ∈ ztbl := zg (List.mem_append_left _ (List.mem_map.mpr ⟨_, (show _ ∈ lw_privs_1 ++ (lw_privs_2 ++ (lw_privs_3 ++ (lw_privs_4 ++ (lw_privs_5 ++ (lw_privs_6))))) from List.mem_append_left _ (List.mem_of_getElem? (i := 5) rfl)), rfl⟩)) rfl
set_option maxRecDepth 20000 in
set_option maxRecDepth 20000 in
theorem zm_1_209 : Cond.instanceMethod ({ cls := "AnswerSquare$Text", name := "takeWord", desc := "(I)V" } : MethodName) ∈ ztbl := zg (zt_1 (List.mem_of_getElem? (i := 209) rfl)) rfl
theorem zy_X2_takeWord : zYv mX2_takeWord 1 := ⟨zm_1_210, zm_1_2, zm_1_209, zs_X2_takeWord, ⟨by decide +kernel, by decide +kernel⟩, by decide +kernel, by decide⟩
def mX2_isDigit : ZM := (yX2_isDigit, cX2_isDigit, 1, (some (FieldType.boolean)))
set_option maxRecDepth 20000 in
theorem zm_1_213 : Cond.code ({ cls := "AnswerSquare$Text", name := "isDigit", desc := "(I)Z" } : MethodName) prog_4_method_10_code (1 : Nat) (Option.some FieldType.boolean) ∈ ztbl := zg (zt_1 (List.mem_of_getElem? (i := 213) rfl)) rfl
set_option maxRecDepth 20000 in
set_option maxRecDepth 20000 in
theorem zm_1_212 : Cond.static ({ cls := "AnswerSquare$Text", name := "isDigit", desc := "(I)Z" } : MethodName) ∈ ztbl := zg (zt_1 (List.mem_of_getElem? (i := 212) rfl)) rfl
theorem zy_X2_isDigit : zYs mX2_isDigit 1 := ⟨zm_1_213, zm_1_2, zm_1_212, ⟨by decide +kernel, by decide +kernel⟩, by decide +kernel, by decide⟩
def mX2_takeNumber : ZM := (yX2_takeNumber, cX2_takeNumber, 3, none)
set_option maxRecDepth 20000 in
theorem zm_1_217 : Cond.code ({ cls := "AnswerSquare$Text", name := "takeNumber", desc := "(I)V" } : MethodName) prog_4_method_6_code (3 : Nat) (Option.none : Option FieldType) ∈ ztbl := zg (zt_1 (List.mem_of_getElem? (i := 217) rfl)) rfl
set_option maxRecDepth 20000 in
theorem zs_X2_takeNumber : Cond.selects "AnswerSquare$Text" ({ cls := "AnswerSquare$Text", name := "takeNumber", desc := "(I)V" } : MethodName) ({ cls := "AnswerSquare$Text", name := "takeNumber", desc := "(I)V" } : MethodName) ∈ ztbl := zg (List.mem_append_left _ (List.mem_map.mpr ⟨_, (show _ ∈ lw_privs_1 ++ (lw_privs_2 ++ (lw_privs_3 ++ (lw_privs_4 ++ (lw_privs_5 ++ (lw_privs_6))))) from List.mem_append_left _ (List.mem_of_getElem? (i := 6) rfl)), rfl⟩)) rfl
set_option maxRecDepth 20000 in
set_option maxRecDepth 20000 in
theorem zm_1_216 : Cond.instanceMethod ({ cls := "AnswerSquare$Text", name := "takeNumber", desc := "(I)V" } : MethodName) ∈ ztbl := zg (zt_1 (List.mem_of_getElem? (i := 216) rfl)) rfl
theorem zy_X2_takeNumber : zYv mX2_takeNumber 1 := ⟨zm_1_217, zm_1_2, zm_1_216, zs_X2_takeNumber, ⟨by decide +kernel, by decide +kernel⟩, by decide +kernel, by decide⟩
def mJ9_min_7cf53 : ZM := (yJ9_min_7cf53, cJ9_min_7cf53, 2, (some (FieldType.int)))
set_option maxRecDepth 20000 in
theorem zm_1_220 : Cond.code ({ cls := "java/lang/Math", name := "min", desc := "(II)I" } : MethodName) prog_8_method_69_code (2 : Nat) (Option.some FieldType.int) ∈ ztbl := zg (zt_1 (List.mem_of_getElem? (i := 220) rfl)) rfl
set_option maxRecDepth 20000 in
set_option maxRecDepth 20000 in
theorem zm_1_6 : Cond.initialized "java/lang/Math" ∈ ztbl := zg (zt_1 (List.mem_of_getElem? (i := 6) rfl)) rfl
set_option maxRecDepth 20000 in
theorem zm_1_219 : Cond.static ({ cls := "java/lang/Math", name := "min", desc := "(II)I" } : MethodName) ∈ ztbl := zg (zt_1 (List.mem_of_getElem? (i := 219) rfl)) rfl
theorem zy_J9_min_7cf53 : zYs mJ9_min_7cf53 2 := ⟨zm_1_220, zm_1_6, zm_1_219, ⟨by decide +kernel, by decide +kernel⟩, by decide +kernel, by decide⟩
def mX0_readItem : ZM := (yX0_readItem, cX0_readItem, 5, (some (FieldType.boolean)))
set_option maxRecDepth 20000 in
theorem zm_1_224 : Cond.code ({ cls := "AnswerSquare$Duchy", name := "readItem", desc := "(LAnswerSquare$Text;)Z" } : MethodName) prog_2_method_3_code (5 : Nat) (Option.some FieldType.boolean) ∈ ztbl := zg (zt_1 (List.mem_of_getElem? (i := 224) rfl)) rfl
set_option maxRecDepth 20000 in
theorem zs_X0_readItem : Cond.selects "AnswerSquare$Duchy" ({ cls := "AnswerSquare$Duchy", name := "readItem", desc := "(LAnswerSquare$Text;)Z" } : MethodName) ({ cls := "AnswerSquare$Duchy", name := "readItem", desc := "(LAnswerSquare$Text;)Z" } : MethodName) ∈ ztbl := zg (List.mem_append_left _ (List.mem_map.mpr ⟨_, (show _ ∈ lw_privs_1 ++ (lw_privs_2 ++ (lw_privs_3 ++ (lw_privs_4 ++ (lw_privs_5 ++ (lw_privs_6))))) from List.mem_append_left _ (List.mem_of_getElem? (i := 7) rfl)), rfl⟩)) rfl
set_option maxRecDepth 20000 in
set_option maxRecDepth 20000 in
theorem zm_1_223 : Cond.instanceMethod ({ cls := "AnswerSquare$Duchy", name := "readItem", desc := "(LAnswerSquare$Text;)Z" } : MethodName) ∈ ztbl := zg (zt_1 (List.mem_of_getElem? (i := 223) rfl)) rfl
theorem zy_X0_readItem : zYv mX0_readItem 1 := ⟨zm_1_224, zm_1_3, zm_1_223, zs_X0_readItem, ⟨by decide +kernel, by decide +kernel⟩, by decide +kernel, by decide⟩
def mX0_hasRoomFor : ZM := (yX0_hasRoomFor, cX0_hasRoomFor, 2, (some (FieldType.boolean)))
set_option maxRecDepth 20000 in
theorem zm_1_228 : Cond.code ({ cls := "AnswerSquare$Duchy", name := "hasRoomFor", desc := "(I)Z" } : MethodName) prog_2_method_4_code (2 : Nat) (Option.some FieldType.boolean) ∈ ztbl := zg (zt_1 (List.mem_of_getElem? (i := 228) rfl)) rfl
set_option maxRecDepth 20000 in
theorem zs_X0_hasRoomFor : Cond.selects "AnswerSquare$Duchy" ({ cls := "AnswerSquare$Duchy", name := "hasRoomFor", desc := "(I)Z" } : MethodName) ({ cls := "AnswerSquare$Duchy", name := "hasRoomFor", desc := "(I)Z" } : MethodName) ∈ ztbl := zg (List.mem_append_left _ (List.mem_map.mpr ⟨_, (show _ ∈ lw_privs_1 ++ (lw_privs_2 ++ (lw_privs_3 ++ (lw_privs_4 ++ (lw_privs_5 ++ (lw_privs_6))))) from List.mem_append_left _ (List.mem_of_getElem? (i := 8) rfl)), rfl⟩)) rfl
set_option maxRecDepth 20000 in
set_option maxRecDepth 20000 in
theorem zm_1_227 : Cond.instanceMethod ({ cls := "AnswerSquare$Duchy", name := "hasRoomFor", desc := "(I)Z" } : MethodName) ∈ ztbl := zg (zt_1 (List.mem_of_getElem? (i := 227) rfl)) rfl
theorem zy_X0_hasRoomFor : zYv mX0_hasRoomFor 1 := ⟨zm_1_228, zm_1_3, zm_1_227, zs_X0_hasRoomFor, ⟨by decide +kernel, by decide +kernel⟩, by decide +kernel, by decide⟩
def mX2_isNumber : ZM := (yX2_isNumber, cX2_isNumber, 3, (some (FieldType.boolean)))
set_option maxRecDepth 20000 in
theorem zm_1_233 : Cond.code ({ cls := "AnswerSquare$Text", name := "isNumber", desc := "(II)Z" } : MethodName) prog_4_method_8_code (3 : Nat) (Option.some FieldType.boolean) ∈ ztbl := zg (zt_1 (List.mem_of_getElem? (i := 233) rfl)) rfl
set_option maxRecDepth 20000 in
theorem zs_X2_isNumber : Cond.selects "AnswerSquare$Text" ({ cls := "AnswerSquare$Text", name := "isNumber", desc := "(II)Z" } : MethodName) ({ cls := "AnswerSquare$Text", name := "isNumber", desc := "(II)Z" } : MethodName) ∈ ztbl := zg (List.mem_append_left _ (List.mem_map.mpr ⟨_, (show _ ∈ lw_privs_1 ++ (lw_privs_2 ++ (lw_privs_3 ++ (lw_privs_4 ++ (lw_privs_5 ++ (lw_privs_6))))) from List.mem_append_left _ (List.mem_of_getElem? (i := 9) rfl)), rfl⟩)) rfl
set_option maxRecDepth 20000 in
set_option maxRecDepth 20000 in
theorem zm_1_232 : Cond.instanceMethod ({ cls := "AnswerSquare$Text", name := "isNumber", desc := "(II)Z" } : MethodName) ∈ ztbl := zg (zt_1 (List.mem_of_getElem? (i := 232) rfl)) rfl
theorem zy_X2_isNumber : zYv mX2_isNumber 2 := ⟨zm_1_233, zm_1_2, zm_1_232, zs_X2_isNumber, ⟨by decide +kernel, by decide +kernel⟩, by decide +kernel, by decide⟩
def mX0_readNumbers : ZM := (yX0_readNumbers, cX0_readNumbers, 4, (some (FieldType.int)))
set_option maxRecDepth 20000 in
theorem zm_1_236 : Cond.code ({ cls := "AnswerSquare$Duchy", name := "readNumbers", desc := "(LAnswerSquare$Text;I)I" } : MethodName) prog_2_method_5_code (4 : Nat) (Option.some FieldType.int) ∈ ztbl := zg (zt_1 (List.mem_of_getElem? (i := 236) rfl)) rfl
set_option maxRecDepth 20000 in
set_option maxRecDepth 20000 in
theorem zm_1_235 : Cond.static ({ cls := "AnswerSquare$Duchy", name := "readNumbers", desc := "(LAnswerSquare$Text;I)I" } : MethodName) ∈ ztbl := zg (zt_1 (List.mem_of_getElem? (i := 235) rfl)) rfl
theorem zy_X0_readNumbers : zYs mX0_readNumbers 2 := ⟨zm_1_236, zm_1_3, zm_1_235, ⟨by decide +kernel, by decide +kernel⟩, by decide +kernel, by decide⟩
def mX0_take : ZM := (yX0_take, cX0_take, 4, none)
set_option maxRecDepth 20000 in
theorem zm_2_0 : Cond.code ({ cls := "AnswerSquare$Duchy", name := "take", desc := "(III)V" } : MethodName) prog_2_method_6_code (4 : Nat) (Option.none : Option FieldType) ∈ ztbl := zg (zt_2 (List.mem_of_getElem? (i := 0) rfl)) rfl
set_option maxRecDepth 20000 in
theorem zs_X0_take : Cond.selects "AnswerSquare$Duchy" ({ cls := "AnswerSquare$Duchy", name := "take", desc := "(III)V" } : MethodName) ({ cls := "AnswerSquare$Duchy", name := "take", desc := "(III)V" } : MethodName) ∈ ztbl := zg (List.mem_append_left _ (List.mem_map.mpr ⟨_, (show _ ∈ lw_privs_1 ++ (lw_privs_2 ++ (lw_privs_3 ++ (lw_privs_4 ++ (lw_privs_5 ++ (lw_privs_6))))) from List.mem_append_left _ (List.mem_of_getElem? (i := 10) rfl)), rfl⟩)) rfl
set_option maxRecDepth 20000 in
set_option maxRecDepth 20000 in
theorem zm_1_239 : Cond.instanceMethod ({ cls := "AnswerSquare$Duchy", name := "take", desc := "(III)V" } : MethodName) ∈ ztbl := zg (zt_1 (List.mem_of_getElem? (i := 239) rfl)) rfl
theorem zy_X0_take : zYv mX0_take 3 := ⟨zm_2_0, zm_1_3, zm_1_239, zs_X0_take, ⟨by decide +kernel, by decide +kernel⟩, by decide +kernel, by decide⟩
def mX0_settle : ZM := (yX0_settle, cX0_settle, 4, none)
set_option maxRecDepth 20000 in
theorem zm_2_4 : Cond.code ({ cls := "AnswerSquare$Duchy", name := "settle", desc := "()V" } : MethodName) prog_2_method_7_code (4 : Nat) (Option.none : Option FieldType) ∈ ztbl := zg (zt_2 (List.mem_of_getElem? (i := 4) rfl)) rfl
set_option maxRecDepth 20000 in
theorem zs_X0_settle : Cond.selects "AnswerSquare$Duchy" ({ cls := "AnswerSquare$Duchy", name := "settle", desc := "()V" } : MethodName) ({ cls := "AnswerSquare$Duchy", name := "settle", desc := "()V" } : MethodName) ∈ ztbl := zg (List.mem_append_left _ (List.mem_map.mpr ⟨_, (show _ ∈ lw_privs_1 ++ (lw_privs_2 ++ (lw_privs_3 ++ (lw_privs_4 ++ (lw_privs_5 ++ (lw_privs_6))))) from List.mem_append_left _ (List.mem_of_getElem? (i := 11) rfl)), rfl⟩)) rfl
set_option maxRecDepth 20000 in
set_option maxRecDepth 20000 in
theorem zm_2_3 : Cond.instanceMethod ({ cls := "AnswerSquare$Duchy", name := "settle", desc := "()V" } : MethodName) ∈ ztbl := zg (zt_2 (List.mem_of_getElem? (i := 3) rfl)) rfl
theorem zy_X0_settle : zYv mX0_settle 0 := ⟨zm_2_4, zm_1_3, zm_2_3, zs_X0_settle, ⟨by decide +kernel, by decide +kernel⟩, by decide +kernel, by decide⟩
def mX1_reset : ZM := (yX1_reset, cX1_reset, 1, none)
set_option maxRecDepth 20000 in
theorem zm_2_8 : Cond.code ({ cls := "AnswerSquare$Moment", name := "reset", desc := "()V" } : MethodName) prog_3_method_2_code (1 : Nat) (Option.none : Option FieldType) ∈ ztbl := zg (zt_2 (List.mem_of_getElem? (i := 8) rfl)) rfl
set_option maxRecDepth 20000 in
theorem zs_X1_reset : Cond.selects "AnswerSquare$Moment" ({ cls := "AnswerSquare$Moment", name := "reset", desc := "()V" } : MethodName) ({ cls := "AnswerSquare$Moment", name := "reset", desc := "()V" } : MethodName) ∈ ztbl := zg (List.mem_append_left _ (List.mem_map.mpr ⟨_, (show _ ∈ lw_privs_1 ++ (lw_privs_2 ++ (lw_privs_3 ++ (lw_privs_4 ++ (lw_privs_5 ++ (lw_privs_6))))) from List.mem_append_left _ (List.mem_of_getElem? (i := 12) rfl)), rfl⟩)) rfl
set_option maxRecDepth 20000 in
set_option maxRecDepth 20000 in
theorem zm_1_4 : Cond.initialized "AnswerSquare$Moment" ∈ ztbl := zg (zt_1 (List.mem_of_getElem? (i := 4) rfl)) rfl
set_option maxRecDepth 20000 in
theorem zm_2_7 : Cond.instanceMethod ({ cls := "AnswerSquare$Moment", name := "reset", desc := "()V" } : MethodName) ∈ ztbl := zg (zt_2 (List.mem_of_getElem? (i := 7) rfl)) rfl
theorem zy_X1_reset : zYv mX1_reset 0 := ⟨zm_2_8, zm_1_4, zm_2_7, zs_X1_reset, ⟨by decide +kernel, by decide +kernel⟩, by decide +kernel, by decide⟩
def mX3_tellNothing : ZM := (yX3_tellNothing, cX3_tellNothing, 2, none)
set_option maxRecDepth 20000 in
theorem zm_2_12 : Cond.code ({ cls := "AnswerSquare", name := "tellNothing", desc := "()V" } : MethodName) prog_1_method_28_code (2 : Nat) (Option.none : Option FieldType) ∈ ztbl := zg (zt_2 (List.mem_of_getElem? (i := 12) rfl)) rfl
set_option maxRecDepth 20000 in
theorem zs_X3_tellNothing : Cond.selects "AnswerSquare" ({ cls := "AnswerSquare", name := "tellNothing", desc := "()V" } : MethodName) ({ cls := "AnswerSquare", name := "tellNothing", desc := "()V" } : MethodName) ∈ ztbl := zg (List.mem_append_left _ (List.mem_map.mpr ⟨_, (show _ ∈ lw_privs_1 ++ (lw_privs_2 ++ (lw_privs_3 ++ (lw_privs_4 ++ (lw_privs_5 ++ (lw_privs_6))))) from List.mem_append_left _ (List.mem_of_getElem? (i := 13) rfl)), rfl⟩)) rfl
set_option maxRecDepth 20000 in
set_option maxRecDepth 20000 in
theorem zm_2_11 : Cond.instanceMethod ({ cls := "AnswerSquare", name := "tellNothing", desc := "()V" } : MethodName) ∈ ztbl := zg (zt_2 (List.mem_of_getElem? (i := 11) rfl)) rfl
theorem zy_X3_tellNothing : zYv mX3_tellNothing 0 := ⟨zm_2_12, zm_1_1, zm_2_11, zs_X3_tellNothing, ⟨by decide +kernel, by decide +kernel⟩, by decide +kernel, by decide⟩
def mX3_saying : ZM := (yX3_saying, cX3_saying, 3, (some (FieldType.int)))
set_option maxRecDepth 20000 in
theorem zm_2_16 : Cond.code ({ cls := "AnswerSquare", name := "saying", desc := "(II)I" } : MethodName) prog_1_method_5_code (3 : Nat) (Option.some FieldType.int) ∈ ztbl := zg (zt_2 (List.mem_of_getElem? (i := 16) rfl)) rfl
set_option maxRecDepth 20000 in
theorem zm_2_15 : Cond.selects "AnswerSquare" ({ cls := "AnswerSquare", name := "saying", desc := "(II)I" } : MethodName) ({ cls := "AnswerSquare", name := "saying", desc := "(II)I" } : MethodName) ∈ ztbl := zg (zt_2 (List.mem_of_getElem? (i := 15) rfl)) rfl
set_option maxRecDepth 20000 in
set_option maxRecDepth 20000 in
theorem zm_2_14 : Cond.instanceMethod ({ cls := "AnswerSquare", name := "saying", desc := "(II)I" } : MethodName) ∈ ztbl := zg (zt_2 (List.mem_of_getElem? (i := 14) rfl)) rfl
theorem zy_X3_saying : zYv mX3_saying 2 := ⟨zm_2_16, zm_1_1, zm_2_14, zm_2_15, ⟨by decide +kernel, by decide +kernel⟩, by decide +kernel, by decide⟩
def mX0_hasSaying : ZM := (yX0_hasSaying, cX0_hasSaying, 2, (some (FieldType.boolean)))
set_option maxRecDepth 20000 in
theorem zm_2_20 : Cond.code ({ cls := "AnswerSquare$Duchy", name := "hasSaying", desc := "(I)Z" } : MethodName) prog_2_method_8_code (2 : Nat) (Option.some FieldType.boolean) ∈ ztbl := zg (zt_2 (List.mem_of_getElem? (i := 20) rfl)) rfl
set_option maxRecDepth 20000 in
theorem zs_X0_hasSaying : Cond.selects "AnswerSquare$Duchy" ({ cls := "AnswerSquare$Duchy", name := "hasSaying", desc := "(I)Z" } : MethodName) ({ cls := "AnswerSquare$Duchy", name := "hasSaying", desc := "(I)Z" } : MethodName) ∈ ztbl := zg (List.mem_append_left _ (List.mem_map.mpr ⟨_, (show _ ∈ lw_privs_1 ++ (lw_privs_2 ++ (lw_privs_3 ++ (lw_privs_4 ++ (lw_privs_5 ++ (lw_privs_6))))) from List.mem_append_left _ (List.mem_of_getElem? (i := 14) rfl)), rfl⟩)) rfl
set_option maxRecDepth 20000 in
set_option maxRecDepth 20000 in
theorem zm_2_19 : Cond.instanceMethod ({ cls := "AnswerSquare$Duchy", name := "hasSaying", desc := "(I)Z" } : MethodName) ∈ ztbl := zg (zt_2 (List.mem_of_getElem? (i := 19) rfl)) rfl
theorem zy_X0_hasSaying : zYv mX0_hasSaying 1 := ⟨zm_2_20, zm_1_3, zm_2_19, zs_X0_hasSaying, ⟨by decide +kernel, by decide +kernel⟩, by decide +kernel, by decide⟩
def mX0_isSound : ZM := (yX0_isSound, cX0_isSound, 2, (some (FieldType.boolean)))
set_option maxRecDepth 20000 in
theorem zm_2_24 : Cond.code ({ cls := "AnswerSquare$Duchy", name := "isSound", desc := "(I)Z" } : MethodName) prog_2_method_11_code (2 : Nat) (Option.some FieldType.boolean) ∈ ztbl := zg (zt_2 (List.mem_of_getElem? (i := 24) rfl)) rfl
set_option maxRecDepth 20000 in
theorem zs_X0_isSound : Cond.selects "AnswerSquare$Duchy" ({ cls := "AnswerSquare$Duchy", name := "isSound", desc := "(I)Z" } : MethodName) ({ cls := "AnswerSquare$Duchy", name := "isSound", desc := "(I)Z" } : MethodName) ∈ ztbl := zg (List.mem_append_left _ (List.mem_map.mpr ⟨_, (show _ ∈ lw_privs_1 ++ (lw_privs_2 ++ (lw_privs_3 ++ (lw_privs_4 ++ (lw_privs_5 ++ (lw_privs_6))))) from List.mem_append_left _ (List.mem_of_getElem? (i := 15) rfl)), rfl⟩)) rfl
set_option maxRecDepth 20000 in
set_option maxRecDepth 20000 in
theorem zm_2_23 : Cond.instanceMethod ({ cls := "AnswerSquare$Duchy", name := "isSound", desc := "(I)Z" } : MethodName) ∈ ztbl := zg (zt_2 (List.mem_of_getElem? (i := 23) rfl)) rfl
theorem zy_X0_isSound : zYv mX0_isSound 1 := ⟨zm_2_24, zm_1_3, zm_2_23, zs_X0_isSound, ⟨by decide +kernel, by decide +kernel⟩, by decide +kernel, by decide⟩
def mX0_knowers : ZM := (yX0_knowers, cX0_knowers, 4, (some (FieldType.int)))
set_option maxRecDepth 20000 in
theorem zm_2_28 : Cond.code ({ cls := "AnswerSquare$Duchy", name := "knowers", desc := "(I)I" } : MethodName) prog_2_method_14_code (4 : Nat) (Option.some FieldType.int) ∈ ztbl := zg (zt_2 (List.mem_of_getElem? (i := 28) rfl)) rfl
set_option maxRecDepth 20000 in
theorem zs_X0_knowers : Cond.selects "AnswerSquare$Duchy" ({ cls := "AnswerSquare$Duchy", name := "knowers", desc := "(I)I" } : MethodName) ({ cls := "AnswerSquare$Duchy", name := "knowers", desc := "(I)I" } : MethodName) ∈ ztbl := zg (List.mem_append_left _ (List.mem_map.mpr ⟨_, (show _ ∈ lw_privs_1 ++ (lw_privs_2 ++ (lw_privs_3 ++ (lw_privs_4 ++ (lw_privs_5 ++ (lw_privs_6))))) from List.mem_append_right _ (List.mem_append_left _ (List.mem_of_getElem? (i := 0) rfl))), rfl⟩)) rfl
set_option maxRecDepth 20000 in
set_option maxRecDepth 20000 in
theorem zm_2_27 : Cond.instanceMethod ({ cls := "AnswerSquare$Duchy", name := "knowers", desc := "(I)I" } : MethodName) ∈ ztbl := zg (zt_2 (List.mem_of_getElem? (i := 27) rfl)) rfl
theorem zy_X0_knowers : zYv mX0_knowers 1 := ⟨zm_2_28, zm_1_3, zm_2_27, zs_X0_knowers, ⟨by decide +kernel, by decide +kernel⟩, by decide +kernel, by decide⟩
def mX1_timesIn : ZM := (yX1_timesIn, cX1_timesIn, 4, (some (FieldType.int)))
set_option maxRecDepth 20000 in
theorem zm_2_32 : Cond.code ({ cls := "AnswerSquare$Moment", name := "timesIn", desc := "(I)I" } : MethodName) prog_3_method_9_code (4 : Nat) (Option.some FieldType.int) ∈ ztbl := zg (zt_2 (List.mem_of_getElem? (i := 32) rfl)) rfl
set_option maxRecDepth 20000 in
theorem zs_X1_timesIn : Cond.selects "AnswerSquare$Moment" ({ cls := "AnswerSquare$Moment", name := "timesIn", desc := "(I)I" } : MethodName) ({ cls := "AnswerSquare$Moment", name := "timesIn", desc := "(I)I" } : MethodName) ∈ ztbl := zg (List.mem_append_left _ (List.mem_map.mpr ⟨_, (show _ ∈ lw_privs_1 ++ (lw_privs_2 ++ (lw_privs_3 ++ (lw_privs_4 ++ (lw_privs_5 ++ (lw_privs_6))))) from List.mem_append_right _ (List.mem_append_left _ (List.mem_of_getElem? (i := 1) rfl))), rfl⟩)) rfl
set_option maxRecDepth 20000 in
set_option maxRecDepth 20000 in
theorem zm_2_31 : Cond.instanceMethod ({ cls := "AnswerSquare$Moment", name := "timesIn", desc := "(I)I" } : MethodName) ∈ ztbl := zg (zt_2 (List.mem_of_getElem? (i := 31) rfl)) rfl
theorem zy_X1_timesIn : zYv mX1_timesIn 1 := ⟨zm_2_32, zm_1_4, zm_2_31, zs_X1_timesIn, ⟨by decide +kernel, by decide +kernel⟩, by decide +kernel, by decide⟩
def mX3_person : ZM := (yX3_person, cX3_person, 3, (some (FieldType.int)))
set_option maxRecDepth 20000 in
theorem zm_2_36 : Cond.code ({ cls := "AnswerSquare", name := "person", desc := "(II)I" } : MethodName) prog_1_method_6_code (3 : Nat) (Option.some FieldType.int) ∈ ztbl := zg (zt_2 (List.mem_of_getElem? (i := 36) rfl)) rfl
set_option maxRecDepth 20000 in
theorem zm_2_35 : Cond.selects "AnswerSquare" ({ cls := "AnswerSquare", name := "person", desc := "(II)I" } : MethodName) ({ cls := "AnswerSquare", name := "person", desc := "(II)I" } : MethodName) ∈ ztbl := zg (zt_2 (List.mem_of_getElem? (i := 35) rfl)) rfl
set_option maxRecDepth 20000 in
set_option maxRecDepth 20000 in
theorem zm_2_34 : Cond.instanceMethod ({ cls := "AnswerSquare", name := "person", desc := "(II)I" } : MethodName) ∈ ztbl := zg (zt_2 (List.mem_of_getElem? (i := 34) rfl)) rfl
theorem zy_X3_person : zYv mX3_person 2 := ⟨zm_2_36, zm_1_1, zm_2_34, zm_2_35, ⟨by decide +kernel, by decide +kernel⟩, by decide +kernel, by decide⟩
def mX0_hasPerson : ZM := (yX0_hasPerson, cX0_hasPerson, 2, (some (FieldType.boolean)))
set_option maxRecDepth 20000 in
theorem zm_2_40 : Cond.code ({ cls := "AnswerSquare$Duchy", name := "hasPerson", desc := "(I)Z" } : MethodName) prog_2_method_9_code (2 : Nat) (Option.some FieldType.boolean) ∈ ztbl := zg (zt_2 (List.mem_of_getElem? (i := 40) rfl)) rfl
set_option maxRecDepth 20000 in
theorem zs_X0_hasPerson : Cond.selects "AnswerSquare$Duchy" ({ cls := "AnswerSquare$Duchy", name := "hasPerson", desc := "(I)Z" } : MethodName) ({ cls := "AnswerSquare$Duchy", name := "hasPerson", desc := "(I)Z" } : MethodName) ∈ ztbl := zg (List.mem_append_left _ (List.mem_map.mpr ⟨_, (show _ ∈ lw_privs_1 ++ (lw_privs_2 ++ (lw_privs_3 ++ (lw_privs_4 ++ (lw_privs_5 ++ (lw_privs_6))))) from List.mem_append_right _ (List.mem_append_left _ (List.mem_of_getElem? (i := 2) rfl))), rfl⟩)) rfl
set_option maxRecDepth 20000 in
set_option maxRecDepth 20000 in
theorem zm_2_39 : Cond.instanceMethod ({ cls := "AnswerSquare$Duchy", name := "hasPerson", desc := "(I)Z" } : MethodName) ∈ ztbl := zg (zt_2 (List.mem_of_getElem? (i := 39) rfl)) rfl
theorem zy_X0_hasPerson : zYv mX0_hasPerson 1 := ⟨zm_2_40, zm_1_3, zm_2_39, zs_X0_hasPerson, ⟨by decide +kernel, by decide +kernel⟩, by decide +kernel, by decide⟩
def mX3_thereNow : ZM := (yX3_thereNow, cX3_thereNow, 1, (some (FieldType.int)))
set_option maxRecDepth 20000 in
theorem zm_2_44 : Cond.code ({ cls := "AnswerSquare", name := "thereNow", desc := "()I" } : MethodName) prog_1_method_14_code (1 : Nat) (Option.some FieldType.int) ∈ ztbl := zg (zt_2 (List.mem_of_getElem? (i := 44) rfl)) rfl
set_option maxRecDepth 20000 in
theorem zs_X3_thereNow : Cond.selects "AnswerSquare" ({ cls := "AnswerSquare", name := "thereNow", desc := "()I" } : MethodName) ({ cls := "AnswerSquare", name := "thereNow", desc := "()I" } : MethodName) ∈ ztbl := zg (List.mem_append_left _ (List.mem_map.mpr ⟨_, (show _ ∈ lw_privs_1 ++ (lw_privs_2 ++ (lw_privs_3 ++ (lw_privs_4 ++ (lw_privs_5 ++ (lw_privs_6))))) from List.mem_append_right _ (List.mem_append_left _ (List.mem_of_getElem? (i := 3) rfl))), rfl⟩)) rfl
set_option maxRecDepth 20000 in
set_option maxRecDepth 20000 in
theorem zm_2_43 : Cond.instanceMethod ({ cls := "AnswerSquare", name := "thereNow", desc := "()I" } : MethodName) ∈ ztbl := zg (zt_2 (List.mem_of_getElem? (i := 43) rfl)) rfl
theorem zy_X3_thereNow : zYv mX3_thereNow 0 := ⟨zm_2_44, zm_1_1, zm_2_43, zs_X3_thereNow, ⟨by decide +kernel, by decide +kernel⟩, by decide +kernel, by decide⟩
def mX1_there : ZM := (yX1_there, cX1_there, 5, (some (FieldType.int)))
set_option maxRecDepth 20000 in
theorem zm_2_48 : Cond.code ({ cls := "AnswerSquare$Moment", name := "there", desc := "(II)I" } : MethodName) prog_3_method_14_code (5 : Nat) (Option.some FieldType.int) ∈ ztbl := zg (zt_2 (List.mem_of_getElem? (i := 48) rfl)) rfl
set_option maxRecDepth 20000 in
theorem zs_X1_there : Cond.selects "AnswerSquare$Moment" ({ cls := "AnswerSquare$Moment", name := "there", desc := "(II)I" } : MethodName) ({ cls := "AnswerSquare$Moment", name := "there", desc := "(II)I" } : MethodName) ∈ ztbl := zg (List.mem_append_left _ (List.mem_map.mpr ⟨_, (show _ ∈ lw_privs_1 ++ (lw_privs_2 ++ (lw_privs_3 ++ (lw_privs_4 ++ (lw_privs_5 ++ (lw_privs_6))))) from List.mem_append_right _ (List.mem_append_left _ (List.mem_of_getElem? (i := 4) rfl))), rfl⟩)) rfl
set_option maxRecDepth 20000 in
set_option maxRecDepth 20000 in
theorem zm_2_47 : Cond.instanceMethod ({ cls := "AnswerSquare$Moment", name := "there", desc := "(II)I" } : MethodName) ∈ ztbl := zg (zt_2 (List.mem_of_getElem? (i := 47) rfl)) rfl
theorem zy_X1_there : zYv mX1_there 2 := ⟨zm_2_48, zm_1_4, zm_2_47, zs_X1_there, ⟨by decide +kernel, by decide +kernel⟩, by decide +kernel, by decide⟩
def mX1_isThere : ZM := (yX1_isThere, cX1_isThere, 4, (some (FieldType.boolean)))
set_option maxRecDepth 20000 in
theorem zm_2_52 : Cond.code ({ cls := "AnswerSquare$Moment", name := "isThere", desc := "(III)Z" } : MethodName) prog_3_method_13_code (4 : Nat) (Option.some FieldType.boolean) ∈ ztbl := zg (zt_2 (List.mem_of_getElem? (i := 52) rfl)) rfl
set_option maxRecDepth 20000 in
theorem zs_X1_isThere : Cond.selects "AnswerSquare$Moment" ({ cls := "AnswerSquare$Moment", name := "isThere", desc := "(III)Z" } : MethodName) ({ cls := "AnswerSquare$Moment", name := "isThere", desc := "(III)Z" } : MethodName) ∈ ztbl := zg (List.mem_append_left _ (List.mem_map.mpr ⟨_, (show _ ∈ lw_privs_1 ++ (lw_privs_2 ++ (lw_privs_3 ++ (lw_privs_4 ++ (lw_privs_5 ++ (lw_privs_6))))) from List.mem_append_right _ (List.mem_append_left _ (List.mem_of_getElem? (i := 5) rfl))), rfl⟩)) rfl
set_option maxRecDepth 20000 in
set_option maxRecDepth 20000 in
theorem zm_2_51 : Cond.instanceMethod ({ cls := "AnswerSquare$Moment", name := "isThere", desc := "(III)Z" } : MethodName) ∈ ztbl := zg (zt_2 (List.mem_of_getElem? (i := 51) rfl)) rfl
theorem zy_X1_isThere : zYv mX1_isThere 3 := ⟨zm_2_52, zm_1_4, zm_2_51, zs_X1_isThere, ⟨by decide +kernel, by decide +kernel⟩, by decide +kernel, by decide⟩
def mX1_has : ZM := (yX1_has, cX1_has, 2, (some (FieldType.boolean)))
set_option maxRecDepth 20000 in
theorem zm_2_56 : Cond.code ({ cls := "AnswerSquare$Moment", name := "has", desc := "(I)Z" } : MethodName) prog_3_method_4_code (2 : Nat) (Option.some FieldType.boolean) ∈ ztbl := zg (zt_2 (List.mem_of_getElem? (i := 56) rfl)) rfl
set_option maxRecDepth 20000 in
theorem zs_X1_has : Cond.selects "AnswerSquare$Moment" ({ cls := "AnswerSquare$Moment", name := "has", desc := "(I)Z" } : MethodName) ({ cls := "AnswerSquare$Moment", name := "has", desc := "(I)Z" } : MethodName) ∈ ztbl := zg (List.mem_append_left _ (List.mem_map.mpr ⟨_, (show _ ∈ lw_privs_1 ++ (lw_privs_2 ++ (lw_privs_3 ++ (lw_privs_4 ++ (lw_privs_5 ++ (lw_privs_6))))) from List.mem_append_right _ (List.mem_append_left _ (List.mem_of_getElem? (i := 6) rfl))), rfl⟩)) rfl
set_option maxRecDepth 20000 in
set_option maxRecDepth 20000 in
theorem zm_2_55 : Cond.instanceMethod ({ cls := "AnswerSquare$Moment", name := "has", desc := "(I)Z" } : MethodName) ∈ ztbl := zg (zt_2 (List.mem_of_getElem? (i := 55) rfl)) rfl
theorem zy_X1_has : zYv mX1_has 1 := ⟨zm_2_56, zm_1_4, zm_2_55, zs_X1_has, ⟨by decide +kernel, by decide +kernel⟩, by decide +kernel, by decide⟩
def mX0_answering : ZM := (yX0_answering, cX0_answering, 4, (some (FieldType.int)))
set_option maxRecDepth 20000 in
theorem zm_2_60 : Cond.code ({ cls := "AnswerSquare$Duchy", name := "answering", desc := "(I)I" } : MethodName) prog_2_method_15_code (4 : Nat) (Option.some FieldType.int) ∈ ztbl := zg (zt_2 (List.mem_of_getElem? (i := 60) rfl)) rfl
set_option maxRecDepth 20000 in
theorem zs_X0_answering : Cond.selects "AnswerSquare$Duchy" ({ cls := "AnswerSquare$Duchy", name := "answering", desc := "(I)I" } : MethodName) ({ cls := "AnswerSquare$Duchy", name := "answering", desc := "(I)I" } : MethodName) ∈ ztbl := zg (List.mem_append_left _ (List.mem_map.mpr ⟨_, (show _ ∈ lw_privs_1 ++ (lw_privs_2 ++ (lw_privs_3 ++ (lw_privs_4 ++ (lw_privs_5 ++ (lw_privs_6))))) from List.mem_append_right _ (List.mem_append_left _ (List.mem_of_getElem? (i := 7) rfl))), rfl⟩)) rfl
set_option maxRecDepth 20000 in
set_option maxRecDepth 20000 in
theorem zm_2_59 : Cond.instanceMethod ({ cls := "AnswerSquare$Duchy", name := "answering", desc := "(I)I" } : MethodName) ∈ ztbl := zg (zt_2 (List.mem_of_getElem? (i := 59) rfl)) rfl
theorem zy_X0_answering : zYv mX0_answering 1 := ⟨zm_2_60, zm_1_3, zm_2_59, zs_X0_answering, ⟨by decide +kernel, by decide +kernel⟩, by decide +kernel, by decide⟩
def mX0_canAnswer : ZM := (yX0_canAnswer, cX0_canAnswer, 3, (some (FieldType.boolean)))
set_option maxRecDepth 20000 in
theorem zm_2_64 : Cond.code ({ cls := "AnswerSquare$Duchy", name := "canAnswer", desc := "(II)Z" } : MethodName) prog_2_method_16_code (3 : Nat) (Option.some FieldType.boolean) ∈ ztbl := zg (zt_2 (List.mem_of_getElem? (i := 64) rfl)) rfl
set_option maxRecDepth 20000 in
theorem zs_X0_canAnswer : Cond.selects "AnswerSquare$Duchy" ({ cls := "AnswerSquare$Duchy", name := "canAnswer", desc := "(II)Z" } : MethodName) ({ cls := "AnswerSquare$Duchy", name := "canAnswer", desc := "(II)Z" } : MethodName) ∈ ztbl := zg (List.mem_append_left _ (List.mem_map.mpr ⟨_, (show _ ∈ lw_privs_1 ++ (lw_privs_2 ++ (lw_privs_3 ++ (lw_privs_4 ++ (lw_privs_5 ++ (lw_privs_6))))) from List.mem_append_right _ (List.mem_append_left _ (List.mem_of_getElem? (i := 8) rfl))), rfl⟩)) rfl
set_option maxRecDepth 20000 in
set_option maxRecDepth 20000 in
theorem zm_2_63 : Cond.instanceMethod ({ cls := "AnswerSquare$Duchy", name := "canAnswer", desc := "(II)Z" } : MethodName) ∈ ztbl := zg (zt_2 (List.mem_of_getElem? (i := 63) rfl)) rfl
theorem zy_X0_canAnswer : zYv mX0_canAnswer 2 := ⟨zm_2_64, zm_1_3, zm_2_63, zs_X0_canAnswer, ⟨by decide +kernel, by decide +kernel⟩, by decide +kernel, by decide⟩
def mX1_timesBy : ZM := (yX1_timesBy, cX1_timesBy, 4, (some (FieldType.int)))
set_option maxRecDepth 20000 in
theorem zm_2_69 : Cond.code ({ cls := "AnswerSquare$Moment", name := "timesBy", desc := "(I)I" } : MethodName) prog_3_method_10_code (4 : Nat) (Option.some FieldType.int) ∈ ztbl := zg (zt_2 (List.mem_of_getElem? (i := 69) rfl)) rfl
set_option maxRecDepth 20000 in
theorem zs_X1_timesBy : Cond.selects "AnswerSquare$Moment" ({ cls := "AnswerSquare$Moment", name := "timesBy", desc := "(I)I" } : MethodName) ({ cls := "AnswerSquare$Moment", name := "timesBy", desc := "(I)I" } : MethodName) ∈ ztbl := zg (List.mem_append_left _ (List.mem_map.mpr ⟨_, (show _ ∈ lw_privs_1 ++ (lw_privs_2 ++ (lw_privs_3 ++ (lw_privs_4 ++ (lw_privs_5 ++ (lw_privs_6))))) from List.mem_append_right _ (List.mem_append_left _ (List.mem_of_getElem? (i := 9) rfl))), rfl⟩)) rfl
set_option maxRecDepth 20000 in
set_option maxRecDepth 20000 in
theorem zm_2_68 : Cond.instanceMethod ({ cls := "AnswerSquare$Moment", name := "timesBy", desc := "(I)I" } : MethodName) ∈ ztbl := zg (zt_2 (List.mem_of_getElem? (i := 68) rfl)) rfl
theorem zy_X1_timesBy : zYv mX1_timesBy 1 := ⟨zm_2_69, zm_1_4, zm_2_68, zs_X1_timesBy, ⟨by decide +kernel, by decide +kernel⟩, by decide +kernel, by decide⟩
def mX3_talk : ZM := (yX3_talk, cX3_talk, 3, (some (FieldType.int)))
set_option maxRecDepth 20000 in
theorem zm_2_73 : Cond.code ({ cls := "AnswerSquare", name := "talk", desc := "(II)I" } : MethodName) prog_1_method_7_code (3 : Nat) (Option.some FieldType.int) ∈ ztbl := zg (zt_2 (List.mem_of_getElem? (i := 73) rfl)) rfl
set_option maxRecDepth 20000 in
theorem zm_2_72 : Cond.selects "AnswerSquare" ({ cls := "AnswerSquare", name := "talk", desc := "(II)I" } : MethodName) ({ cls := "AnswerSquare", name := "talk", desc := "(II)I" } : MethodName) ∈ ztbl := zg (zt_2 (List.mem_of_getElem? (i := 72) rfl)) rfl
set_option maxRecDepth 20000 in
set_option maxRecDepth 20000 in
theorem zm_2_71 : Cond.instanceMethod ({ cls := "AnswerSquare", name := "talk", desc := "(II)I" } : MethodName) ∈ ztbl := zg (zt_2 (List.mem_of_getElem? (i := 71) rfl)) rfl
theorem zy_X3_talk : zYv mX3_talk 2 := ⟨zm_2_73, zm_1_1, zm_2_71, zm_2_72, ⟨by decide +kernel, by decide +kernel⟩, by decide +kernel, by decide⟩
def mX1_isOpen : ZM := (yX1_isOpen, cX1_isOpen, 2, (some (FieldType.boolean)))
set_option maxRecDepth 20000 in
theorem zm_2_78 : Cond.code ({ cls := "AnswerSquare$Moment", name := "isOpen", desc := "(I)Z" } : MethodName) prog_3_method_11_code (2 : Nat) (Option.some FieldType.boolean) ∈ ztbl := zg (zt_2 (List.mem_of_getElem? (i := 78) rfl)) rfl
set_option maxRecDepth 20000 in
theorem zs_X1_isOpen : Cond.selects "AnswerSquare$Moment" ({ cls := "AnswerSquare$Moment", name := "isOpen", desc := "(I)Z" } : MethodName) ({ cls := "AnswerSquare$Moment", name := "isOpen", desc := "(I)Z" } : MethodName) ∈ ztbl := zg (List.mem_append_left _ (List.mem_map.mpr ⟨_, (show _ ∈ lw_privs_1 ++ (lw_privs_2 ++ (lw_privs_3 ++ (lw_privs_4 ++ (lw_privs_5 ++ (lw_privs_6))))) from List.mem_append_right _ (List.mem_append_left _ (List.mem_of_getElem? (i := 10) rfl))), rfl⟩)) rfl
set_option maxRecDepth 20000 in
set_option maxRecDepth 20000 in
theorem zm_2_77 : Cond.instanceMethod ({ cls := "AnswerSquare$Moment", name := "isOpen", desc := "(I)Z" } : MethodName) ∈ ztbl := zg (zt_2 (List.mem_of_getElem? (i := 77) rfl)) rfl
theorem zy_X1_isOpen : zYv mX1_isOpen 1 := ⟨zm_2_78, zm_1_4, zm_2_77, zs_X1_isOpen, ⟨by decide +kernel, by decide +kernel⟩, by decide +kernel, by decide⟩
def mX1_firstAnswerTo : ZM := (yX1_firstAnswerTo, cX1_firstAnswerTo, 3, (some (FieldType.int)))
set_option maxRecDepth 20000 in
theorem zm_2_82 : Cond.code ({ cls := "AnswerSquare$Moment", name := "firstAnswerTo", desc := "(I)I" } : MethodName) prog_3_method_12_code (3 : Nat) (Option.some FieldType.int) ∈ ztbl := zg (zt_2 (List.mem_of_getElem? (i := 82) rfl)) rfl
set_option maxRecDepth 20000 in
theorem zs_X1_firstAnswerTo : Cond.selects "AnswerSquare$Moment" ({ cls := "AnswerSquare$Moment", name := "firstAnswerTo", desc := "(I)I" } : MethodName) ({ cls := "AnswerSquare$Moment", name := "firstAnswerTo", desc := "(I)I" } : MethodName) ∈ ztbl := zg (List.mem_append_left _ (List.mem_map.mpr ⟨_, (show _ ∈ lw_privs_1 ++ (lw_privs_2 ++ (lw_privs_3 ++ (lw_privs_4 ++ (lw_privs_5 ++ (lw_privs_6))))) from List.mem_append_right _ (List.mem_append_left _ (List.mem_of_getElem? (i := 11) rfl))), rfl⟩)) rfl
set_option maxRecDepth 20000 in
set_option maxRecDepth 20000 in
theorem zm_2_81 : Cond.instanceMethod ({ cls := "AnswerSquare$Moment", name := "firstAnswerTo", desc := "(I)I" } : MethodName) ∈ ztbl := zg (zt_2 (List.mem_of_getElem? (i := 81) rfl)) rfl
theorem zy_X1_firstAnswerTo : zYv mX1_firstAnswerTo 1 := ⟨zm_2_82, zm_1_4, zm_2_81, zs_X1_firstAnswerTo, ⟨by decide +kernel, by decide +kernel⟩, by decide +kernel, by decide⟩
def mX3_hears : ZM := (yX3_hears, cX3_hears, 2, (some (FieldType.int)))
set_option maxRecDepth 20000 in
theorem zm_2_87 : Cond.code ({ cls := "AnswerSquare", name := "hears", desc := "(I)I" } : MethodName) prog_1_method_8_code (2 : Nat) (Option.some FieldType.int) ∈ ztbl := zg (zt_2 (List.mem_of_getElem? (i := 87) rfl)) rfl
set_option maxRecDepth 20000 in
theorem zm_2_86 : Cond.selects "AnswerSquare" ({ cls := "AnswerSquare", name := "hears", desc := "(I)I" } : MethodName) ({ cls := "AnswerSquare", name := "hears", desc := "(I)I" } : MethodName) ∈ ztbl := zg (zt_2 (List.mem_of_getElem? (i := 86) rfl)) rfl
set_option maxRecDepth 20000 in
set_option maxRecDepth 20000 in
theorem zm_2_85 : Cond.instanceMethod ({ cls := "AnswerSquare", name := "hears", desc := "(I)I" } : MethodName) ∈ ztbl := zg (zt_2 (List.mem_of_getElem? (i := 85) rfl)) rfl
theorem zy_X3_hears : zYv mX3_hears 1 := ⟨zm_2_87, zm_1_1, zm_2_85, zm_2_86, ⟨by decide +kernel, by decide +kernel⟩, by decide +kernel, by decide⟩
def mX1_add : ZM := (yX1_add, cX1_add, 4, (some (FieldType.boolean)))
set_option maxRecDepth 20000 in
theorem zm_2_91 : Cond.code ({ cls := "AnswerSquare$Moment", name := "add", desc := "(III)Z" } : MethodName) prog_3_method_5_code (4 : Nat) (Option.some FieldType.boolean) ∈ ztbl := zg (zt_2 (List.mem_of_getElem? (i := 91) rfl)) rfl
set_option maxRecDepth 20000 in
theorem zs_X1_add : Cond.selects "AnswerSquare$Moment" ({ cls := "AnswerSquare$Moment", name := "add", desc := "(III)Z" } : MethodName) ({ cls := "AnswerSquare$Moment", name := "add", desc := "(III)Z" } : MethodName) ∈ ztbl := zg (List.mem_append_left _ (List.mem_map.mpr ⟨_, (show _ ∈ lw_privs_1 ++ (lw_privs_2 ++ (lw_privs_3 ++ (lw_privs_4 ++ (lw_privs_5 ++ (lw_privs_6))))) from List.mem_append_right _ (List.mem_append_left _ (List.mem_of_getElem? (i := 12) rfl))), rfl⟩)) rfl
set_option maxRecDepth 20000 in
set_option maxRecDepth 20000 in
theorem zm_2_90 : Cond.instanceMethod ({ cls := "AnswerSquare$Moment", name := "add", desc := "(III)Z" } : MethodName) ∈ ztbl := zg (zt_2 (List.mem_of_getElem? (i := 90) rfl)) rfl
theorem zy_X1_add : zYv mX1_add 3 := ⟨zm_2_91, zm_1_4, zm_2_90, zs_X1_add, ⟨by decide +kernel, by decide +kernel⟩, by decide +kernel, by decide⟩
def mX1_remember : ZM := (yX1_remember, cX1_remember, 2, none)
set_option maxRecDepth 20000 in
theorem zm_2_95 : Cond.code ({ cls := "AnswerSquare$Moment", name := "remember", desc := "(I)V" } : MethodName) prog_3_method_7_code (2 : Nat) (Option.none : Option FieldType) ∈ ztbl := zg (zt_2 (List.mem_of_getElem? (i := 95) rfl)) rfl
set_option maxRecDepth 20000 in
theorem zs_X1_remember : Cond.selects "AnswerSquare$Moment" ({ cls := "AnswerSquare$Moment", name := "remember", desc := "(I)V" } : MethodName) ({ cls := "AnswerSquare$Moment", name := "remember", desc := "(I)V" } : MethodName) ∈ ztbl := zg (List.mem_append_left _ (List.mem_map.mpr ⟨_, (show _ ∈ lw_privs_1 ++ (lw_privs_2 ++ (lw_privs_3 ++ (lw_privs_4 ++ (lw_privs_5 ++ (lw_privs_6))))) from List.mem_append_right _ (List.mem_append_left _ (List.mem_of_getElem? (i := 13) rfl))), rfl⟩)) rfl
set_option maxRecDepth 20000 in
set_option maxRecDepth 20000 in
theorem zm_2_94 : Cond.instanceMethod ({ cls := "AnswerSquare$Moment", name := "remember", desc := "(I)V" } : MethodName) ∈ ztbl := zg (zt_2 (List.mem_of_getElem? (i := 94) rfl)) rfl
theorem zy_X1_remember : zYv mX1_remember 1 := ⟨zm_2_95, zm_1_4, zm_2_94, zs_X1_remember, ⟨by decide +kernel, by decide +kernel⟩, by decide +kernel, by decide⟩
def mX3_says : ZM := (yX3_says, cX3_says, 4, (some (FieldType.int)))
set_option maxRecDepth 20000 in
theorem zm_2_100 : Cond.code ({ cls := "AnswerSquare", name := "says", desc := "(II)I" } : MethodName) prog_1_method_9_code (4 : Nat) (Option.some FieldType.int) ∈ ztbl := zg (zt_2 (List.mem_of_getElem? (i := 100) rfl)) rfl
set_option maxRecDepth 20000 in
theorem zm_2_99 : Cond.selects "AnswerSquare" ({ cls := "AnswerSquare", name := "says", desc := "(II)I" } : MethodName) ({ cls := "AnswerSquare", name := "says", desc := "(II)I" } : MethodName) ∈ ztbl := zg (zt_2 (List.mem_of_getElem? (i := 99) rfl)) rfl
set_option maxRecDepth 20000 in
set_option maxRecDepth 20000 in
theorem zm_2_98 : Cond.instanceMethod ({ cls := "AnswerSquare", name := "says", desc := "(II)I" } : MethodName) ∈ ztbl := zg (zt_2 (List.mem_of_getElem? (i := 98) rfl)) rfl
theorem zy_X3_says : zYv mX3_says 2 := ⟨zm_2_100, zm_1_1, zm_2_98, zm_2_99, ⟨by decide +kernel, by decide +kernel⟩, by decide +kernel, by decide⟩
def mX1_latestOf : ZM := (yX1_latestOf, cX1_latestOf, 4, (some (FieldType.int)))
set_option maxRecDepth 20000 in
theorem zm_2_104 : Cond.code ({ cls := "AnswerSquare$Moment", name := "latestOf", desc := "(II)I" } : MethodName) prog_3_method_15_code (4 : Nat) (Option.some FieldType.int) ∈ ztbl := zg (zt_2 (List.mem_of_getElem? (i := 104) rfl)) rfl
set_option maxRecDepth 20000 in
theorem zs_X1_latestOf : Cond.selects "AnswerSquare$Moment" ({ cls := "AnswerSquare$Moment", name := "latestOf", desc := "(II)I" } : MethodName) ({ cls := "AnswerSquare$Moment", name := "latestOf", desc := "(II)I" } : MethodName) ∈ ztbl := zg (List.mem_append_left _ (List.mem_map.mpr ⟨_, (show _ ∈ lw_privs_1 ++ (lw_privs_2 ++ (lw_privs_3 ++ (lw_privs_4 ++ (lw_privs_5 ++ (lw_privs_6))))) from List.mem_append_right _ (List.mem_append_left _ (List.mem_of_getElem? (i := 14) rfl))), rfl⟩)) rfl
set_option maxRecDepth 20000 in
set_option maxRecDepth 20000 in
theorem zm_2_103 : Cond.instanceMethod ({ cls := "AnswerSquare$Moment", name := "latestOf", desc := "(II)I" } : MethodName) ∈ ztbl := zg (zt_2 (List.mem_of_getElem? (i := 103) rfl)) rfl
theorem zy_X1_latestOf : zYv mX1_latestOf 2 := ⟨zm_2_104, zm_1_4, zm_2_103, zs_X1_latestOf, ⟨by decide +kernel, by decide +kernel⟩, by decide +kernel, by decide⟩
def mX3_hour : ZM := (yX3_hour, cX3_hour, 1, (some (FieldType.int)))
set_option maxRecDepth 20000 in
theorem zm_2_108 : Cond.code ({ cls := "AnswerSquare", name := "hour", desc := "()I" } : MethodName) prog_1_method_10_code (1 : Nat) (Option.some FieldType.int) ∈ ztbl := zg (zt_2 (List.mem_of_getElem? (i := 108) rfl)) rfl
set_option maxRecDepth 20000 in
theorem zm_2_107 : Cond.selects "AnswerSquare" ({ cls := "AnswerSquare", name := "hour", desc := "()I" } : MethodName) ({ cls := "AnswerSquare", name := "hour", desc := "()I" } : MethodName) ∈ ztbl := zg (zt_2 (List.mem_of_getElem? (i := 107) rfl)) rfl
set_option maxRecDepth 20000 in
set_option maxRecDepth 20000 in
theorem zm_2_106 : Cond.instanceMethod ({ cls := "AnswerSquare", name := "hour", desc := "()I" } : MethodName) ∈ ztbl := zg (zt_2 (List.mem_of_getElem? (i := 106) rfl)) rfl
theorem zy_X3_hour : zYv mX3_hour 0 := ⟨zm_2_108, zm_1_1, zm_2_106, zm_2_107, ⟨by decide +kernel, by decide +kernel⟩, by decide +kernel, by decide⟩
def mX1_passHour : ZM := (yX1_passHour, cX1_passHour, 1, (some (FieldType.boolean)))
set_option maxRecDepth 20000 in
theorem zm_2_112 : Cond.code ({ cls := "AnswerSquare$Moment", name := "passHour", desc := "()Z" } : MethodName) prog_3_method_6_code (1 : Nat) (Option.some FieldType.boolean) ∈ ztbl := zg (zt_2 (List.mem_of_getElem? (i := 112) rfl)) rfl
set_option maxRecDepth 20000 in
theorem zs_X1_passHour : Cond.selects "AnswerSquare$Moment" ({ cls := "AnswerSquare$Moment", name := "passHour", desc := "()Z" } : MethodName) ({ cls := "AnswerSquare$Moment", name := "passHour", desc := "()Z" } : MethodName) ∈ ztbl := zg (List.mem_append_left _ (List.mem_map.mpr ⟨_, (show _ ∈ lw_privs_1 ++ (lw_privs_2 ++ (lw_privs_3 ++ (lw_privs_4 ++ (lw_privs_5 ++ (lw_privs_6))))) from List.mem_append_right _ (List.mem_append_left _ (List.mem_of_getElem? (i := 15) rfl))), rfl⟩)) rfl
set_option maxRecDepth 20000 in
set_option maxRecDepth 20000 in
theorem zm_2_111 : Cond.instanceMethod ({ cls := "AnswerSquare$Moment", name := "passHour", desc := "()Z" } : MethodName) ∈ ztbl := zg (zt_2 (List.mem_of_getElem? (i := 111) rfl)) rfl
theorem zy_X1_passHour : zYv mX1_passHour 0 := ⟨zm_2_112, zm_1_4, zm_2_111, zs_X1_passHour, ⟨by decide +kernel, by decide +kernel⟩, by decide +kernel, by decide⟩
def mX3_undo : ZM := (yX3_undo, cX3_undo, 1, (some (FieldType.int)))
set_option maxRecDepth 20000 in
theorem zm_2_116 : Cond.code ({ cls := "AnswerSquare", name := "undo", desc := "()I" } : MethodName) prog_1_method_11_code (1 : Nat) (Option.some FieldType.int) ∈ ztbl := zg (zt_2 (List.mem_of_getElem? (i := 116) rfl)) rfl
set_option maxRecDepth 20000 in
theorem zm_2_115 : Cond.selects "AnswerSquare" ({ cls := "AnswerSquare", name := "undo", desc := "()I" } : MethodName) ({ cls := "AnswerSquare", name := "undo", desc := "()I" } : MethodName) ∈ ztbl := zg (zt_2 (List.mem_of_getElem? (i := 115) rfl)) rfl
set_option maxRecDepth 20000 in
set_option maxRecDepth 20000 in
theorem zm_2_114 : Cond.instanceMethod ({ cls := "AnswerSquare", name := "undo", desc := "()I" } : MethodName) ∈ ztbl := zg (zt_2 (List.mem_of_getElem? (i := 114) rfl)) rfl
theorem zy_X3_undo : zYv mX3_undo 0 := ⟨zm_2_116, zm_1_1, zm_2_114, zm_2_115, ⟨by decide +kernel, by decide +kernel⟩, by decide +kernel, by decide⟩
def mX1_takeBack : ZM := (yX1_takeBack, cX1_takeBack, 1, (some (FieldType.boolean)))
set_option maxRecDepth 20000 in
theorem zm_2_120 : Cond.code ({ cls := "AnswerSquare$Moment", name := "takeBack", desc := "()Z" } : MethodName) prog_3_method_8_code (1 : Nat) (Option.some FieldType.boolean) ∈ ztbl := zg (zt_2 (List.mem_of_getElem? (i := 120) rfl)) rfl
set_option maxRecDepth 20000 in
theorem zs_X1_takeBack : Cond.selects "AnswerSquare$Moment" ({ cls := "AnswerSquare$Moment", name := "takeBack", desc := "()Z" } : MethodName) ({ cls := "AnswerSquare$Moment", name := "takeBack", desc := "()Z" } : MethodName) ∈ ztbl := zg (List.mem_append_left _ (List.mem_map.mpr ⟨_, (show _ ∈ lw_privs_1 ++ (lw_privs_2 ++ (lw_privs_3 ++ (lw_privs_4 ++ (lw_privs_5 ++ (lw_privs_6))))) from List.mem_append_right _ (List.mem_append_right _ (List.mem_append_left _ (List.mem_of_getElem? (i := 0) rfl)))), rfl⟩)) rfl
set_option maxRecDepth 20000 in
set_option maxRecDepth 20000 in
theorem zm_2_119 : Cond.instanceMethod ({ cls := "AnswerSquare$Moment", name := "takeBack", desc := "()Z" } : MethodName) ∈ ztbl := zg (zt_2 (List.mem_of_getElem? (i := 119) rfl)) rfl
theorem zy_X1_takeBack : zYv mX1_takeBack 0 := ⟨zm_2_120, zm_1_4, zm_2_119, zs_X1_takeBack, ⟨by decide +kernel, by decide +kernel⟩, by decide +kernel, by decide⟩
def mX3_now : ZM := (yX3_now, cX3_now, 2, (some (FieldType.int)))
set_option maxRecDepth 20000 in
theorem zm_2_124 : Cond.code ({ cls := "AnswerSquare", name := "now", desc := "(I)I" } : MethodName) prog_1_method_12_code (2 : Nat) (Option.some FieldType.int) ∈ ztbl := zg (zt_2 (List.mem_of_getElem? (i := 124) rfl)) rfl
set_option maxRecDepth 20000 in
theorem zm_2_123 : Cond.selects "AnswerSquare" ({ cls := "AnswerSquare", name := "now", desc := "(I)I" } : MethodName) ({ cls := "AnswerSquare", name := "now", desc := "(I)I" } : MethodName) ∈ ztbl := zg (zt_2 (List.mem_of_getElem? (i := 123) rfl)) rfl
set_option maxRecDepth 20000 in
set_option maxRecDepth 20000 in
theorem zm_2_122 : Cond.instanceMethod ({ cls := "AnswerSquare", name := "now", desc := "(I)I" } : MethodName) ∈ ztbl := zg (zt_2 (List.mem_of_getElem? (i := 122) rfl)) rfl
theorem zy_X3_now : zYv mX3_now 1 := ⟨zm_2_124, zm_1_1, zm_2_122, zm_2_123, ⟨by decide +kernel, by decide +kernel⟩, by decide +kernel, by decide⟩
def mX1_openOnes : ZM := (yX1_openOnes, cX1_openOnes, 3, (some (FieldType.int)))
set_option maxRecDepth 20000 in
theorem zm_2_128 : Cond.code ({ cls := "AnswerSquare$Moment", name := "openOnes", desc := "()I" } : MethodName) prog_3_method_16_code (3 : Nat) (Option.some FieldType.int) ∈ ztbl := zg (zt_2 (List.mem_of_getElem? (i := 128) rfl)) rfl
set_option maxRecDepth 20000 in
theorem zs_X1_openOnes : Cond.selects "AnswerSquare$Moment" ({ cls := "AnswerSquare$Moment", name := "openOnes", desc := "()I" } : MethodName) ({ cls := "AnswerSquare$Moment", name := "openOnes", desc := "()I" } : MethodName) ∈ ztbl := zg (List.mem_append_left _ (List.mem_map.mpr ⟨_, (show _ ∈ lw_privs_1 ++ (lw_privs_2 ++ (lw_privs_3 ++ (lw_privs_4 ++ (lw_privs_5 ++ (lw_privs_6))))) from List.mem_append_right _ (List.mem_append_right _ (List.mem_append_left _ (List.mem_of_getElem? (i := 1) rfl)))), rfl⟩)) rfl
set_option maxRecDepth 20000 in
set_option maxRecDepth 20000 in
theorem zm_2_127 : Cond.instanceMethod ({ cls := "AnswerSquare$Moment", name := "openOnes", desc := "()I" } : MethodName) ∈ ztbl := zg (zt_2 (List.mem_of_getElem? (i := 127) rfl)) rfl
theorem zy_X1_openOnes : zYv mX1_openOnes 0 := ⟨zm_2_128, zm_1_4, zm_2_127, zs_X1_openOnes, ⟨by decide +kernel, by decide +kernel⟩, by decide +kernel, by decide⟩
def mX1_farthest : ZM := (yX1_farthest, cX1_farthest, 3, (some (FieldType.int)))
set_option maxRecDepth 20000 in
theorem zm_2_133 : Cond.code ({ cls := "AnswerSquare$Moment", name := "farthest", desc := "()I" } : MethodName) prog_3_method_18_code (3 : Nat) (Option.some FieldType.int) ∈ ztbl := zg (zt_2 (List.mem_of_getElem? (i := 133) rfl)) rfl
set_option maxRecDepth 20000 in
theorem zs_X1_farthest : Cond.selects "AnswerSquare$Moment" ({ cls := "AnswerSquare$Moment", name := "farthest", desc := "()I" } : MethodName) ({ cls := "AnswerSquare$Moment", name := "farthest", desc := "()I" } : MethodName) ∈ ztbl := zg (List.mem_append_left _ (List.mem_map.mpr ⟨_, (show _ ∈ lw_privs_1 ++ (lw_privs_2 ++ (lw_privs_3 ++ (lw_privs_4 ++ (lw_privs_5 ++ (lw_privs_6))))) from List.mem_append_right _ (List.mem_append_right _ (List.mem_append_left _ (List.mem_of_getElem? (i := 2) rfl)))), rfl⟩)) rfl
set_option maxRecDepth 20000 in
set_option maxRecDepth 20000 in
theorem zm_2_132 : Cond.instanceMethod ({ cls := "AnswerSquare$Moment", name := "farthest", desc := "()I" } : MethodName) ∈ ztbl := zg (zt_2 (List.mem_of_getElem? (i := 132) rfl)) rfl
theorem zy_X1_farthest : zYv mX1_farthest 0 := ⟨zm_2_133, zm_1_4, zm_2_132, zs_X1_farthest, ⟨by decide +kernel, by decide +kernel⟩, by decide +kernel, by decide⟩
def mX1_lastOpen : ZM := (yX1_lastOpen, cX1_lastOpen, 2, (some (FieldType.int)))
set_option maxRecDepth 20000 in
theorem zm_2_137 : Cond.code ({ cls := "AnswerSquare$Moment", name := "lastOpen", desc := "()I" } : MethodName) prog_3_method_17_code (2 : Nat) (Option.some FieldType.int) ∈ ztbl := zg (zt_2 (List.mem_of_getElem? (i := 137) rfl)) rfl
set_option maxRecDepth 20000 in
theorem zs_X1_lastOpen : Cond.selects "AnswerSquare$Moment" ({ cls := "AnswerSquare$Moment", name := "lastOpen", desc := "()I" } : MethodName) ({ cls := "AnswerSquare$Moment", name := "lastOpen", desc := "()I" } : MethodName) ∈ ztbl := zg (List.mem_append_left _ (List.mem_map.mpr ⟨_, (show _ ∈ lw_privs_1 ++ (lw_privs_2 ++ (lw_privs_3 ++ (lw_privs_4 ++ (lw_privs_5 ++ (lw_privs_6))))) from List.mem_append_right _ (List.mem_append_right _ (List.mem_append_left _ (List.mem_of_getElem? (i := 3) rfl)))), rfl⟩)) rfl
set_option maxRecDepth 20000 in
set_option maxRecDepth 20000 in
theorem zm_2_136 : Cond.instanceMethod ({ cls := "AnswerSquare$Moment", name := "lastOpen", desc := "()I" } : MethodName) ∈ ztbl := zg (zt_2 (List.mem_of_getElem? (i := 136) rfl)) rfl
theorem zy_X1_lastOpen : zYv mX1_lastOpen 0 := ⟨zm_2_137, zm_1_4, zm_2_136, zs_X1_lastOpen, ⟨by decide +kernel, by decide +kernel⟩, by decide +kernel, by decide⟩
def mX1_firstAnswerers : ZM := (yX1_firstAnswerers, cX1_firstAnswerers, 4, (some (FieldType.int)))
set_option maxRecDepth 20000 in
theorem zm_2_141 : Cond.code ({ cls := "AnswerSquare$Moment", name := "firstAnswerers", desc := "()I" } : MethodName) prog_3_method_19_code (4 : Nat) (Option.some FieldType.int) ∈ ztbl := zg (zt_2 (List.mem_of_getElem? (i := 141) rfl)) rfl
set_option maxRecDepth 20000 in
theorem zs_X1_firstAnswerers : Cond.selects "AnswerSquare$Moment" ({ cls := "AnswerSquare$Moment", name := "firstAnswerers", desc := "()I" } : MethodName) ({ cls := "AnswerSquare$Moment", name := "firstAnswerers", desc := "()I" } : MethodName) ∈ ztbl := zg (List.mem_append_left _ (List.mem_map.mpr ⟨_, (show _ ∈ lw_privs_1 ++ (lw_privs_2 ++ (lw_privs_3 ++ (lw_privs_4 ++ (lw_privs_5 ++ (lw_privs_6))))) from List.mem_append_right _ (List.mem_append_right _ (List.mem_append_left _ (List.mem_of_getElem? (i := 4) rfl)))), rfl⟩)) rfl
set_option maxRecDepth 20000 in
set_option maxRecDepth 20000 in
theorem zm_2_140 : Cond.instanceMethod ({ cls := "AnswerSquare$Moment", name := "firstAnswerers", desc := "()I" } : MethodName) ∈ ztbl := zg (zt_2 (List.mem_of_getElem? (i := 140) rfl)) rfl
theorem zy_X1_firstAnswerers : zYv mX1_firstAnswerers 0 := ⟨zm_2_141, zm_1_4, zm_2_140, zs_X1_firstAnswerers, ⟨by decide +kernel, by decide +kernel⟩, by decide +kernel, by decide⟩
def mX3_hoursToSilence : ZM := (yX3_hoursToSilence, cX3_hoursToSilence, 2, (some (FieldType.int)))
set_option maxRecDepth 20000 in
theorem zm_2_145 : Cond.code ({ cls := "AnswerSquare", name := "hoursToSilence", desc := "()I" } : MethodName) prog_1_method_15_code (2 : Nat) (Option.some FieldType.int) ∈ ztbl := zg (zt_2 (List.mem_of_getElem? (i := 145) rfl)) rfl
set_option maxRecDepth 20000 in
theorem zs_X3_hoursToSilence : Cond.selects "AnswerSquare" ({ cls := "AnswerSquare", name := "hoursToSilence", desc := "()I" } : MethodName) ({ cls := "AnswerSquare", name := "hoursToSilence", desc := "()I" } : MethodName) ∈ ztbl := zg (List.mem_append_left _ (List.mem_map.mpr ⟨_, (show _ ∈ lw_privs_1 ++ (lw_privs_2 ++ (lw_privs_3 ++ (lw_privs_4 ++ (lw_privs_5 ++ (lw_privs_6))))) from List.mem_append_right _ (List.mem_append_right _ (List.mem_append_left _ (List.mem_of_getElem? (i := 5) rfl)))), rfl⟩)) rfl
set_option maxRecDepth 20000 in
set_option maxRecDepth 20000 in
theorem zm_2_144 : Cond.instanceMethod ({ cls := "AnswerSquare", name := "hoursToSilence", desc := "()I" } : MethodName) ∈ ztbl := zg (zt_2 (List.mem_of_getElem? (i := 144) rfl)) rfl
theorem zy_X3_hoursToSilence : zYv mX3_hoursToSilence 0 := ⟨zm_2_145, zm_1_1, zm_2_144, zs_X3_hoursToSilence, ⟨by decide +kernel, by decide +kernel⟩, by decide +kernel, by decide⟩
def mX3_worth : ZM := (yX3_worth, cX3_worth, 4, (some (FieldType.int)))
set_option maxRecDepth 20000 in
theorem zm_2_149 : Cond.code ({ cls := "AnswerSquare", name := "worth", desc := "(I)I" } : MethodName) prog_1_method_13_code (4 : Nat) (Option.some FieldType.int) ∈ ztbl := zg (zt_2 (List.mem_of_getElem? (i := 149) rfl)) rfl
set_option maxRecDepth 20000 in
theorem zm_2_148 : Cond.selects "AnswerSquare" ({ cls := "AnswerSquare", name := "worth", desc := "(I)I" } : MethodName) ({ cls := "AnswerSquare", name := "worth", desc := "(I)I" } : MethodName) ∈ ztbl := zg (zt_2 (List.mem_of_getElem? (i := 148) rfl)) rfl
set_option maxRecDepth 20000 in
set_option maxRecDepth 20000 in
theorem zm_2_147 : Cond.instanceMethod ({ cls := "AnswerSquare", name := "worth", desc := "(I)I" } : MethodName) ∈ ztbl := zg (zt_2 (List.mem_of_getElem? (i := 147) rfl)) rfl
theorem zy_X3_worth : zYv mX3_worth 1 := ⟨zm_2_149, zm_1_1, zm_2_147, zm_2_148, ⟨by decide +kernel, by decide +kernel⟩, by decide +kernel, by decide⟩
def mX0_worthOf : ZM := (yX0_worthOf, cX0_worthOf, 2, (some (FieldType.int)))
set_option maxRecDepth 20000 in
theorem zm_2_153 : Cond.code ({ cls := "AnswerSquare$Duchy", name := "worthOf", desc := "(I)I" } : MethodName) prog_2_method_12_code (2 : Nat) (Option.some FieldType.int) ∈ ztbl := zg (zt_2 (List.mem_of_getElem? (i := 153) rfl)) rfl
set_option maxRecDepth 20000 in
theorem zs_X0_worthOf : Cond.selects "AnswerSquare$Duchy" ({ cls := "AnswerSquare$Duchy", name := "worthOf", desc := "(I)I" } : MethodName) ({ cls := "AnswerSquare$Duchy", name := "worthOf", desc := "(I)I" } : MethodName) ∈ ztbl := zg (List.mem_append_left _ (List.mem_map.mpr ⟨_, (show _ ∈ lw_privs_1 ++ (lw_privs_2 ++ (lw_privs_3 ++ (lw_privs_4 ++ (lw_privs_5 ++ (lw_privs_6))))) from List.mem_append_right _ (List.mem_append_right _ (List.mem_append_left _ (List.mem_of_getElem? (i := 6) rfl)))), rfl⟩)) rfl
set_option maxRecDepth 20000 in
set_option maxRecDepth 20000 in
theorem zm_2_152 : Cond.instanceMethod ({ cls := "AnswerSquare$Duchy", name := "worthOf", desc := "(I)I" } : MethodName) ∈ ztbl := zg (zt_2 (List.mem_of_getElem? (i := 152) rfl)) rfl
theorem zy_X0_worthOf : zYv mX0_worthOf 1 := ⟨zm_2_153, zm_1_3, zm_2_152, zs_X0_worthOf, ⟨by decide +kernel, by decide +kernel⟩, by decide +kernel, by decide⟩
def mX3_chain : ZM := (yX3_chain, cX3_chain, 5, (some (FieldType.int)))
set_option maxRecDepth 20000 in
theorem zm_2_157 : Cond.code ({ cls := "AnswerSquare", name := "chain", desc := "(II)I" } : MethodName) prog_1_method_16_code (5 : Nat) (Option.some FieldType.int) ∈ ztbl := zg (zt_2 (List.mem_of_getElem? (i := 157) rfl)) rfl
set_option maxRecDepth 20000 in
theorem zm_2_156 : Cond.selects "AnswerSquare" ({ cls := "AnswerSquare", name := "chain", desc := "(II)I" } : MethodName) ({ cls := "AnswerSquare", name := "chain", desc := "(II)I" } : MethodName) ∈ ztbl := zg (zt_2 (List.mem_of_getElem? (i := 156) rfl)) rfl
set_option maxRecDepth 20000 in
set_option maxRecDepth 20000 in
theorem zm_2_155 : Cond.instanceMethod ({ cls := "AnswerSquare", name := "chain", desc := "(II)I" } : MethodName) ∈ ztbl := zg (zt_2 (List.mem_of_getElem? (i := 155) rfl)) rfl
theorem zy_X3_chain : zYv mX3_chain 2 := ⟨zm_2_157, zm_1_1, zm_2_155, zm_2_156, ⟨by decide +kernel, by decide +kernel⟩, by decide +kernel, by decide⟩
def mX3_chainLength : ZM := (yX3_chainLength, cX3_chainLength, 5, (some (FieldType.int)))
set_option maxRecDepth 20000 in
theorem zm_2_161 : Cond.code ({ cls := "AnswerSquare", name := "chainLength", desc := "(II)I" } : MethodName) prog_1_method_17_code (5 : Nat) (Option.some FieldType.int) ∈ ztbl := zg (zt_2 (List.mem_of_getElem? (i := 161) rfl)) rfl
set_option maxRecDepth 20000 in
theorem zs_X3_chainLength : Cond.selects "AnswerSquare" ({ cls := "AnswerSquare", name := "chainLength", desc := "(II)I" } : MethodName) ({ cls := "AnswerSquare", name := "chainLength", desc := "(II)I" } : MethodName) ∈ ztbl := zg (List.mem_append_left _ (List.mem_map.mpr ⟨_, (show _ ∈ lw_privs_1 ++ (lw_privs_2 ++ (lw_privs_3 ++ (lw_privs_4 ++ (lw_privs_5 ++ (lw_privs_6))))) from List.mem_append_right _ (List.mem_append_right _ (List.mem_append_left _ (List.mem_of_getElem? (i := 7) rfl)))), rfl⟩)) rfl
set_option maxRecDepth 20000 in
set_option maxRecDepth 20000 in
theorem zm_2_160 : Cond.instanceMethod ({ cls := "AnswerSquare", name := "chainLength", desc := "(II)I" } : MethodName) ∈ ztbl := zg (zt_2 (List.mem_of_getElem? (i := 160) rfl)) rfl
theorem zy_X3_chainLength : zYv mX3_chainLength 2 := ⟨zm_2_161, zm_1_1, zm_2_160, zs_X3_chainLength, ⟨by decide +kernel, by decide +kernel⟩, by decide +kernel, by decide⟩
def mX0_answeredBy : ZM := (yX0_answeredBy, cX0_answeredBy, 4, (some (FieldType.int)))
set_option maxRecDepth 20000 in
theorem zm_2_165 : Cond.code ({ cls := "AnswerSquare$Duchy", name := "answeredBy", desc := "(I)I" } : MethodName) prog_2_method_17_code (4 : Nat) (Option.some FieldType.int) ∈ ztbl := zg (zt_2 (List.mem_of_getElem? (i := 165) rfl)) rfl
set_option maxRecDepth 20000 in
theorem zs_X0_answeredBy : Cond.selects "AnswerSquare$Duchy" ({ cls := "AnswerSquare$Duchy", name := "answeredBy", desc := "(I)I" } : MethodName) ({ cls := "AnswerSquare$Duchy", name := "answeredBy", desc := "(I)I" } : MethodName) ∈ ztbl := zg (List.mem_append_left _ (List.mem_map.mpr ⟨_, (show _ ∈ lw_privs_1 ++ (lw_privs_2 ++ (lw_privs_3 ++ (lw_privs_4 ++ (lw_privs_5 ++ (lw_privs_6))))) from List.mem_append_right _ (List.mem_append_right _ (List.mem_append_left _ (List.mem_of_getElem? (i := 8) rfl)))), rfl⟩)) rfl
set_option maxRecDepth 20000 in
set_option maxRecDepth 20000 in
theorem zm_2_164 : Cond.instanceMethod ({ cls := "AnswerSquare$Duchy", name := "answeredBy", desc := "(I)I" } : MethodName) ∈ ztbl := zg (zt_2 (List.mem_of_getElem? (i := 164) rfl)) rfl
theorem zy_X0_answeredBy : zYv mX0_answeredBy 1 := ⟨zm_2_165, zm_1_3, zm_2_164, zs_X0_answeredBy, ⟨by decide +kernel, by decide +kernel⟩, by decide +kernel, by decide⟩
def mX3_chainStep : ZM := (yX3_chainStep, cX3_chainStep, 7, (some (FieldType.int)))
set_option maxRecDepth 20000 in
theorem zm_2_169 : Cond.code ({ cls := "AnswerSquare", name := "chainStep", desc := "(III)I" } : MethodName) prog_1_method_18_code (7 : Nat) (Option.some FieldType.int) ∈ ztbl := zg (zt_2 (List.mem_of_getElem? (i := 169) rfl)) rfl
set_option maxRecDepth 20000 in
theorem zs_X3_chainStep : Cond.selects "AnswerSquare" ({ cls := "AnswerSquare", name := "chainStep", desc := "(III)I" } : MethodName) ({ cls := "AnswerSquare", name := "chainStep", desc := "(III)I" } : MethodName) ∈ ztbl := zg (List.mem_append_left _ (List.mem_map.mpr ⟨_, (show _ ∈ lw_privs_1 ++ (lw_privs_2 ++ (lw_privs_3 ++ (lw_privs_4 ++ (lw_privs_5 ++ (lw_privs_6))))) from List.mem_append_right _ (List.mem_append_right _ (List.mem_append_left _ (List.mem_of_getElem? (i := 9) rfl)))), rfl⟩)) rfl
set_option maxRecDepth 20000 in
set_option maxRecDepth 20000 in
theorem zm_2_168 : Cond.instanceMethod ({ cls := "AnswerSquare", name := "chainStep", desc := "(III)I" } : MethodName) ∈ ztbl := zg (zt_2 (List.mem_of_getElem? (i := 168) rfl)) rfl
theorem zy_X3_chainStep : zYv mX3_chainStep 3 := ⟨zm_2_169, zm_1_1, zm_2_168, zs_X3_chainStep, ⟨by decide +kernel, by decide +kernel⟩, by decide +kernel, by decide⟩
def mX3_lowest : ZM := (yX3_lowest, cX3_lowest, 2, (some (FieldType.int)))
set_option maxRecDepth 20000 in
theorem zm_2_172 : Cond.code ({ cls := "AnswerSquare", name := "lowest", desc := "(I)I" } : MethodName) prog_1_method_19_code (2 : Nat) (Option.some FieldType.int) ∈ ztbl := zg (zt_2 (List.mem_of_getElem? (i := 172) rfl)) rfl
set_option maxRecDepth 20000 in
set_option maxRecDepth 20000 in
theorem zm_2_171 : Cond.static ({ cls := "AnswerSquare", name := "lowest", desc := "(I)I" } : MethodName) ∈ ztbl := zg (zt_2 (List.mem_of_getElem? (i := 171) rfl)) rfl
theorem zy_X3_lowest : zYs mX3_lowest 1 := ⟨zm_2_172, zm_1_1, zm_2_171, ⟨by decide +kernel, by decide +kernel⟩, by decide +kernel, by decide⟩
def mX3_sounds : ZM := (yX3_sounds, cX3_sounds, 5, (some (FieldType.int)))
set_option maxRecDepth 20000 in
theorem zm_2_176 : Cond.code ({ cls := "AnswerSquare", name := "sounds", desc := "(I)I" } : MethodName) prog_1_method_20_code (5 : Nat) (Option.some FieldType.int) ∈ ztbl := zg (zt_2 (List.mem_of_getElem? (i := 176) rfl)) rfl
set_option maxRecDepth 20000 in
theorem zm_2_175 : Cond.selects "AnswerSquare" ({ cls := "AnswerSquare", name := "sounds", desc := "(I)I" } : MethodName) ({ cls := "AnswerSquare", name := "sounds", desc := "(I)I" } : MethodName) ∈ ztbl := zg (zt_2 (List.mem_of_getElem? (i := 175) rfl)) rfl
set_option maxRecDepth 20000 in
set_option maxRecDepth 20000 in
theorem zm_2_174 : Cond.instanceMethod ({ cls := "AnswerSquare", name := "sounds", desc := "(I)I" } : MethodName) ∈ ztbl := zg (zt_2 (List.mem_of_getElem? (i := 174) rfl)) rfl
theorem zy_X3_sounds : zYv mX3_sounds 1 := ⟨zm_2_176, zm_1_1, zm_2_174, zm_2_175, ⟨by decide +kernel, by decide +kernel⟩, by decide +kernel, by decide⟩
def mX0_hasAll : ZM := (yX0_hasAll, cX0_hasAll, 2, (some (FieldType.boolean)))
set_option maxRecDepth 20000 in
theorem zm_2_180 : Cond.code ({ cls := "AnswerSquare$Duchy", name := "hasAll", desc := "(I)Z" } : MethodName) prog_2_method_10_code (2 : Nat) (Option.some FieldType.boolean) ∈ ztbl := zg (zt_2 (List.mem_of_getElem? (i := 180) rfl)) rfl
set_option maxRecDepth 20000 in
theorem zs_X0_hasAll : Cond.selects "AnswerSquare$Duchy" ({ cls := "AnswerSquare$Duchy", name := "hasAll", desc := "(I)Z" } : MethodName) ({ cls := "AnswerSquare$Duchy", name := "hasAll", desc := "(I)Z" } : MethodName) ∈ ztbl := zg (List.mem_append_left _ (List.mem_map.mpr ⟨_, (show _ ∈ lw_privs_1 ++ (lw_privs_2 ++ (lw_privs_3 ++ (lw_privs_4 ++ (lw_privs_5 ++ (lw_privs_6))))) from List.mem_append_right _ (List.mem_append_right _ (List.mem_append_left _ (List.mem_of_getElem? (i := 10) rfl)))), rfl⟩)) rfl
set_option maxRecDepth 20000 in
set_option maxRecDepth 20000 in
theorem zm_2_179 : Cond.instanceMethod ({ cls := "AnswerSquare$Duchy", name := "hasAll", desc := "(I)Z" } : MethodName) ∈ ztbl := zg (zt_2 (List.mem_of_getElem? (i := 179) rfl)) rfl
theorem zy_X0_hasAll : zYv mX0_hasAll 1 := ⟨zm_2_180, zm_1_3, zm_2_179, zs_X0_hasAll, ⟨by decide +kernel, by decide +kernel⟩, by decide +kernel, by decide⟩
def mX3_suffices : ZM := (yX3_suffices, cX3_suffices, 3, (some (FieldType.boolean)))
set_option maxRecDepth 20000 in
theorem zm_2_184 : Cond.code ({ cls := "AnswerSquare", name := "suffices", desc := "(II)Z" } : MethodName) prog_1_method_23_code (3 : Nat) (Option.some FieldType.boolean) ∈ ztbl := zg (zt_2 (List.mem_of_getElem? (i := 184) rfl)) rfl
set_option maxRecDepth 20000 in
theorem zs_X3_suffices : Cond.selects "AnswerSquare" ({ cls := "AnswerSquare", name := "suffices", desc := "(II)Z" } : MethodName) ({ cls := "AnswerSquare", name := "suffices", desc := "(II)Z" } : MethodName) ∈ ztbl := zg (List.mem_append_left _ (List.mem_map.mpr ⟨_, (show _ ∈ lw_privs_1 ++ (lw_privs_2 ++ (lw_privs_3 ++ (lw_privs_4 ++ (lw_privs_5 ++ (lw_privs_6))))) from List.mem_append_right _ (List.mem_append_right _ (List.mem_append_left _ (List.mem_of_getElem? (i := 11) rfl)))), rfl⟩)) rfl
set_option maxRecDepth 20000 in
set_option maxRecDepth 20000 in
theorem zm_2_183 : Cond.instanceMethod ({ cls := "AnswerSquare", name := "suffices", desc := "(II)Z" } : MethodName) ∈ ztbl := zg (zt_2 (List.mem_of_getElem? (i := 183) rfl)) rfl
theorem zy_X3_suffices : zYv mX3_suffices 2 := ⟨zm_2_184, zm_1_1, zm_2_183, zs_X3_suffices, ⟨by decide +kernel, by decide +kernel⟩, by decide +kernel, by decide⟩
def mX0_reachable : ZM := (yX0_reachable, cX0_reachable, 5, (some (FieldType.int)))
set_option maxRecDepth 20000 in
theorem zm_2_188 : Cond.code ({ cls := "AnswerSquare$Duchy", name := "reachable", desc := "(I)I" } : MethodName) prog_2_method_18_code (5 : Nat) (Option.some FieldType.int) ∈ ztbl := zg (zt_2 (List.mem_of_getElem? (i := 188) rfl)) rfl
set_option maxRecDepth 20000 in
theorem zs_X0_reachable : Cond.selects "AnswerSquare$Duchy" ({ cls := "AnswerSquare$Duchy", name := "reachable", desc := "(I)I" } : MethodName) ({ cls := "AnswerSquare$Duchy", name := "reachable", desc := "(I)I" } : MethodName) ∈ ztbl := zg (List.mem_append_left _ (List.mem_map.mpr ⟨_, (show _ ∈ lw_privs_1 ++ (lw_privs_2 ++ (lw_privs_3 ++ (lw_privs_4 ++ (lw_privs_5 ++ (lw_privs_6))))) from List.mem_append_right _ (List.mem_append_right _ (List.mem_append_left _ (List.mem_of_getElem? (i := 12) rfl)))), rfl⟩)) rfl
set_option maxRecDepth 20000 in
set_option maxRecDepth 20000 in
theorem zm_2_187 : Cond.instanceMethod ({ cls := "AnswerSquare$Duchy", name := "reachable", desc := "(I)I" } : MethodName) ∈ ztbl := zg (zt_2 (List.mem_of_getElem? (i := 187) rfl)) rfl
theorem zy_X0_reachable : zYv mX0_reachable 1 := ⟨zm_2_188, zm_1_3, zm_2_187, zs_X0_reachable, ⟨by decide +kernel, by decide +kernel⟩, by decide +kernel, by decide⟩
def mJ6_bitCount_0f7a4 : ZM := (yJ6_bitCount_0f7a4, cJ6_bitCount_0f7a4, 1, (some (FieldType.int)))
set_option maxRecDepth 20000 in
theorem zm_2_192 : Cond.code ({ cls := "java/lang/Integer", name := "bitCount", desc := "(I)I" } : MethodName) prog_7_method_49_code (1 : Nat) (Option.some FieldType.int) ∈ ztbl := zg (zt_2 (List.mem_of_getElem? (i := 192) rfl)) rfl
set_option maxRecDepth 20000 in
set_option maxRecDepth 20000 in
theorem zm_1_7 : Cond.initialized "java/lang/Integer" ∈ ztbl := zg (zt_1 (List.mem_of_getElem? (i := 7) rfl)) rfl
set_option maxRecDepth 20000 in
theorem zm_2_191 : Cond.static ({ cls := "java/lang/Integer", name := "bitCount", desc := "(I)I" } : MethodName) ∈ ztbl := zg (zt_2 (List.mem_of_getElem? (i := 191) rfl)) rfl
theorem zy_J6_bitCount_0f7a4 : zYs mJ6_bitCount_0f7a4 1 := ⟨zm_2_192, zm_1_7, zm_2_191, ⟨by decide +kernel, by decide +kernel⟩, by decide +kernel, by decide⟩
def mX3_began : ZM := (yX3_began, cX3_began, 2, (some (FieldType.int)))
set_option maxRecDepth 20000 in
theorem zm_2_199 : Cond.code ({ cls := "AnswerSquare", name := "began", desc := "(I)I" } : MethodName) prog_1_method_21_code (2 : Nat) (Option.some FieldType.int) ∈ ztbl := zg (zt_2 (List.mem_of_getElem? (i := 199) rfl)) rfl
set_option maxRecDepth 20000 in
theorem zm_2_198 : Cond.selects "AnswerSquare" ({ cls := "AnswerSquare", name := "began", desc := "(I)I" } : MethodName) ({ cls := "AnswerSquare", name := "began", desc := "(I)I" } : MethodName) ∈ ztbl := zg (zt_2 (List.mem_of_getElem? (i := 198) rfl)) rfl
set_option maxRecDepth 20000 in
set_option maxRecDepth 20000 in
theorem zm_2_197 : Cond.instanceMethod ({ cls := "AnswerSquare", name := "began", desc := "(I)I" } : MethodName) ∈ ztbl := zg (zt_2 (List.mem_of_getElem? (i := 197) rfl)) rfl
theorem zy_X3_began : zYv mX3_began 1 := ⟨zm_2_199, zm_1_1, zm_2_197, zm_2_198, ⟨by decide +kernel, by decide +kernel⟩, by decide +kernel, by decide⟩
def mX3_beginnings : ZM := (yX3_beginnings, cX3_beginnings, 4, (some (FieldType.int)))
set_option maxRecDepth 20000 in
theorem zm_2_203 : Cond.code ({ cls := "AnswerSquare", name := "beginnings", desc := "(I)I" } : MethodName) prog_1_method_22_code (4 : Nat) (Option.some FieldType.int) ∈ ztbl := zg (zt_2 (List.mem_of_getElem? (i := 203) rfl)) rfl
set_option maxRecDepth 20000 in
theorem zs_X3_beginnings : Cond.selects "AnswerSquare" ({ cls := "AnswerSquare", name := "beginnings", desc := "(I)I" } : MethodName) ({ cls := "AnswerSquare", name := "beginnings", desc := "(I)I" } : MethodName) ∈ ztbl := zg (List.mem_append_left _ (List.mem_map.mpr ⟨_, (show _ ∈ lw_privs_1 ++ (lw_privs_2 ++ (lw_privs_3 ++ (lw_privs_4 ++ (lw_privs_5 ++ (lw_privs_6))))) from List.mem_append_right _ (List.mem_append_right _ (List.mem_append_left _ (List.mem_of_getElem? (i := 13) rfl)))), rfl⟩)) rfl
set_option maxRecDepth 20000 in
set_option maxRecDepth 20000 in
theorem zm_2_202 : Cond.instanceMethod ({ cls := "AnswerSquare", name := "beginnings", desc := "(I)I" } : MethodName) ∈ ztbl := zg (zt_2 (List.mem_of_getElem? (i := 202) rfl)) rfl
theorem zy_X3_beginnings : zYv mX3_beginnings 1 := ⟨zm_2_203, zm_1_1, zm_2_202, zs_X3_beginnings, ⟨by decide +kernel, by decide +kernel⟩, by decide +kernel, by decide⟩
def mX3_odds : ZM := (yX3_odds, cX3_odds, 9, (some (FieldType.int)))
set_option maxRecDepth 20000 in
theorem zm_2_207 : Cond.code ({ cls := "AnswerSquare", name := "odds", desc := "(III)I" } : MethodName) prog_1_method_24_code (9 : Nat) (Option.some FieldType.int) ∈ ztbl := zg (zt_2 (List.mem_of_getElem? (i := 207) rfl)) rfl
set_option maxRecDepth 20000 in
theorem zm_2_206 : Cond.selects "AnswerSquare" ({ cls := "AnswerSquare", name := "odds", desc := "(III)I" } : MethodName) ({ cls := "AnswerSquare", name := "odds", desc := "(III)I" } : MethodName) ∈ ztbl := zg (zt_2 (List.mem_of_getElem? (i := 206) rfl)) rfl
set_option maxRecDepth 20000 in
set_option maxRecDepth 20000 in
theorem zm_2_205 : Cond.instanceMethod ({ cls := "AnswerSquare", name := "odds", desc := "(III)I" } : MethodName) ∈ ztbl := zg (zt_2 (List.mem_of_getElem? (i := 205) rfl)) rfl
theorem zy_X3_odds : zYv mX3_odds 3 := ⟨zm_2_207, zm_1_1, zm_2_205, zm_2_206, ⟨by decide +kernel, by decide +kernel⟩, by decide +kernel, by decide⟩
def mX3_commonDivisor : ZM := (yX3_commonDivisor, cX3_commonDivisor, 6, (some (FieldType.int)))
set_option maxRecDepth 20000 in
theorem zm_2_210 : Cond.code ({ cls := "AnswerSquare", name := "commonDivisor", desc := "(II)I" } : MethodName) prog_1_method_25_code (6 : Nat) (Option.some FieldType.int) ∈ ztbl := zg (zt_2 (List.mem_of_getElem? (i := 210) rfl)) rfl
set_option maxRecDepth 20000 in
set_option maxRecDepth 20000 in
theorem zm_2_209 : Cond.static ({ cls := "AnswerSquare", name := "commonDivisor", desc := "(II)I" } : MethodName) ∈ ztbl := zg (zt_2 (List.mem_of_getElem? (i := 209) rfl)) rfl
theorem zy_X3_commonDivisor : zYs mX3_commonDivisor 2 := ⟨zm_2_210, zm_1_1, zm_2_209, ⟨by decide +kernel, by decide +kernel⟩, by decide +kernel, by decide⟩
def mX3_tells : ZM := (yX3_tells, cX3_tells, 3, (some (FieldType.int)))
set_option maxRecDepth 20000 in
theorem zm_2_214 : Cond.code ({ cls := "AnswerSquare", name := "tells", desc := "(II)I" } : MethodName) prog_1_method_26_code (3 : Nat) (Option.some FieldType.int) ∈ ztbl := zg (zt_2 (List.mem_of_getElem? (i := 214) rfl)) rfl
set_option maxRecDepth 20000 in
theorem zm_2_213 : Cond.selects "AnswerSquare" ({ cls := "AnswerSquare", name := "tells", desc := "(II)I" } : MethodName) ({ cls := "AnswerSquare", name := "tells", desc := "(II)I" } : MethodName) ∈ ztbl := zg (zt_2 (List.mem_of_getElem? (i := 213) rfl)) rfl
set_option maxRecDepth 20000 in
set_option maxRecDepth 20000 in
theorem zm_2_212 : Cond.instanceMethod ({ cls := "AnswerSquare", name := "tells", desc := "(II)I" } : MethodName) ∈ ztbl := zg (zt_2 (List.mem_of_getElem? (i := 212) rfl)) rfl
theorem zy_X3_tells : zYv mX3_tells 2 := ⟨zm_2_214, zm_1_1, zm_2_212, zm_2_213, ⟨by decide +kernel, by decide +kernel⟩, by decide +kernel, by decide⟩
def mX3_forget : ZM := (yX3_forget, cX3_forget, 2, (some (FieldType.int)))
set_option maxRecDepth 20000 in
theorem zm_2_218 : Cond.code ({ cls := "AnswerSquare", name := "forget", desc := "()I" } : MethodName) prog_1_method_27_code (2 : Nat) (Option.some FieldType.int) ∈ ztbl := zg (zt_2 (List.mem_of_getElem? (i := 218) rfl)) rfl
set_option maxRecDepth 20000 in
theorem zm_2_217 : Cond.selects "AnswerSquare" ({ cls := "AnswerSquare", name := "forget", desc := "()I" } : MethodName) ({ cls := "AnswerSquare", name := "forget", desc := "()I" } : MethodName) ∈ ztbl := zg (zt_2 (List.mem_of_getElem? (i := 217) rfl)) rfl
set_option maxRecDepth 20000 in
set_option maxRecDepth 20000 in
theorem zm_2_216 : Cond.instanceMethod ({ cls := "AnswerSquare", name := "forget", desc := "()I" } : MethodName) ∈ ztbl := zg (zt_2 (List.mem_of_getElem? (i := 216) rfl)) rfl
theorem zy_X3_forget : zYv mX3_forget 0 := ⟨zm_2_218, zm_1_1, zm_2_216, zm_2_217, ⟨by decide +kernel, by decide +kernel⟩, by decide +kernel, by decide⟩
def mX3_fits : ZM := (yX3_fits, cX3_fits, 2, (some (FieldType.int)))
set_option maxRecDepth 20000 in
theorem zm_2_222 : Cond.code ({ cls := "AnswerSquare", name := "fits", desc := "()I" } : MethodName) prog_1_method_29_code (2 : Nat) (Option.some FieldType.int) ∈ ztbl := zg (zt_2 (List.mem_of_getElem? (i := 222) rfl)) rfl
set_option maxRecDepth 20000 in
theorem zm_2_221 : Cond.selects "AnswerSquare" ({ cls := "AnswerSquare", name := "fits", desc := "()I" } : MethodName) ({ cls := "AnswerSquare", name := "fits", desc := "()I" } : MethodName) ∈ ztbl := zg (zt_2 (List.mem_of_getElem? (i := 221) rfl)) rfl
set_option maxRecDepth 20000 in
set_option maxRecDepth 20000 in
theorem zm_2_220 : Cond.instanceMethod ({ cls := "AnswerSquare", name := "fits", desc := "()I" } : MethodName) ∈ ztbl := zg (zt_2 (List.mem_of_getElem? (i := 220) rfl)) rfl
theorem zy_X3_fits : zYv mX3_fits 0 := ⟨zm_2_222, zm_1_1, zm_2_220, zm_2_221, ⟨by decide +kernel, by decide +kernel⟩, by decide +kernel, by decide⟩
def mX1_aheadOf : ZM := (yX1_aheadOf, cX1_aheadOf, 4, (some (FieldType.int)))
set_option maxRecDepth 20000 in
theorem zm_2_226 : Cond.code ({ cls := "AnswerSquare$Moment", name := "aheadOf", desc := "(I)I" } : MethodName) prog_3_method_20_code (4 : Nat) (Option.some FieldType.int) ∈ ztbl := zg (zt_2 (List.mem_of_getElem? (i := 226) rfl)) rfl
set_option maxRecDepth 20000 in
theorem zs_X1_aheadOf : Cond.selects "AnswerSquare$Moment" ({ cls := "AnswerSquare$Moment", name := "aheadOf", desc := "(I)I" } : MethodName) ({ cls := "AnswerSquare$Moment", name := "aheadOf", desc := "(I)I" } : MethodName) ∈ ztbl := zg (List.mem_append_left _ (List.mem_map.mpr ⟨_, (show _ ∈ lw_privs_1 ++ (lw_privs_2 ++ (lw_privs_3 ++ (lw_privs_4 ++ (lw_privs_5 ++ (lw_privs_6))))) from List.mem_append_right _ (List.mem_append_right _ (List.mem_append_left _ (List.mem_of_getElem? (i := 14) rfl)))), rfl⟩)) rfl
set_option maxRecDepth 20000 in
set_option maxRecDepth 20000 in
theorem zm_2_225 : Cond.instanceMethod ({ cls := "AnswerSquare$Moment", name := "aheadOf", desc := "(I)I" } : MethodName) ∈ ztbl := zg (zt_2 (List.mem_of_getElem? (i := 225) rfl)) rfl
theorem zy_X1_aheadOf : zYv mX1_aheadOf 1 := ⟨zm_2_226, zm_1_4, zm_2_225, zs_X1_aheadOf, ⟨by decide +kernel, by decide +kernel⟩, by decide +kernel, by decide⟩
def mX3_orders : ZM := (yX3_orders, cX3_orders, 3, (some (FieldType.int)))
set_option maxRecDepth 20000 in
theorem zm_2_230 : Cond.code ({ cls := "AnswerSquare", name := "orders", desc := "(I)I" } : MethodName) prog_1_method_30_code (3 : Nat) (Option.some FieldType.int) ∈ ztbl := zg (zt_2 (List.mem_of_getElem? (i := 230) rfl)) rfl
set_option maxRecDepth 20000 in
theorem zm_2_229 : Cond.selects "AnswerSquare" ({ cls := "AnswerSquare", name := "orders", desc := "(I)I" } : MethodName) ({ cls := "AnswerSquare", name := "orders", desc := "(I)I" } : MethodName) ∈ ztbl := zg (zt_2 (List.mem_of_getElem? (i := 229) rfl)) rfl
set_option maxRecDepth 20000 in
set_option maxRecDepth 20000 in
theorem zm_2_228 : Cond.instanceMethod ({ cls := "AnswerSquare", name := "orders", desc := "(I)I" } : MethodName) ∈ ztbl := zg (zt_2 (List.mem_of_getElem? (i := 228) rfl)) rfl
theorem zy_X3_orders : zYv mX3_orders 1 := ⟨zm_2_230, zm_1_1, zm_2_228, zm_2_229, ⟨by decide +kernel, by decide +kernel⟩, by decide +kernel, by decide⟩
def mX3_waysTo : ZM := (yX3_waysTo, cX3_waysTo, 6, (some (FieldType.int)))
set_option maxRecDepth 20000 in
theorem zm_2_234 : Cond.code ({ cls := "AnswerSquare", name := "waysTo", desc := "(II)I" } : MethodName) prog_1_method_31_code (6 : Nat) (Option.some FieldType.int) ∈ ztbl := zg (zt_2 (List.mem_of_getElem? (i := 234) rfl)) rfl
set_option maxRecDepth 20000 in
theorem zs_X3_waysTo : Cond.selects "AnswerSquare" ({ cls := "AnswerSquare", name := "waysTo", desc := "(II)I" } : MethodName) ({ cls := "AnswerSquare", name := "waysTo", desc := "(II)I" } : MethodName) ∈ ztbl := zg (List.mem_append_left _ (List.mem_map.mpr ⟨_, (show _ ∈ lw_privs_1 ++ (lw_privs_2 ++ (lw_privs_3 ++ (lw_privs_4 ++ (lw_privs_5 ++ (lw_privs_6))))) from List.mem_append_right _ (List.mem_append_right _ (List.mem_append_left _ (List.mem_of_getElem? (i := 15) rfl)))), rfl⟩)) rfl
set_option maxRecDepth 20000 in
set_option maxRecDepth 20000 in
theorem zm_2_233 : Cond.instanceMethod ({ cls := "AnswerSquare", name := "waysTo", desc := "(II)I" } : MethodName) ∈ ztbl := zg (zt_2 (List.mem_of_getElem? (i := 233) rfl)) rfl
theorem zy_X3_waysTo : zYv mX3_waysTo 2 := ⟨zm_2_234, zm_1_1, zm_2_233, zs_X3_waysTo, ⟨by decide +kernel, by decide +kernel⟩, by decide +kernel, by decide⟩
def mX0_canFollow : ZM := (yX0_canFollow, cX0_canFollow, 3, (some (FieldType.boolean)))
set_option maxRecDepth 20000 in
theorem zm_2_238 : Cond.code ({ cls := "AnswerSquare$Duchy", name := "canFollow", desc := "(II)Z" } : MethodName) prog_2_method_19_code (3 : Nat) (Option.some FieldType.boolean) ∈ ztbl := zg (zt_2 (List.mem_of_getElem? (i := 238) rfl)) rfl
set_option maxRecDepth 20000 in
theorem zs_X0_canFollow : Cond.selects "AnswerSquare$Duchy" ({ cls := "AnswerSquare$Duchy", name := "canFollow", desc := "(II)Z" } : MethodName) ({ cls := "AnswerSquare$Duchy", name := "canFollow", desc := "(II)Z" } : MethodName) ∈ ztbl := zg (List.mem_append_left _ (List.mem_map.mpr ⟨_, (show _ ∈ lw_privs_1 ++ (lw_privs_2 ++ (lw_privs_3 ++ (lw_privs_4 ++ (lw_privs_5 ++ (lw_privs_6))))) from List.mem_append_right _ (List.mem_append_right _ (List.mem_append_right _ (List.mem_append_left _ (List.mem_of_getElem? (i := 0) rfl))))), rfl⟩)) rfl
set_option maxRecDepth 20000 in
set_option maxRecDepth 20000 in
theorem zm_2_237 : Cond.instanceMethod ({ cls := "AnswerSquare$Duchy", name := "canFollow", desc := "(II)Z" } : MethodName) ∈ ztbl := zg (zt_2 (List.mem_of_getElem? (i := 237) rfl)) rfl
theorem zy_X0_canFollow : zYv mX0_canFollow 2 := ⟨zm_2_238, zm_1_3, zm_2_237, zs_X0_canFollow, ⟨by decide +kernel, by decide +kernel⟩, by decide +kernel, by decide⟩
def mX3_mark : ZM := (yX3_mark, cX3_mark, 3, (some (FieldType.int)))
set_option maxRecDepth 20000 in
theorem zm_3_3 : Cond.code ({ cls := "AnswerSquare", name := "mark", desc := "(II)I" } : MethodName) prog_1_method_32_code (3 : Nat) (Option.some FieldType.int) ∈ ztbl := zg (zt_3 (List.mem_of_getElem? (i := 3) rfl)) rfl
set_option maxRecDepth 20000 in
theorem zm_3_2 : Cond.selects "AnswerSquare" ({ cls := "AnswerSquare", name := "mark", desc := "(II)I" } : MethodName) ({ cls := "AnswerSquare", name := "mark", desc := "(II)I" } : MethodName) ∈ ztbl := zg (zt_3 (List.mem_of_getElem? (i := 2) rfl)) rfl
set_option maxRecDepth 20000 in
set_option maxRecDepth 20000 in
theorem zm_3_1 : Cond.instanceMethod ({ cls := "AnswerSquare", name := "mark", desc := "(II)I" } : MethodName) ∈ ztbl := zg (zt_3 (List.mem_of_getElem? (i := 1) rfl)) rfl
theorem zy_X3_mark : zYv mX3_mark 2 := ⟨zm_3_3, zm_1_1, zm_3_1, zm_3_2, ⟨by decide +kernel, by decide +kernel⟩, by decide +kernel, by decide⟩
def mX3_asSaying : ZM := (yX3_asSaying, cX3_asSaying, 2, (some (FieldType.int)))
set_option maxRecDepth 20000 in
theorem zm_3_8 : Cond.code ({ cls := "AnswerSquare", name := "asSaying", desc := "(I)I" } : MethodName) prog_1_method_33_code (2 : Nat) (Option.some FieldType.int) ∈ ztbl := zg (zt_3 (List.mem_of_getElem? (i := 8) rfl)) rfl
set_option maxRecDepth 20000 in
theorem zs_X3_asSaying : Cond.selects "AnswerSquare" ({ cls := "AnswerSquare", name := "asSaying", desc := "(I)I" } : MethodName) ({ cls := "AnswerSquare", name := "asSaying", desc := "(I)I" } : MethodName) ∈ ztbl := zg (List.mem_append_left _ (List.mem_map.mpr ⟨_, (show _ ∈ lw_privs_1 ++ (lw_privs_2 ++ (lw_privs_3 ++ (lw_privs_4 ++ (lw_privs_5 ++ (lw_privs_6))))) from List.mem_append_right _ (List.mem_append_right _ (List.mem_append_right _ (List.mem_append_left _ (List.mem_of_getElem? (i := 1) rfl))))), rfl⟩)) rfl
set_option maxRecDepth 20000 in
set_option maxRecDepth 20000 in
theorem zm_3_7 : Cond.instanceMethod ({ cls := "AnswerSquare", name := "asSaying", desc := "(I)I" } : MethodName) ∈ ztbl := zg (zt_3 (List.mem_of_getElem? (i := 7) rfl)) rfl
theorem zy_X3_asSaying : zYv mX3_asSaying 1 := ⟨zm_3_8, zm_1_1, zm_3_7, zs_X3_asSaying, ⟨by decide +kernel, by decide +kernel⟩, by decide +kernel, by decide⟩
def mX3_asCough : ZM := (yX3_asCough, cX3_asCough, 2, (some (FieldType.int)))
set_option maxRecDepth 20000 in
theorem zm_3_12 : Cond.code ({ cls := "AnswerSquare", name := "asCough", desc := "(I)I" } : MethodName) prog_1_method_34_code (2 : Nat) (Option.some FieldType.int) ∈ ztbl := zg (zt_3 (List.mem_of_getElem? (i := 12) rfl)) rfl
set_option maxRecDepth 20000 in
theorem zs_X3_asCough : Cond.selects "AnswerSquare" ({ cls := "AnswerSquare", name := "asCough", desc := "(I)I" } : MethodName) ({ cls := "AnswerSquare", name := "asCough", desc := "(I)I" } : MethodName) ∈ ztbl := zg (List.mem_append_left _ (List.mem_map.mpr ⟨_, (show _ ∈ lw_privs_1 ++ (lw_privs_2 ++ (lw_privs_3 ++ (lw_privs_4 ++ (lw_privs_5 ++ (lw_privs_6))))) from List.mem_append_right _ (List.mem_append_right _ (List.mem_append_right _ (List.mem_append_left _ (List.mem_of_getElem? (i := 2) rfl))))), rfl⟩)) rfl
set_option maxRecDepth 20000 in
set_option maxRecDepth 20000 in
theorem zm_3_11 : Cond.instanceMethod ({ cls := "AnswerSquare", name := "asCough", desc := "(I)I" } : MethodName) ∈ ztbl := zg (zt_3 (List.mem_of_getElem? (i := 11) rfl)) rfl
theorem zy_X3_asCough : zYv mX3_asCough 1 := ⟨zm_3_12, zm_1_1, zm_3_11, zs_X3_asCough, ⟨by decide +kernel, by decide +kernel⟩, by decide +kernel, by decide⟩
def mX0_answersCount : ZM := (yX0_answersCount, cX0_answersCount, 2, (some (FieldType.int)))
set_option maxRecDepth 20000 in
theorem zm_3_17 : Cond.code ({ cls := "AnswerSquare$Duchy", name := "answersCount", desc := "(I)I" } : MethodName) prog_2_method_13_code (2 : Nat) (Option.some FieldType.int) ∈ ztbl := zg (zt_3 (List.mem_of_getElem? (i := 17) rfl)) rfl
set_option maxRecDepth 20000 in
theorem zs_X0_answersCount : Cond.selects "AnswerSquare$Duchy" ({ cls := "AnswerSquare$Duchy", name := "answersCount", desc := "(I)I" } : MethodName) ({ cls := "AnswerSquare$Duchy", name := "answersCount", desc := "(I)I" } : MethodName) ∈ ztbl := zg (List.mem_append_left _ (List.mem_map.mpr ⟨_, (show _ ∈ lw_privs_1 ++ (lw_privs_2 ++ (lw_privs_3 ++ (lw_privs_4 ++ (lw_privs_5 ++ (lw_privs_6))))) from List.mem_append_right _ (List.mem_append_right _ (List.mem_append_right _ (List.mem_append_left _ (List.mem_of_getElem? (i := 3) rfl))))), rfl⟩)) rfl
set_option maxRecDepth 20000 in
set_option maxRecDepth 20000 in
theorem zm_3_16 : Cond.instanceMethod ({ cls := "AnswerSquare$Duchy", name := "answersCount", desc := "(I)I" } : MethodName) ∈ ztbl := zg (zt_3 (List.mem_of_getElem? (i := 16) rfl)) rfl
theorem zy_X0_answersCount : zYv mX0_answersCount 1 := ⟨zm_3_17, zm_1_3, zm_3_16, zs_X0_answersCount, ⟨by decide +kernel, by decide +kernel⟩, by decide +kernel, by decide⟩
def mX3_asBell : ZM := (yX3_asBell, cX3_asBell, 2, (some (FieldType.int)))
set_option maxRecDepth 20000 in
theorem zm_3_22 : Cond.code ({ cls := "AnswerSquare", name := "asBell", desc := "(I)I" } : MethodName) prog_1_method_35_code (2 : Nat) (Option.some FieldType.int) ∈ ztbl := zg (zt_3 (List.mem_of_getElem? (i := 22) rfl)) rfl
set_option maxRecDepth 20000 in
theorem zs_X3_asBell : Cond.selects "AnswerSquare" ({ cls := "AnswerSquare", name := "asBell", desc := "(I)I" } : MethodName) ({ cls := "AnswerSquare", name := "asBell", desc := "(I)I" } : MethodName) ∈ ztbl := zg (List.mem_append_left _ (List.mem_map.mpr ⟨_, (show _ ∈ lw_privs_1 ++ (lw_privs_2 ++ (lw_privs_3 ++ (lw_privs_4 ++ (lw_privs_5 ++ (lw_privs_6))))) from List.mem_append_right _ (List.mem_append_right _ (List.mem_append_right _ (List.mem_append_left _ (List.mem_of_getElem? (i := 4) rfl))))), rfl⟩)) rfl
set_option maxRecDepth 20000 in
set_option maxRecDepth 20000 in
theorem zm_3_21 : Cond.instanceMethod ({ cls := "AnswerSquare", name := "asBell", desc := "(I)I" } : MethodName) ∈ ztbl := zg (zt_3 (List.mem_of_getElem? (i := 21) rfl)) rfl
theorem zy_X3_asBell : zYv mX3_asBell 1 := ⟨zm_3_22, zm_1_1, zm_3_21, zs_X3_asBell, ⟨by decide +kernel, by decide +kernel⟩, by decide +kernel, by decide⟩
def mX3_asKnock : ZM := (yX3_asKnock, cX3_asKnock, 2, (some (FieldType.int)))
set_option maxRecDepth 20000 in
theorem zm_3_27 : Cond.code ({ cls := "AnswerSquare", name := "asKnock", desc := "(I)I" } : MethodName) prog_1_method_36_code (2 : Nat) (Option.some FieldType.int) ∈ ztbl := zg (zt_3 (List.mem_of_getElem? (i := 27) rfl)) rfl
set_option maxRecDepth 20000 in
theorem zs_X3_asKnock : Cond.selects "AnswerSquare" ({ cls := "AnswerSquare", name := "asKnock", desc := "(I)I" } : MethodName) ({ cls := "AnswerSquare", name := "asKnock", desc := "(I)I" } : MethodName) ∈ ztbl := zg (List.mem_append_left _ (List.mem_map.mpr ⟨_, (show _ ∈ lw_privs_1 ++ (lw_privs_2 ++ (lw_privs_3 ++ (lw_privs_4 ++ (lw_privs_5 ++ (lw_privs_6))))) from List.mem_append_right _ (List.mem_append_right _ (List.mem_append_right _ (List.mem_append_left _ (List.mem_of_getElem? (i := 5) rfl))))), rfl⟩)) rfl
set_option maxRecDepth 20000 in
set_option maxRecDepth 20000 in
theorem zm_3_26 : Cond.instanceMethod ({ cls := "AnswerSquare", name := "asKnock", desc := "(I)I" } : MethodName) ∈ ztbl := zg (zt_3 (List.mem_of_getElem? (i := 26) rfl)) rfl
theorem zy_X3_asKnock : zYv mX3_asKnock 1 := ⟨zm_3_27, zm_1_1, zm_3_26, zs_X3_asKnock, ⟨by decide +kernel, by decide +kernel⟩, by decide +kernel, by decide⟩
def mX3_asEcho : ZM := (yX3_asEcho, cX3_asEcho, 2, (some (FieldType.int)))
set_option maxRecDepth 20000 in
theorem zm_3_32 : Cond.code ({ cls := "AnswerSquare", name := "asEcho", desc := "(I)I" } : MethodName) prog_1_method_37_code (2 : Nat) (Option.some FieldType.int) ∈ ztbl := zg (zt_3 (List.mem_of_getElem? (i := 32) rfl)) rfl
set_option maxRecDepth 20000 in
theorem zs_X3_asEcho : Cond.selects "AnswerSquare" ({ cls := "AnswerSquare", name := "asEcho", desc := "(I)I" } : MethodName) ({ cls := "AnswerSquare", name := "asEcho", desc := "(I)I" } : MethodName) ∈ ztbl := zg (List.mem_append_left _ (List.mem_map.mpr ⟨_, (show _ ∈ lw_privs_1 ++ (lw_privs_2 ++ (lw_privs_3 ++ (lw_privs_4 ++ (lw_privs_5 ++ (lw_privs_6))))) from List.mem_append_right _ (List.mem_append_right _ (List.mem_append_right _ (List.mem_append_left _ (List.mem_of_getElem? (i := 6) rfl))))), rfl⟩)) rfl
set_option maxRecDepth 20000 in
set_option maxRecDepth 20000 in
theorem zm_3_31 : Cond.instanceMethod ({ cls := "AnswerSquare", name := "asEcho", desc := "(I)I" } : MethodName) ∈ ztbl := zg (zt_3 (List.mem_of_getElem? (i := 31) rfl)) rfl
theorem zy_X3_asEcho : zYv mX3_asEcho 1 := ⟨zm_3_32, zm_1_1, zm_3_31, zs_X3_asEcho, ⟨by decide +kernel, by decide +kernel⟩, by decide +kernel, by decide⟩
def mX3_asOwl : ZM := (yX3_asOwl, cX3_asOwl, 2, (some (FieldType.int)))
set_option maxRecDepth 20000 in
theorem zm_3_37 : Cond.code ({ cls := "AnswerSquare", name := "asOwl", desc := "(I)I" } : MethodName) prog_1_method_38_code (2 : Nat) (Option.some FieldType.int) ∈ ztbl := zg (zt_3 (List.mem_of_getElem? (i := 37) rfl)) rfl
set_option maxRecDepth 20000 in
theorem zs_X3_asOwl : Cond.selects "AnswerSquare" ({ cls := "AnswerSquare", name := "asOwl", desc := "(I)I" } : MethodName) ({ cls := "AnswerSquare", name := "asOwl", desc := "(I)I" } : MethodName) ∈ ztbl := zg (List.mem_append_left _ (List.mem_map.mpr ⟨_, (show _ ∈ lw_privs_1 ++ (lw_privs_2 ++ (lw_privs_3 ++ (lw_privs_4 ++ (lw_privs_5 ++ (lw_privs_6))))) from List.mem_append_right _ (List.mem_append_right _ (List.mem_append_right _ (List.mem_append_left _ (List.mem_of_getElem? (i := 7) rfl))))), rfl⟩)) rfl
set_option maxRecDepth 20000 in
set_option maxRecDepth 20000 in
theorem zm_3_36 : Cond.instanceMethod ({ cls := "AnswerSquare", name := "asOwl", desc := "(I)I" } : MethodName) ∈ ztbl := zg (zt_3 (List.mem_of_getElem? (i := 36) rfl)) rfl
theorem zy_X3_asOwl : zYv mX3_asOwl 1 := ⟨zm_3_37, zm_1_1, zm_3_36, zs_X3_asOwl, ⟨by decide +kernel, by decide +kernel⟩, by decide +kernel, by decide⟩
def mX3_keep : ZM := (yX3_keep, cX3_keep, 3, (some (FieldType.int)))
set_option maxRecDepth 20000 in
theorem zm_3_42 : Cond.code ({ cls := "AnswerSquare", name := "keep", desc := "(I)I" } : MethodName) prog_1_method_39_code (3 : Nat) (Option.some FieldType.int) ∈ ztbl := zg (zt_3 (List.mem_of_getElem? (i := 42) rfl)) rfl
set_option maxRecDepth 20000 in
theorem zm_3_41 : Cond.selects "AnswerSquare" ({ cls := "AnswerSquare", name := "keep", desc := "(I)I" } : MethodName) ({ cls := "AnswerSquare", name := "keep", desc := "(I)I" } : MethodName) ∈ ztbl := zg (zt_3 (List.mem_of_getElem? (i := 41) rfl)) rfl
set_option maxRecDepth 20000 in
set_option maxRecDepth 20000 in
theorem zm_3_40 : Cond.instanceMethod ({ cls := "AnswerSquare", name := "keep", desc := "(I)I" } : MethodName) ∈ ztbl := zg (zt_3 (List.mem_of_getElem? (i := 40) rfl)) rfl
theorem zy_X3_keep : zYv mX3_keep 1 := ⟨zm_3_42, zm_1_1, zm_3_40, zm_3_41, ⟨by decide +kernel, by decide +kernel⟩, by decide +kernel, by decide⟩
def mX3_imageOf : ZM := (yX3_imageOf, cX3_imageOf, 2, (some (FieldType.object "AnswerSquare$Moment")))
set_option maxRecDepth 20000 in
theorem zm_3_46 : Cond.code ({ cls := "AnswerSquare", name := "imageOf", desc := "(I)LAnswerSquare$Moment;" } : MethodName) prog_1_method_41_code (2 : Nat) (Option.some (FieldType.object "AnswerSquare$Moment")) ∈ ztbl := zg (zt_3 (List.mem_of_getElem? (i := 46) rfl)) rfl
set_option maxRecDepth 20000 in
theorem zs_X3_imageOf : Cond.selects "AnswerSquare" ({ cls := "AnswerSquare", name := "imageOf", desc := "(I)LAnswerSquare$Moment;" } : MethodName) ({ cls := "AnswerSquare", name := "imageOf", desc := "(I)LAnswerSquare$Moment;" } : MethodName) ∈ ztbl := zg (List.mem_append_left _ (List.mem_map.mpr ⟨_, (show _ ∈ lw_privs_1 ++ (lw_privs_2 ++ (lw_privs_3 ++ (lw_privs_4 ++ (lw_privs_5 ++ (lw_privs_6))))) from List.mem_append_right _ (List.mem_append_right _ (List.mem_append_right _ (List.mem_append_left _ (List.mem_of_getElem? (i := 8) rfl))))), rfl⟩)) rfl
set_option maxRecDepth 20000 in
set_option maxRecDepth 20000 in
theorem zm_3_45 : Cond.instanceMethod ({ cls := "AnswerSquare", name := "imageOf", desc := "(I)LAnswerSquare$Moment;" } : MethodName) ∈ ztbl := zg (zt_3 (List.mem_of_getElem? (i := 45) rfl)) rfl
theorem zy_X3_imageOf : zYv mX3_imageOf 1 := ⟨zm_3_46, zm_1_1, zm_3_45, zs_X3_imageOf, ⟨by decide +kernel, by decide +kernel⟩, by decide +kernel, by decide⟩
def mX1_become : ZM := (yX1_become, cX1_become, 2, none)
set_option maxRecDepth 20000 in
theorem zm_3_50 : Cond.code ({ cls := "AnswerSquare$Moment", name := "become", desc := "(LAnswerSquare$Moment;)V" } : MethodName) prog_3_method_3_code (2 : Nat) (Option.none : Option FieldType) ∈ ztbl := zg (zt_3 (List.mem_of_getElem? (i := 50) rfl)) rfl
set_option maxRecDepth 20000 in
theorem zs_X1_become : Cond.selects "AnswerSquare$Moment" ({ cls := "AnswerSquare$Moment", name := "become", desc := "(LAnswerSquare$Moment;)V" } : MethodName) ({ cls := "AnswerSquare$Moment", name := "become", desc := "(LAnswerSquare$Moment;)V" } : MethodName) ∈ ztbl := zg (List.mem_append_left _ (List.mem_map.mpr ⟨_, (show _ ∈ lw_privs_1 ++ (lw_privs_2 ++ (lw_privs_3 ++ (lw_privs_4 ++ (lw_privs_5 ++ (lw_privs_6))))) from List.mem_append_right _ (List.mem_append_right _ (List.mem_append_right _ (List.mem_append_left _ (List.mem_of_getElem? (i := 9) rfl))))), rfl⟩)) rfl
set_option maxRecDepth 20000 in
set_option maxRecDepth 20000 in
theorem zm_3_49 : Cond.instanceMethod ({ cls := "AnswerSquare$Moment", name := "become", desc := "(LAnswerSquare$Moment;)V" } : MethodName) ∈ ztbl := zg (zt_3 (List.mem_of_getElem? (i := 49) rfl)) rfl
theorem zy_X1_become : zYv mX1_become 1 := ⟨zm_3_50, zm_1_4, zm_3_49, zs_X1_become, ⟨by decide +kernel, by decide +kernel⟩, by decide +kernel, by decide⟩
def mX3_back : ZM := (yX3_back, cX3_back, 3, (some (FieldType.int)))
set_option maxRecDepth 20000 in
theorem zm_3_57 : Cond.code ({ cls := "AnswerSquare", name := "back", desc := "(I)I" } : MethodName) prog_1_method_40_code (3 : Nat) (Option.some FieldType.int) ∈ ztbl := zg (zt_3 (List.mem_of_getElem? (i := 57) rfl)) rfl
set_option maxRecDepth 20000 in
theorem zm_3_56 : Cond.selects "AnswerSquare" ({ cls := "AnswerSquare", name := "back", desc := "(I)I" } : MethodName) ({ cls := "AnswerSquare", name := "back", desc := "(I)I" } : MethodName) ∈ ztbl := zg (zt_3 (List.mem_of_getElem? (i := 56) rfl)) rfl
set_option maxRecDepth 20000 in
set_option maxRecDepth 20000 in
theorem zm_3_55 : Cond.instanceMethod ({ cls := "AnswerSquare", name := "back", desc := "(I)I" } : MethodName) ∈ ztbl := zg (zt_3 (List.mem_of_getElem? (i := 55) rfl)) rfl
theorem zy_X3_back : zYv mX3_back 1 := ⟨zm_3_57, zm_1_1, zm_3_55, zm_3_56, ⟨by decide +kernel, by decide +kernel⟩, by decide +kernel, by decide⟩
def mX3_count : ZM := (yX3_count, cX3_count, 2, (some (FieldType.int)))
set_option maxRecDepth 20000 in
theorem zm_3_61 : Cond.code ({ cls := "AnswerSquare", name := "count", desc := "(I)I" } : MethodName) prog_1_method_42_code (2 : Nat) (Option.some FieldType.int) ∈ ztbl := zg (zt_3 (List.mem_of_getElem? (i := 61) rfl)) rfl
set_option maxRecDepth 20000 in
theorem zm_3_60 : Cond.selects "AnswerSquare" ({ cls := "AnswerSquare", name := "count", desc := "(I)I" } : MethodName) ({ cls := "AnswerSquare", name := "count", desc := "(I)I" } : MethodName) ∈ ztbl := zg (zt_3 (List.mem_of_getElem? (i := 60) rfl)) rfl
set_option maxRecDepth 20000 in
set_option maxRecDepth 20000 in
theorem zm_3_59 : Cond.instanceMethod ({ cls := "AnswerSquare", name := "count", desc := "(I)I" } : MethodName) ∈ ztbl := zg (zt_3 (List.mem_of_getElem? (i := 59) rfl)) rfl
theorem zy_X3_count : zYv mX3_count 1 := ⟨zm_3_61, zm_1_1, zm_3_59, zm_3_60, ⟨by decide +kernel, by decide +kernel⟩, by decide +kernel, by decide⟩
def mX3_trace : ZM := (yX3_trace, cX3_trace, 1, (some (FieldType.long)))
set_option maxRecDepth 20000 in
theorem zm_3_65 : Cond.code ({ cls := "AnswerSquare", name := "trace", desc := "()J" } : MethodName) prog_1_method_43_code (1 : Nat) (Option.some FieldType.long) ∈ ztbl := zg (zt_3 (List.mem_of_getElem? (i := 65) rfl)) rfl
set_option maxRecDepth 20000 in
theorem zm_3_64 : Cond.selects "AnswerSquare" ({ cls := "AnswerSquare", name := "trace", desc := "()J" } : MethodName) ({ cls := "AnswerSquare", name := "trace", desc := "()J" } : MethodName) ∈ ztbl := zg (zt_3 (List.mem_of_getElem? (i := 64) rfl)) rfl
set_option maxRecDepth 20000 in
set_option maxRecDepth 20000 in
theorem zm_3_63 : Cond.instanceMethod ({ cls := "AnswerSquare", name := "trace", desc := "()J" } : MethodName) ∈ ztbl := zg (zt_3 (List.mem_of_getElem? (i := 63) rfl)) rfl
theorem zy_X3_trace : zYv mX3_trace 0 := ⟨zm_3_65, zm_1_1, zm_3_63, zm_3_64, ⟨by decide +kernel, by decide +kernel⟩, by decide +kernel, by decide⟩
def mX4_init : ZM := (yX4_init, cX4_init, 1, none)
set_option maxRecDepth 20000 in
theorem zm_3_70 : Cond.code ({ cls := "AnswerSquareModel", name := "<init>", desc := "()V" } : MethodName) prog_6_method_1_code (1 : Nat) (Option.none : Option FieldType) ∈ ztbl := zg (zt_3 (List.mem_of_getElem? (i := 70) rfl)) rfl
def mX4_plain : ZM := (yX4_plain, cX4_plain, 1, none)
set_option maxRecDepth 20000 in
theorem zm_3_75 : Cond.code ({ cls := "AnswerSquareModel", name := "plain", desc := "()V" } : MethodName) prog_6_method_13_code (1 : Nat) (Option.none : Option FieldType) ∈ ztbl := zg (zt_3 (List.mem_of_getElem? (i := 75) rfl)) rfl
set_option maxRecDepth 20000 in
theorem zs_X4_plain : Cond.selects "AnswerSquareModel" ({ cls := "AnswerSquareModel", name := "plain", desc := "()V" } : MethodName) ({ cls := "AnswerSquareModel", name := "plain", desc := "()V" } : MethodName) ∈ ztbl := zg (List.mem_append_left _ (List.mem_map.mpr ⟨_, (show _ ∈ lw_privs_1 ++ (lw_privs_2 ++ (lw_privs_3 ++ (lw_privs_4 ++ (lw_privs_5 ++ (lw_privs_6))))) from List.mem_append_right _ (List.mem_append_right _ (List.mem_append_right _ (List.mem_append_left _ (List.mem_of_getElem? (i := 10) rfl))))), rfl⟩)) rfl
set_option maxRecDepth 20000 in
set_option maxRecDepth 20000 in
theorem zm_1_5 : Cond.initialized "AnswerSquareModel" ∈ ztbl := zg (zt_1 (List.mem_of_getElem? (i := 5) rfl)) rfl
set_option maxRecDepth 20000 in
theorem zm_3_74 : Cond.instanceMethod ({ cls := "AnswerSquareModel", name := "plain", desc := "()V" } : MethodName) ∈ ztbl := zg (zt_3 (List.mem_of_getElem? (i := 74) rfl)) rfl
theorem zy_X4_plain : zYv mX4_plain 0 := ⟨zm_3_75, zm_1_5, zm_3_74, zs_X4_plain, ⟨by decide +kernel, by decide +kernel⟩, by decide +kernel, by decide⟩
def mX4_takeDraft : ZM := (yX4_takeDraft, cX4_takeDraft, 3, none)
set_option maxRecDepth 20000 in
theorem zm_3_79 : Cond.code ({ cls := "AnswerSquareModel", name := "takeDraft", desc := "()V" } : MethodName) prog_6_method_14_code (3 : Nat) (Option.none : Option FieldType) ∈ ztbl := zg (zt_3 (List.mem_of_getElem? (i := 79) rfl)) rfl
set_option maxRecDepth 20000 in
theorem zs_X4_takeDraft : Cond.selects "AnswerSquareModel" ({ cls := "AnswerSquareModel", name := "takeDraft", desc := "()V" } : MethodName) ({ cls := "AnswerSquareModel", name := "takeDraft", desc := "()V" } : MethodName) ∈ ztbl := zg (List.mem_append_left _ (List.mem_map.mpr ⟨_, (show _ ∈ lw_privs_1 ++ (lw_privs_2 ++ (lw_privs_3 ++ (lw_privs_4 ++ (lw_privs_5 ++ (lw_privs_6))))) from List.mem_append_right _ (List.mem_append_right _ (List.mem_append_right _ (List.mem_append_left _ (List.mem_of_getElem? (i := 11) rfl))))), rfl⟩)) rfl
set_option maxRecDepth 20000 in
set_option maxRecDepth 20000 in
theorem zm_3_78 : Cond.instanceMethod ({ cls := "AnswerSquareModel", name := "takeDraft", desc := "()V" } : MethodName) ∈ ztbl := zg (zt_3 (List.mem_of_getElem? (i := 78) rfl)) rfl
theorem zy_X4_takeDraft : zYv mX4_takeDraft 0 := ⟨zm_3_79, zm_1_5, zm_3_78, zs_X4_takeDraft, ⟨by decide +kernel, by decide +kernel⟩, by decide +kernel, by decide⟩
def mX4_type : ZM := (yX4_type, cX4_type, 2, (some (FieldType.int)))
set_option maxRecDepth 20000 in
theorem zm_3_152 : Cond.code ({ cls := "AnswerSquareModel", name := "type", desc := "(I)I" } : MethodName) prog_6_method_4_code (2 : Nat) (Option.some FieldType.int) ∈ ztbl := zg (zt_3 (List.mem_of_getElem? (i := 152) rfl)) rfl
set_option maxRecDepth 20000 in
theorem zm_3_151 : Cond.selects "AnswerSquareModel" ({ cls := "AnswerSquareModel", name := "type", desc := "(I)I" } : MethodName) ({ cls := "AnswerSquareModel", name := "type", desc := "(I)I" } : MethodName) ∈ ztbl := zg (zt_3 (List.mem_of_getElem? (i := 151) rfl)) rfl
set_option maxRecDepth 20000 in
set_option maxRecDepth 20000 in
theorem zm_3_150 : Cond.instanceMethod ({ cls := "AnswerSquareModel", name := "type", desc := "(I)I" } : MethodName) ∈ ztbl := zg (zt_3 (List.mem_of_getElem? (i := 150) rfl)) rfl
theorem zy_X4_type : zYv mX4_type 1 := ⟨zm_3_152, zm_1_5, zm_3_150, zm_3_151, ⟨by decide +kernel, by decide +kernel⟩, by decide +kernel, by decide⟩
def mX4_in : ZM := (yX4_in, cX4_in, 3, (some (FieldType.boolean)))
set_option maxRecDepth 20000 in
theorem zm_3_155 : Cond.code ({ cls := "AnswerSquareModel", name := "in", desc := "(III)Z" } : MethodName) prog_6_method_3_code (3 : Nat) (Option.some FieldType.boolean) ∈ ztbl := zg (zt_3 (List.mem_of_getElem? (i := 155) rfl)) rfl
set_option maxRecDepth 20000 in
set_option maxRecDepth 20000 in
theorem zm_3_154 : Cond.static ({ cls := "AnswerSquareModel", name := "in", desc := "(III)Z" } : MethodName) ∈ ztbl := zg (zt_3 (List.mem_of_getElem? (i := 154) rfl)) rfl
theorem zy_X4_in : zYs mX4_in 3 := ⟨zm_3_155, zm_1_5, zm_3_154, ⟨by decide +kernel, by decide +kernel⟩, by decide +kernel, by decide⟩
def mX4_clear : ZM := (yX4_clear, cX4_clear, 2, (some (FieldType.int)))
set_option maxRecDepth 20000 in
theorem zm_3_159 : Cond.code ({ cls := "AnswerSquareModel", name := "clear", desc := "()I" } : MethodName) prog_6_method_5_code (2 : Nat) (Option.some FieldType.int) ∈ ztbl := zg (zt_3 (List.mem_of_getElem? (i := 159) rfl)) rfl
set_option maxRecDepth 20000 in
theorem zm_3_158 : Cond.selects "AnswerSquareModel" ({ cls := "AnswerSquareModel", name := "clear", desc := "()I" } : MethodName) ({ cls := "AnswerSquareModel", name := "clear", desc := "()I" } : MethodName) ∈ ztbl := zg (zt_3 (List.mem_of_getElem? (i := 158) rfl)) rfl
set_option maxRecDepth 20000 in
set_option maxRecDepth 20000 in
theorem zm_3_157 : Cond.instanceMethod ({ cls := "AnswerSquareModel", name := "clear", desc := "()I" } : MethodName) ∈ ztbl := zg (zt_3 (List.mem_of_getElem? (i := 157) rfl)) rfl
theorem zy_X4_clear : zYv mX4_clear 0 := ⟨zm_3_159, zm_1_5, zm_3_157, zm_3_158, ⟨by decide +kernel, by decide +kernel⟩, by decide +kernel, by decide⟩
def mX4_duchy : ZM := (yX4_duchy, cX4_duchy, 3, (some (FieldType.int)))
set_option maxRecDepth 20000 in
theorem zm_3_163 : Cond.code ({ cls := "AnswerSquareModel", name := "duchy", desc := "()I" } : MethodName) prog_6_method_15_code (3 : Nat) (Option.some FieldType.int) ∈ ztbl := zg (zt_3 (List.mem_of_getElem? (i := 163) rfl)) rfl
set_option maxRecDepth 20000 in
theorem zm_3_162 : Cond.selects "AnswerSquareModel" ({ cls := "AnswerSquareModel", name := "duchy", desc := "()I" } : MethodName) ({ cls := "AnswerSquareModel", name := "duchy", desc := "()I" } : MethodName) ∈ ztbl := zg (zt_3 (List.mem_of_getElem? (i := 162) rfl)) rfl
set_option maxRecDepth 20000 in
set_option maxRecDepth 20000 in
theorem zm_3_161 : Cond.instanceMethod ({ cls := "AnswerSquareModel", name := "duchy", desc := "()I" } : MethodName) ∈ ztbl := zg (zt_3 (List.mem_of_getElem? (i := 161) rfl)) rfl
theorem zy_X4_duchy : zYv mX4_duchy 0 := ⟨zm_3_163, zm_1_5, zm_3_161, zm_3_162, ⟨by decide +kernel, by decide +kernel⟩, by decide +kernel, by decide⟩
def mX4_step : ZM := (yX4_step, cX4_step, 2, none)
set_option maxRecDepth 20000 in
theorem zm_3_167 : Cond.code ({ cls := "AnswerSquareModel", name := "step", desc := "()V" } : MethodName) prog_6_method_7_code (2 : Nat) (Option.none : Option FieldType) ∈ ztbl := zg (zt_3 (List.mem_of_getElem? (i := 167) rfl)) rfl
set_option maxRecDepth 20000 in
theorem zs_X4_step : Cond.selects "AnswerSquareModel" ({ cls := "AnswerSquareModel", name := "step", desc := "()V" } : MethodName) ({ cls := "AnswerSquareModel", name := "step", desc := "()V" } : MethodName) ∈ ztbl := zg (List.mem_append_left _ (List.mem_map.mpr ⟨_, (show _ ∈ lw_privs_1 ++ (lw_privs_2 ++ (lw_privs_3 ++ (lw_privs_4 ++ (lw_privs_5 ++ (lw_privs_6))))) from List.mem_append_right _ (List.mem_append_right _ (List.mem_append_right _ (List.mem_append_left _ (List.mem_of_getElem? (i := 12) rfl))))), rfl⟩)) rfl
set_option maxRecDepth 20000 in
set_option maxRecDepth 20000 in
theorem zm_3_166 : Cond.instanceMethod ({ cls := "AnswerSquareModel", name := "step", desc := "()V" } : MethodName) ∈ ztbl := zg (zt_3 (List.mem_of_getElem? (i := 166) rfl)) rfl
theorem zy_X4_step : zYv mX4_step 0 := ⟨zm_3_167, zm_1_5, zm_3_166, zs_X4_step, ⟨by decide +kernel, by decide +kernel⟩, by decide +kernel, by decide⟩
def mX4_here : ZM := (yX4_here, cX4_here, 1, (some (FieldType.int)))
set_option maxRecDepth 20000 in
theorem zm_3_171 : Cond.code ({ cls := "AnswerSquareModel", name := "here", desc := "()I" } : MethodName) prog_6_method_6_code (1 : Nat) (Option.some FieldType.int) ∈ ztbl := zg (zt_3 (List.mem_of_getElem? (i := 171) rfl)) rfl
set_option maxRecDepth 20000 in
theorem zs_X4_here : Cond.selects "AnswerSquareModel" ({ cls := "AnswerSquareModel", name := "here", desc := "()I" } : MethodName) ({ cls := "AnswerSquareModel", name := "here", desc := "()I" } : MethodName) ∈ ztbl := zg (List.mem_append_left _ (List.mem_map.mpr ⟨_, (show _ ∈ lw_privs_1 ++ (lw_privs_2 ++ (lw_privs_3 ++ (lw_privs_4 ++ (lw_privs_5 ++ (lw_privs_6))))) from List.mem_append_right _ (List.mem_append_right _ (List.mem_append_right _ (List.mem_append_left _ (List.mem_of_getElem? (i := 13) rfl))))), rfl⟩)) rfl
set_option maxRecDepth 20000 in
set_option maxRecDepth 20000 in
theorem zm_3_170 : Cond.instanceMethod ({ cls := "AnswerSquareModel", name := "here", desc := "()I" } : MethodName) ∈ ztbl := zg (zt_3 (List.mem_of_getElem? (i := 170) rfl)) rfl
theorem zy_X4_here : zYv mX4_here 0 := ⟨zm_3_171, zm_1_5, zm_3_170, zs_X4_here, ⟨by decide +kernel, by decide +kernel⟩, by decide +kernel, by decide⟩
def mX4_mayBe : ZM := (yX4_mayBe, cX4_mayBe, 2, (some (FieldType.boolean)))
set_option maxRecDepth 20000 in
theorem zm_3_175 : Cond.code ({ cls := "AnswerSquareModel", name := "mayBe", desc := "(I)Z" } : MethodName) prog_6_method_10_code (2 : Nat) (Option.some FieldType.boolean) ∈ ztbl := zg (zt_3 (List.mem_of_getElem? (i := 175) rfl)) rfl
set_option maxRecDepth 20000 in
theorem zs_X4_mayBe : Cond.selects "AnswerSquareModel" ({ cls := "AnswerSquareModel", name := "mayBe", desc := "(I)Z" } : MethodName) ({ cls := "AnswerSquareModel", name := "mayBe", desc := "(I)Z" } : MethodName) ∈ ztbl := zg (List.mem_append_left _ (List.mem_map.mpr ⟨_, (show _ ∈ lw_privs_1 ++ (lw_privs_2 ++ (lw_privs_3 ++ (lw_privs_4 ++ (lw_privs_5 ++ (lw_privs_6))))) from List.mem_append_right _ (List.mem_append_right _ (List.mem_append_right _ (List.mem_append_left _ (List.mem_of_getElem? (i := 14) rfl))))), rfl⟩)) rfl
set_option maxRecDepth 20000 in
set_option maxRecDepth 20000 in
theorem zm_3_174 : Cond.instanceMethod ({ cls := "AnswerSquareModel", name := "mayBe", desc := "(I)Z" } : MethodName) ∈ ztbl := zg (zt_3 (List.mem_of_getElem? (i := 174) rfl)) rfl
theorem zy_X4_mayBe : zYv mX4_mayBe 1 := ⟨zm_3_175, zm_1_5, zm_3_174, zs_X4_mayBe, ⟨by decide +kernel, by decide +kernel⟩, by decide +kernel, by decide⟩
def mX4_due : ZM := (yX4_due, cX4_due, 3, (some (FieldType.int)))
set_option maxRecDepth 20000 in
theorem zm_3_179 : Cond.code ({ cls := "AnswerSquareModel", name := "due", desc := "(Z)I" } : MethodName) prog_6_method_8_code (3 : Nat) (Option.some FieldType.int) ∈ ztbl := zg (zt_3 (List.mem_of_getElem? (i := 179) rfl)) rfl
set_option maxRecDepth 20000 in
theorem zs_X4_due : Cond.selects "AnswerSquareModel" ({ cls := "AnswerSquareModel", name := "due", desc := "(Z)I" } : MethodName) ({ cls := "AnswerSquareModel", name := "due", desc := "(Z)I" } : MethodName) ∈ ztbl := zg (List.mem_append_left _ (List.mem_map.mpr ⟨_, (show _ ∈ lw_privs_1 ++ (lw_privs_2 ++ (lw_privs_3 ++ (lw_privs_4 ++ (lw_privs_5 ++ (lw_privs_6))))) from List.mem_append_right _ (List.mem_append_right _ (List.mem_append_right _ (List.mem_append_left _ (List.mem_of_getElem? (i := 15) rfl))))), rfl⟩)) rfl
set_option maxRecDepth 20000 in
set_option maxRecDepth 20000 in
theorem zm_3_178 : Cond.instanceMethod ({ cls := "AnswerSquareModel", name := "due", desc := "(Z)I" } : MethodName) ∈ ztbl := zg (zt_3 (List.mem_of_getElem? (i := 178) rfl)) rfl
theorem zy_X4_due : zYv mX4_due 1 := ⟨zm_3_179, zm_1_5, zm_3_178, zs_X4_due, ⟨by decide +kernel, by decide +kernel⟩, by decide +kernel, by decide⟩
def mX4_readRow : ZM := (yX4_readRow, cX4_readRow, 3, none)
set_option maxRecDepth 20000 in
theorem zm_3_183 : Cond.code ({ cls := "AnswerSquareModel", name := "readRow", desc := "(I)V" } : MethodName) prog_6_method_12_code (3 : Nat) (Option.none : Option FieldType) ∈ ztbl := zg (zt_3 (List.mem_of_getElem? (i := 183) rfl)) rfl
set_option maxRecDepth 20000 in
theorem zs_X4_readRow : Cond.selects "AnswerSquareModel" ({ cls := "AnswerSquareModel", name := "readRow", desc := "(I)V" } : MethodName) ({ cls := "AnswerSquareModel", name := "readRow", desc := "(I)V" } : MethodName) ∈ ztbl := zg (List.mem_append_left _ (List.mem_map.mpr ⟨_, (show _ ∈ lw_privs_1 ++ (lw_privs_2 ++ (lw_privs_3 ++ (lw_privs_4 ++ (lw_privs_5 ++ (lw_privs_6))))) from List.mem_append_right _ (List.mem_append_right _ (List.mem_append_right _ (List.mem_append_right _ (List.mem_append_left _ (List.mem_of_getElem? (i := 0) rfl)))))), rfl⟩)) rfl
set_option maxRecDepth 20000 in
set_option maxRecDepth 20000 in
theorem zm_3_182 : Cond.instanceMethod ({ cls := "AnswerSquareModel", name := "readRow", desc := "(I)V" } : MethodName) ∈ ztbl := zg (zt_3 (List.mem_of_getElem? (i := 182) rfl)) rfl
theorem zy_X4_readRow : zYv mX4_readRow 1 := ⟨zm_3_183, zm_1_5, zm_3_182, zs_X4_readRow, ⟨by decide +kernel, by decide +kernel⟩, by decide +kernel, by decide⟩
def mX4_number : ZM := (yX4_number, cX4_number, 3, (some (FieldType.int)))
set_option maxRecDepth 20000 in
theorem zm_3_187 : Cond.code ({ cls := "AnswerSquareModel", name := "number", desc := "(II)I" } : MethodName) prog_6_method_9_code (3 : Nat) (Option.some FieldType.int) ∈ ztbl := zg (zt_3 (List.mem_of_getElem? (i := 187) rfl)) rfl
set_option maxRecDepth 20000 in
theorem zs_X4_number : Cond.selects "AnswerSquareModel" ({ cls := "AnswerSquareModel", name := "number", desc := "(II)I" } : MethodName) ({ cls := "AnswerSquareModel", name := "number", desc := "(II)I" } : MethodName) ∈ ztbl := zg (List.mem_append_left _ (List.mem_map.mpr ⟨_, (show _ ∈ lw_privs_1 ++ (lw_privs_2 ++ (lw_privs_3 ++ (lw_privs_4 ++ (lw_privs_5 ++ (lw_privs_6))))) from List.mem_append_right _ (List.mem_append_right _ (List.mem_append_right _ (List.mem_append_right _ (List.mem_append_left _ (List.mem_of_getElem? (i := 1) rfl)))))), rfl⟩)) rfl
set_option maxRecDepth 20000 in
set_option maxRecDepth 20000 in
theorem zm_3_186 : Cond.instanceMethod ({ cls := "AnswerSquareModel", name := "number", desc := "(II)I" } : MethodName) ∈ ztbl := zg (zt_3 (List.mem_of_getElem? (i := 186) rfl)) rfl
theorem zy_X4_number : zYv mX4_number 2 := ⟨zm_3_187, zm_1_5, zm_3_186, zs_X4_number, ⟨by decide +kernel, by decide +kernel⟩, by decide +kernel, by decide⟩
def mX4_readSet : ZM := (yX4_readSet, cX4_readSet, 3, (some (FieldType.int)))
set_option maxRecDepth 20000 in
theorem zm_3_191 : Cond.code ({ cls := "AnswerSquareModel", name := "readSet", desc := "()I" } : MethodName) prog_6_method_11_code (3 : Nat) (Option.some FieldType.int) ∈ ztbl := zg (zt_3 (List.mem_of_getElem? (i := 191) rfl)) rfl
set_option maxRecDepth 20000 in
theorem zs_X4_readSet : Cond.selects "AnswerSquareModel" ({ cls := "AnswerSquareModel", name := "readSet", desc := "()I" } : MethodName) ({ cls := "AnswerSquareModel", name := "readSet", desc := "()I" } : MethodName) ∈ ztbl := zg (List.mem_append_left _ (List.mem_map.mpr ⟨_, (show _ ∈ lw_privs_1 ++ (lw_privs_2 ++ (lw_privs_3 ++ (lw_privs_4 ++ (lw_privs_5 ++ (lw_privs_6))))) from List.mem_append_right _ (List.mem_append_right _ (List.mem_append_right _ (List.mem_append_right _ (List.mem_append_left _ (List.mem_of_getElem? (i := 2) rfl)))))), rfl⟩)) rfl
set_option maxRecDepth 20000 in
set_option maxRecDepth 20000 in
theorem zm_3_190 : Cond.instanceMethod ({ cls := "AnswerSquareModel", name := "readSet", desc := "()I" } : MethodName) ∈ ztbl := zg (zt_3 (List.mem_of_getElem? (i := 190) rfl)) rfl
theorem zy_X4_readSet : zYv mX4_readSet 0 := ⟨zm_3_191, zm_1_5, zm_3_190, zs_X4_readSet, ⟨by decide +kernel, by decide +kernel⟩, by decide +kernel, by decide⟩
def mX4_saying : ZM := (yX4_saying, cX4_saying, 3, (some (FieldType.int)))
set_option maxRecDepth 20000 in
theorem zm_3_195 : Cond.code ({ cls := "AnswerSquareModel", name := "saying", desc := "(II)I" } : MethodName) prog_6_method_24_code (3 : Nat) (Option.some FieldType.int) ∈ ztbl := zg (zt_3 (List.mem_of_getElem? (i := 195) rfl)) rfl
set_option maxRecDepth 20000 in
theorem zm_3_194 : Cond.selects "AnswerSquareModel" ({ cls := "AnswerSquareModel", name := "saying", desc := "(II)I" } : MethodName) ({ cls := "AnswerSquareModel", name := "saying", desc := "(II)I" } : MethodName) ∈ ztbl := zg (zt_3 (List.mem_of_getElem? (i := 194) rfl)) rfl
set_option maxRecDepth 20000 in
set_option maxRecDepth 20000 in
theorem zm_3_193 : Cond.instanceMethod ({ cls := "AnswerSquareModel", name := "saying", desc := "(II)I" } : MethodName) ∈ ztbl := zg (zt_3 (List.mem_of_getElem? (i := 193) rfl)) rfl
theorem zy_X4_saying : zYv mX4_saying 2 := ⟨zm_3_195, zm_1_5, zm_3_193, zm_3_194, ⟨by decide +kernel, by decide +kernel⟩, by decide +kernel, by decide⟩
def mX4_isSaying : ZM := (yX4_isSaying, cX4_isSaying, 2, (some (FieldType.boolean)))
set_option maxRecDepth 20000 in
theorem zm_3_199 : Cond.code ({ cls := "AnswerSquareModel", name := "isSaying", desc := "(I)Z" } : MethodName) prog_6_method_16_code (2 : Nat) (Option.some FieldType.boolean) ∈ ztbl := zg (zt_3 (List.mem_of_getElem? (i := 199) rfl)) rfl
set_option maxRecDepth 20000 in
theorem zs_X4_isSaying : Cond.selects "AnswerSquareModel" ({ cls := "AnswerSquareModel", name := "isSaying", desc := "(I)Z" } : MethodName) ({ cls := "AnswerSquareModel", name := "isSaying", desc := "(I)Z" } : MethodName) ∈ ztbl := zg (List.mem_append_left _ (List.mem_map.mpr ⟨_, (show _ ∈ lw_privs_1 ++ (lw_privs_2 ++ (lw_privs_3 ++ (lw_privs_4 ++ (lw_privs_5 ++ (lw_privs_6))))) from List.mem_append_right _ (List.mem_append_right _ (List.mem_append_right _ (List.mem_append_right _ (List.mem_append_left _ (List.mem_of_getElem? (i := 3) rfl)))))), rfl⟩)) rfl
set_option maxRecDepth 20000 in
set_option maxRecDepth 20000 in
theorem zm_3_198 : Cond.instanceMethod ({ cls := "AnswerSquareModel", name := "isSaying", desc := "(I)Z" } : MethodName) ∈ ztbl := zg (zt_3 (List.mem_of_getElem? (i := 198) rfl)) rfl
theorem zy_X4_isSaying : zYv mX4_isSaying 1 := ⟨zm_3_199, zm_1_5, zm_3_198, zs_X4_isSaying, ⟨by decide +kernel, by decide +kernel⟩, by decide +kernel, by decide⟩
def mX4_isSound : ZM := (yX4_isSound, cX4_isSound, 2, (some (FieldType.boolean)))
set_option maxRecDepth 20000 in
theorem zm_3_203 : Cond.code ({ cls := "AnswerSquareModel", name := "isSound", desc := "(I)Z" } : MethodName) prog_6_method_18_code (2 : Nat) (Option.some FieldType.boolean) ∈ ztbl := zg (zt_3 (List.mem_of_getElem? (i := 203) rfl)) rfl
set_option maxRecDepth 20000 in
theorem zs_X4_isSound : Cond.selects "AnswerSquareModel" ({ cls := "AnswerSquareModel", name := "isSound", desc := "(I)Z" } : MethodName) ({ cls := "AnswerSquareModel", name := "isSound", desc := "(I)Z" } : MethodName) ∈ ztbl := zg (List.mem_append_left _ (List.mem_map.mpr ⟨_, (show _ ∈ lw_privs_1 ++ (lw_privs_2 ++ (lw_privs_3 ++ (lw_privs_4 ++ (lw_privs_5 ++ (lw_privs_6))))) from List.mem_append_right _ (List.mem_append_right _ (List.mem_append_right _ (List.mem_append_right _ (List.mem_append_left _ (List.mem_of_getElem? (i := 4) rfl)))))), rfl⟩)) rfl
set_option maxRecDepth 20000 in
set_option maxRecDepth 20000 in
theorem zm_3_202 : Cond.instanceMethod ({ cls := "AnswerSquareModel", name := "isSound", desc := "(I)Z" } : MethodName) ∈ ztbl := zg (zt_3 (List.mem_of_getElem? (i := 202) rfl)) rfl
theorem zy_X4_isSound : zYv mX4_isSound 1 := ⟨zm_3_203, zm_1_5, zm_3_202, zs_X4_isSound, ⟨by decide +kernel, by decide +kernel⟩, by decide +kernel, by decide⟩
def mX4_knownBy : ZM := (yX4_knownBy, cX4_knownBy, 4, (some (FieldType.int)))
set_option maxRecDepth 20000 in
theorem zm_3_207 : Cond.code ({ cls := "AnswerSquareModel", name := "knownBy", desc := "(I)I" } : MethodName) prog_6_method_22_code (4 : Nat) (Option.some FieldType.int) ∈ ztbl := zg (zt_3 (List.mem_of_getElem? (i := 207) rfl)) rfl
set_option maxRecDepth 20000 in
theorem zs_X4_knownBy : Cond.selects "AnswerSquareModel" ({ cls := "AnswerSquareModel", name := "knownBy", desc := "(I)I" } : MethodName) ({ cls := "AnswerSquareModel", name := "knownBy", desc := "(I)I" } : MethodName) ∈ ztbl := zg (List.mem_append_left _ (List.mem_map.mpr ⟨_, (show _ ∈ lw_privs_1 ++ (lw_privs_2 ++ (lw_privs_3 ++ (lw_privs_4 ++ (lw_privs_5 ++ (lw_privs_6))))) from List.mem_append_right _ (List.mem_append_right _ (List.mem_append_right _ (List.mem_append_right _ (List.mem_append_left _ (List.mem_of_getElem? (i := 5) rfl)))))), rfl⟩)) rfl
set_option maxRecDepth 20000 in
set_option maxRecDepth 20000 in
theorem zm_3_206 : Cond.instanceMethod ({ cls := "AnswerSquareModel", name := "knownBy", desc := "(I)I" } : MethodName) ∈ ztbl := zg (zt_3 (List.mem_of_getElem? (i := 206) rfl)) rfl
theorem zy_X4_knownBy : zYv mX4_knownBy 1 := ⟨zm_3_207, zm_1_5, zm_3_206, zs_X4_knownBy, ⟨by decide +kernel, by decide +kernel⟩, by decide +kernel, by decide⟩
def mX4_oftenOf : ZM := (yX4_oftenOf, cX4_oftenOf, 4, (some (FieldType.int)))
set_option maxRecDepth 20000 in
theorem zm_3_211 : Cond.code ({ cls := "AnswerSquareModel", name := "oftenOf", desc := "(I)I" } : MethodName) prog_6_method_23_code (4 : Nat) (Option.some FieldType.int) ∈ ztbl := zg (zt_3 (List.mem_of_getElem? (i := 211) rfl)) rfl
set_option maxRecDepth 20000 in
theorem zs_X4_oftenOf : Cond.selects "AnswerSquareModel" ({ cls := "AnswerSquareModel", name := "oftenOf", desc := "(I)I" } : MethodName) ({ cls := "AnswerSquareModel", name := "oftenOf", desc := "(I)I" } : MethodName) ∈ ztbl := zg (List.mem_append_left _ (List.mem_map.mpr ⟨_, (show _ ∈ lw_privs_1 ++ (lw_privs_2 ++ (lw_privs_3 ++ (lw_privs_4 ++ (lw_privs_5 ++ (lw_privs_6))))) from List.mem_append_right _ (List.mem_append_right _ (List.mem_append_right _ (List.mem_append_right _ (List.mem_append_left _ (List.mem_of_getElem? (i := 6) rfl)))))), rfl⟩)) rfl
set_option maxRecDepth 20000 in
set_option maxRecDepth 20000 in
theorem zm_3_210 : Cond.instanceMethod ({ cls := "AnswerSquareModel", name := "oftenOf", desc := "(I)I" } : MethodName) ∈ ztbl := zg (zt_3 (List.mem_of_getElem? (i := 210) rfl)) rfl
theorem zy_X4_oftenOf : zYv mX4_oftenOf 1 := ⟨zm_3_211, zm_1_5, zm_3_210, zs_X4_oftenOf, ⟨by decide +kernel, by decide +kernel⟩, by decide +kernel, by decide⟩
def mX4_person : ZM := (yX4_person, cX4_person, 5, (some (FieldType.int)))
set_option maxRecDepth 20000 in
theorem zm_3_215 : Cond.code ({ cls := "AnswerSquareModel", name := "person", desc := "(II)I" } : MethodName) prog_6_method_26_code (5 : Nat) (Option.some FieldType.int) ∈ ztbl := zg (zt_3 (List.mem_of_getElem? (i := 215) rfl)) rfl
set_option maxRecDepth 20000 in
theorem zm_3_214 : Cond.selects "AnswerSquareModel" ({ cls := "AnswerSquareModel", name := "person", desc := "(II)I" } : MethodName) ({ cls := "AnswerSquareModel", name := "person", desc := "(II)I" } : MethodName) ∈ ztbl := zg (zt_3 (List.mem_of_getElem? (i := 214) rfl)) rfl
set_option maxRecDepth 20000 in
set_option maxRecDepth 20000 in
theorem zm_3_213 : Cond.instanceMethod ({ cls := "AnswerSquareModel", name := "person", desc := "(II)I" } : MethodName) ∈ ztbl := zg (zt_3 (List.mem_of_getElem? (i := 213) rfl)) rfl
theorem zy_X4_person : zYv mX4_person 2 := ⟨zm_3_215, zm_1_5, zm_3_213, zm_3_214, ⟨by decide +kernel, by decide +kernel⟩, by decide +kernel, by decide⟩
def mX4_isPerson : ZM := (yX4_isPerson, cX4_isPerson, 2, (some (FieldType.boolean)))
set_option maxRecDepth 20000 in
theorem zm_3_219 : Cond.code ({ cls := "AnswerSquareModel", name := "isPerson", desc := "(I)Z" } : MethodName) prog_6_method_17_code (2 : Nat) (Option.some FieldType.boolean) ∈ ztbl := zg (zt_3 (List.mem_of_getElem? (i := 219) rfl)) rfl
set_option maxRecDepth 20000 in
theorem zs_X4_isPerson : Cond.selects "AnswerSquareModel" ({ cls := "AnswerSquareModel", name := "isPerson", desc := "(I)Z" } : MethodName) ({ cls := "AnswerSquareModel", name := "isPerson", desc := "(I)Z" } : MethodName) ∈ ztbl := zg (List.mem_append_left _ (List.mem_map.mpr ⟨_, (show _ ∈ lw_privs_1 ++ (lw_privs_2 ++ (lw_privs_3 ++ (lw_privs_4 ++ (lw_privs_5 ++ (lw_privs_6))))) from List.mem_append_right _ (List.mem_append_right _ (List.mem_append_right _ (List.mem_append_right _ (List.mem_append_left _ (List.mem_of_getElem? (i := 7) rfl)))))), rfl⟩)) rfl
set_option maxRecDepth 20000 in
set_option maxRecDepth 20000 in
theorem zm_3_218 : Cond.instanceMethod ({ cls := "AnswerSquareModel", name := "isPerson", desc := "(I)Z" } : MethodName) ∈ ztbl := zg (zt_3 (List.mem_of_getElem? (i := 218) rfl)) rfl
theorem zy_X4_isPerson : zYv mX4_isPerson 1 := ⟨zm_3_219, zm_1_5, zm_3_218, zs_X4_isPerson, ⟨by decide +kernel, by decide +kernel⟩, by decide +kernel, by decide⟩
def mX4_there : ZM := (yX4_there, cX4_there, 4, (some (FieldType.int)))
set_option maxRecDepth 20000 in
theorem zm_3_223 : Cond.code ({ cls := "AnswerSquareModel", name := "there", desc := "(I)I" } : MethodName) prog_6_method_21_code (4 : Nat) (Option.some FieldType.int) ∈ ztbl := zg (zt_3 (List.mem_of_getElem? (i := 223) rfl)) rfl
set_option maxRecDepth 20000 in
theorem zs_X4_there : Cond.selects "AnswerSquareModel" ({ cls := "AnswerSquareModel", name := "there", desc := "(I)I" } : MethodName) ({ cls := "AnswerSquareModel", name := "there", desc := "(I)I" } : MethodName) ∈ ztbl := zg (List.mem_append_left _ (List.mem_map.mpr ⟨_, (show _ ∈ lw_privs_1 ++ (lw_privs_2 ++ (lw_privs_3 ++ (lw_privs_4 ++ (lw_privs_5 ++ (lw_privs_6))))) from List.mem_append_right _ (List.mem_append_right _ (List.mem_append_right _ (List.mem_append_right _ (List.mem_append_left _ (List.mem_of_getElem? (i := 8) rfl)))))), rfl⟩)) rfl
set_option maxRecDepth 20000 in
set_option maxRecDepth 20000 in
theorem zm_3_222 : Cond.instanceMethod ({ cls := "AnswerSquareModel", name := "there", desc := "(I)I" } : MethodName) ∈ ztbl := zg (zt_3 (List.mem_of_getElem? (i := 222) rfl)) rfl
theorem zy_X4_there : zYv mX4_there 1 := ⟨zm_3_223, zm_1_5, zm_3_222, zs_X4_there, ⟨by decide +kernel, by decide +kernel⟩, by decide +kernel, by decide⟩
def mX4_isThere : ZM := (yX4_isThere, cX4_isThere, 3, (some (FieldType.boolean)))
set_option maxRecDepth 20000 in
theorem zm_3_227 : Cond.code ({ cls := "AnswerSquareModel", name := "isThere", desc := "(II)Z" } : MethodName) prog_6_method_20_code (3 : Nat) (Option.some FieldType.boolean) ∈ ztbl := zg (zt_3 (List.mem_of_getElem? (i := 227) rfl)) rfl
set_option maxRecDepth 20000 in
theorem zs_X4_isThere : Cond.selects "AnswerSquareModel" ({ cls := "AnswerSquareModel", name := "isThere", desc := "(II)Z" } : MethodName) ({ cls := "AnswerSquareModel", name := "isThere", desc := "(II)Z" } : MethodName) ∈ ztbl := zg (List.mem_append_left _ (List.mem_map.mpr ⟨_, (show _ ∈ lw_privs_1 ++ (lw_privs_2 ++ (lw_privs_3 ++ (lw_privs_4 ++ (lw_privs_5 ++ (lw_privs_6))))) from List.mem_append_right _ (List.mem_append_right _ (List.mem_append_right _ (List.mem_append_right _ (List.mem_append_left _ (List.mem_of_getElem? (i := 9) rfl)))))), rfl⟩)) rfl
set_option maxRecDepth 20000 in
set_option maxRecDepth 20000 in
theorem zm_3_226 : Cond.instanceMethod ({ cls := "AnswerSquareModel", name := "isThere", desc := "(II)Z" } : MethodName) ∈ ztbl := zg (zt_3 (List.mem_of_getElem? (i := 226) rfl)) rfl
theorem zy_X4_isThere : zYv mX4_isThere 2 := ⟨zm_3_227, zm_1_5, zm_3_226, zs_X4_isThere, ⟨by decide +kernel, by decide +kernel⟩, by decide +kernel, by decide⟩
def mX4_mayOf : ZM := (yX4_mayOf, cX4_mayOf, 5, (some (FieldType.int)))
set_option maxRecDepth 20000 in
theorem zm_3_231 : Cond.code ({ cls := "AnswerSquareModel", name := "mayOf", desc := "(II)I" } : MethodName) prog_6_method_25_code (5 : Nat) (Option.some FieldType.int) ∈ ztbl := zg (zt_3 (List.mem_of_getElem? (i := 231) rfl)) rfl
set_option maxRecDepth 20000 in
theorem zs_X4_mayOf : Cond.selects "AnswerSquareModel" ({ cls := "AnswerSquareModel", name := "mayOf", desc := "(II)I" } : MethodName) ({ cls := "AnswerSquareModel", name := "mayOf", desc := "(II)I" } : MethodName) ∈ ztbl := zg (List.mem_append_left _ (List.mem_map.mpr ⟨_, (show _ ∈ lw_privs_1 ++ (lw_privs_2 ++ (lw_privs_3 ++ (lw_privs_4 ++ (lw_privs_5 ++ (lw_privs_6))))) from List.mem_append_right _ (List.mem_append_right _ (List.mem_append_right _ (List.mem_append_right _ (List.mem_append_left _ (List.mem_of_getElem? (i := 10) rfl)))))), rfl⟩)) rfl
set_option maxRecDepth 20000 in
set_option maxRecDepth 20000 in
theorem zm_3_230 : Cond.instanceMethod ({ cls := "AnswerSquareModel", name := "mayOf", desc := "(II)I" } : MethodName) ∈ ztbl := zg (zt_3 (List.mem_of_getElem? (i := 230) rfl)) rfl
theorem zy_X4_mayOf : zYv mX4_mayOf 2 := ⟨zm_3_231, zm_1_5, zm_3_230, zs_X4_mayOf, ⟨by decide +kernel, by decide +kernel⟩, by decide +kernel, by decide⟩
def mX4_talk : ZM := (yX4_talk, cX4_talk, 3, (some (FieldType.int)))
set_option maxRecDepth 20000 in
theorem zm_3_235 : Cond.code ({ cls := "AnswerSquareModel", name := "talk", desc := "(II)I" } : MethodName) prog_6_method_30_code (3 : Nat) (Option.some FieldType.int) ∈ ztbl := zg (zt_3 (List.mem_of_getElem? (i := 235) rfl)) rfl
set_option maxRecDepth 20000 in
theorem zm_3_234 : Cond.selects "AnswerSquareModel" ({ cls := "AnswerSquareModel", name := "talk", desc := "(II)I" } : MethodName) ({ cls := "AnswerSquareModel", name := "talk", desc := "(II)I" } : MethodName) ∈ ztbl := zg (zt_3 (List.mem_of_getElem? (i := 234) rfl)) rfl
set_option maxRecDepth 20000 in
set_option maxRecDepth 20000 in
theorem zm_3_233 : Cond.instanceMethod ({ cls := "AnswerSquareModel", name := "talk", desc := "(II)I" } : MethodName) ∈ ztbl := zg (zt_3 (List.mem_of_getElem? (i := 233) rfl)) rfl
theorem zy_X4_talk : zYv mX4_talk 2 := ⟨zm_3_235, zm_1_5, zm_3_233, zm_3_234, ⟨by decide +kernel, by decide +kernel⟩, by decide +kernel, by decide⟩
def mX4_rootOf : ZM := (yX4_rootOf, cX4_rootOf, 3, (some (FieldType.int)))
set_option maxRecDepth 20000 in
theorem zm_3_239 : Cond.code ({ cls := "AnswerSquareModel", name := "rootOf", desc := "(I)I" } : MethodName) prog_6_method_27_code (3 : Nat) (Option.some FieldType.int) ∈ ztbl := zg (zt_3 (List.mem_of_getElem? (i := 239) rfl)) rfl
set_option maxRecDepth 20000 in
theorem zs_X4_rootOf : Cond.selects "AnswerSquareModel" ({ cls := "AnswerSquareModel", name := "rootOf", desc := "(I)I" } : MethodName) ({ cls := "AnswerSquareModel", name := "rootOf", desc := "(I)I" } : MethodName) ∈ ztbl := zg (List.mem_append_left _ (List.mem_map.mpr ⟨_, (show _ ∈ lw_privs_1 ++ (lw_privs_2 ++ (lw_privs_3 ++ (lw_privs_4 ++ (lw_privs_5 ++ (lw_privs_6))))) from List.mem_append_right _ (List.mem_append_right _ (List.mem_append_right _ (List.mem_append_right _ (List.mem_append_left _ (List.mem_of_getElem? (i := 11) rfl)))))), rfl⟩)) rfl
set_option maxRecDepth 20000 in
set_option maxRecDepth 20000 in
theorem zm_3_238 : Cond.instanceMethod ({ cls := "AnswerSquareModel", name := "rootOf", desc := "(I)I" } : MethodName) ∈ ztbl := zg (zt_3 (List.mem_of_getElem? (i := 238) rfl)) rfl
theorem zy_X4_rootOf : zYv mX4_rootOf 1 := ⟨zm_3_239, zm_1_5, zm_3_238, zs_X4_rootOf, ⟨by decide +kernel, by decide +kernel⟩, by decide +kernel, by decide⟩
def mX4_farOf : ZM := (yX4_farOf, cX4_farOf, 4, (some (FieldType.int)))
set_option maxRecDepth 20000 in
theorem zm_4_3 : Cond.code ({ cls := "AnswerSquareModel", name := "farOf", desc := "(I)I" } : MethodName) prog_6_method_28_code (4 : Nat) (Option.some FieldType.int) ∈ ztbl := zg (zt_4 (List.mem_of_getElem? (i := 3) rfl)) rfl
set_option maxRecDepth 20000 in
theorem zs_X4_farOf : Cond.selects "AnswerSquareModel" ({ cls := "AnswerSquareModel", name := "farOf", desc := "(I)I" } : MethodName) ({ cls := "AnswerSquareModel", name := "farOf", desc := "(I)I" } : MethodName) ∈ ztbl := zg (List.mem_append_left _ (List.mem_map.mpr ⟨_, (show _ ∈ lw_privs_1 ++ (lw_privs_2 ++ (lw_privs_3 ++ (lw_privs_4 ++ (lw_privs_5 ++ (lw_privs_6))))) from List.mem_append_right _ (List.mem_append_right _ (List.mem_append_right _ (List.mem_append_right _ (List.mem_append_left _ (List.mem_of_getElem? (i := 12) rfl)))))), rfl⟩)) rfl
set_option maxRecDepth 20000 in
set_option maxRecDepth 20000 in
theorem zm_4_2 : Cond.instanceMethod ({ cls := "AnswerSquareModel", name := "farOf", desc := "(I)I" } : MethodName) ∈ ztbl := zg (zt_4 (List.mem_of_getElem? (i := 2) rfl)) rfl
theorem zy_X4_farOf : zYv mX4_farOf 1 := ⟨zm_4_3, zm_1_5, zm_4_2, zs_X4_farOf, ⟨by decide +kernel, by decide +kernel⟩, by decide +kernel, by decide⟩
def mX4_firstAnswer : ZM := (yX4_firstAnswer, cX4_firstAnswer, 3, (some (FieldType.int)))
set_option maxRecDepth 20000 in
theorem zm_4_7 : Cond.code ({ cls := "AnswerSquareModel", name := "firstAnswer", desc := "(I)I" } : MethodName) prog_6_method_29_code (3 : Nat) (Option.some FieldType.int) ∈ ztbl := zg (zt_4 (List.mem_of_getElem? (i := 7) rfl)) rfl
set_option maxRecDepth 20000 in
theorem zs_X4_firstAnswer : Cond.selects "AnswerSquareModel" ({ cls := "AnswerSquareModel", name := "firstAnswer", desc := "(I)I" } : MethodName) ({ cls := "AnswerSquareModel", name := "firstAnswer", desc := "(I)I" } : MethodName) ∈ ztbl := zg (List.mem_append_left _ (List.mem_map.mpr ⟨_, (show _ ∈ lw_privs_1 ++ (lw_privs_2 ++ (lw_privs_3 ++ (lw_privs_4 ++ (lw_privs_5 ++ (lw_privs_6))))) from List.mem_append_right _ (List.mem_append_right _ (List.mem_append_right _ (List.mem_append_right _ (List.mem_append_left _ (List.mem_of_getElem? (i := 13) rfl)))))), rfl⟩)) rfl
set_option maxRecDepth 20000 in
set_option maxRecDepth 20000 in
theorem zm_4_6 : Cond.instanceMethod ({ cls := "AnswerSquareModel", name := "firstAnswer", desc := "(I)I" } : MethodName) ∈ ztbl := zg (zt_4 (List.mem_of_getElem? (i := 6) rfl)) rfl
theorem zy_X4_firstAnswer : zYv mX4_firstAnswer 1 := ⟨zm_4_7, zm_1_5, zm_4_6, zs_X4_firstAnswer, ⟨by decide +kernel, by decide +kernel⟩, by decide +kernel, by decide⟩
def mX4_hears : ZM := (yX4_hears, cX4_hears, 2, (some (FieldType.int)))
set_option maxRecDepth 20000 in
theorem zm_4_11 : Cond.code ({ cls := "AnswerSquareModel", name := "hears", desc := "(I)I" } : MethodName) prog_6_method_33_code (2 : Nat) (Option.some FieldType.int) ∈ ztbl := zg (zt_4 (List.mem_of_getElem? (i := 11) rfl)) rfl
set_option maxRecDepth 20000 in
theorem zm_4_10 : Cond.selects "AnswerSquareModel" ({ cls := "AnswerSquareModel", name := "hears", desc := "(I)I" } : MethodName) ({ cls := "AnswerSquareModel", name := "hears", desc := "(I)I" } : MethodName) ∈ ztbl := zg (zt_4 (List.mem_of_getElem? (i := 10) rfl)) rfl
set_option maxRecDepth 20000 in
set_option maxRecDepth 20000 in
theorem zm_4_9 : Cond.instanceMethod ({ cls := "AnswerSquareModel", name := "hears", desc := "(I)I" } : MethodName) ∈ ztbl := zg (zt_4 (List.mem_of_getElem? (i := 9) rfl)) rfl
theorem zy_X4_hears : zYv mX4_hears 1 := ⟨zm_4_11, zm_1_5, zm_4_9, zm_4_10, ⟨by decide +kernel, by decide +kernel⟩, by decide +kernel, by decide⟩
def mX4_add : ZM := (yX4_add, cX4_add, 5, none)
set_option maxRecDepth 20000 in
theorem zm_4_15 : Cond.code ({ cls := "AnswerSquareModel", name := "add", desc := "(III)V" } : MethodName) prog_6_method_32_code (5 : Nat) (Option.none : Option FieldType) ∈ ztbl := zg (zt_4 (List.mem_of_getElem? (i := 15) rfl)) rfl
set_option maxRecDepth 20000 in
theorem zs_X4_add : Cond.selects "AnswerSquareModel" ({ cls := "AnswerSquareModel", name := "add", desc := "(III)V" } : MethodName) ({ cls := "AnswerSquareModel", name := "add", desc := "(III)V" } : MethodName) ∈ ztbl := zg (List.mem_append_left _ (List.mem_map.mpr ⟨_, (show _ ∈ lw_privs_1 ++ (lw_privs_2 ++ (lw_privs_3 ++ (lw_privs_4 ++ (lw_privs_5 ++ (lw_privs_6))))) from List.mem_append_right _ (List.mem_append_right _ (List.mem_append_right _ (List.mem_append_right _ (List.mem_append_left _ (List.mem_of_getElem? (i := 14) rfl)))))), rfl⟩)) rfl
set_option maxRecDepth 20000 in
set_option maxRecDepth 20000 in
theorem zm_4_14 : Cond.instanceMethod ({ cls := "AnswerSquareModel", name := "add", desc := "(III)V" } : MethodName) ∈ ztbl := zg (zt_4 (List.mem_of_getElem? (i := 14) rfl)) rfl
theorem zy_X4_add : zYv mX4_add 3 := ⟨zm_4_15, zm_1_5, zm_4_14, zs_X4_add, ⟨by decide +kernel, by decide +kernel⟩, by decide +kernel, by decide⟩
def mX4_know : ZM := (yX4_know, cX4_know, 2, none)
set_option maxRecDepth 20000 in
theorem zm_4_19 : Cond.code ({ cls := "AnswerSquareModel", name := "know", desc := "()V" } : MethodName) prog_6_method_31_code (2 : Nat) (Option.none : Option FieldType) ∈ ztbl := zg (zt_4 (List.mem_of_getElem? (i := 19) rfl)) rfl
set_option maxRecDepth 20000 in
theorem zs_X4_know : Cond.selects "AnswerSquareModel" ({ cls := "AnswerSquareModel", name := "know", desc := "()V" } : MethodName) ({ cls := "AnswerSquareModel", name := "know", desc := "()V" } : MethodName) ∈ ztbl := zg (List.mem_append_left _ (List.mem_map.mpr ⟨_, (show _ ∈ lw_privs_1 ++ (lw_privs_2 ++ (lw_privs_3 ++ (lw_privs_4 ++ (lw_privs_5 ++ (lw_privs_6))))) from List.mem_append_right _ (List.mem_append_right _ (List.mem_append_right _ (List.mem_append_right _ (List.mem_append_left _ (List.mem_of_getElem? (i := 15) rfl)))))), rfl⟩)) rfl
set_option maxRecDepth 20000 in
set_option maxRecDepth 20000 in
theorem zm_4_18 : Cond.instanceMethod ({ cls := "AnswerSquareModel", name := "know", desc := "()V" } : MethodName) ∈ ztbl := zg (zt_4 (List.mem_of_getElem? (i := 18) rfl)) rfl
theorem zy_X4_know : zYv mX4_know 0 := ⟨zm_4_19, zm_1_5, zm_4_18, zs_X4_know, ⟨by decide +kernel, by decide +kernel⟩, by decide +kernel, by decide⟩
def mX4_says : ZM := (yX4_says, cX4_says, 5, (some (FieldType.int)))
set_option maxRecDepth 20000 in
theorem zm_4_23 : Cond.code ({ cls := "AnswerSquareModel", name := "says", desc := "(II)I" } : MethodName) prog_6_method_34_code (5 : Nat) (Option.some FieldType.int) ∈ ztbl := zg (zt_4 (List.mem_of_getElem? (i := 23) rfl)) rfl
set_option maxRecDepth 20000 in
theorem zm_4_22 : Cond.selects "AnswerSquareModel" ({ cls := "AnswerSquareModel", name := "says", desc := "(II)I" } : MethodName) ({ cls := "AnswerSquareModel", name := "says", desc := "(II)I" } : MethodName) ∈ ztbl := zg (zt_4 (List.mem_of_getElem? (i := 22) rfl)) rfl
set_option maxRecDepth 20000 in
set_option maxRecDepth 20000 in
theorem zm_4_21 : Cond.instanceMethod ({ cls := "AnswerSquareModel", name := "says", desc := "(II)I" } : MethodName) ∈ ztbl := zg (zt_4 (List.mem_of_getElem? (i := 21) rfl)) rfl
theorem zy_X4_says : zYv mX4_says 2 := ⟨zm_4_23, zm_1_5, zm_4_21, zm_4_22, ⟨by decide +kernel, by decide +kernel⟩, by decide +kernel, by decide⟩
def mX4_hour : ZM := (yX4_hour, cX4_hour, 1, (some (FieldType.int)))
set_option maxRecDepth 20000 in
theorem zm_4_27 : Cond.code ({ cls := "AnswerSquareModel", name := "hour", desc := "()I" } : MethodName) prog_6_method_35_code (1 : Nat) (Option.some FieldType.int) ∈ ztbl := zg (zt_4 (List.mem_of_getElem? (i := 27) rfl)) rfl
set_option maxRecDepth 20000 in
theorem zm_4_26 : Cond.selects "AnswerSquareModel" ({ cls := "AnswerSquareModel", name := "hour", desc := "()I" } : MethodName) ({ cls := "AnswerSquareModel", name := "hour", desc := "()I" } : MethodName) ∈ ztbl := zg (zt_4 (List.mem_of_getElem? (i := 26) rfl)) rfl
set_option maxRecDepth 20000 in
set_option maxRecDepth 20000 in
theorem zm_4_25 : Cond.instanceMethod ({ cls := "AnswerSquareModel", name := "hour", desc := "()I" } : MethodName) ∈ ztbl := zg (zt_4 (List.mem_of_getElem? (i := 25) rfl)) rfl
theorem zy_X4_hour : zYv mX4_hour 0 := ⟨zm_4_27, zm_1_5, zm_4_25, zm_4_26, ⟨by decide +kernel, by decide +kernel⟩, by decide +kernel, by decide⟩
def mX4_undo : ZM := (yX4_undo, cX4_undo, 1, (some (FieldType.int)))
set_option maxRecDepth 20000 in
theorem zm_4_31 : Cond.code ({ cls := "AnswerSquareModel", name := "undo", desc := "()I" } : MethodName) prog_6_method_36_code (1 : Nat) (Option.some FieldType.int) ∈ ztbl := zg (zt_4 (List.mem_of_getElem? (i := 31) rfl)) rfl
set_option maxRecDepth 20000 in
theorem zm_4_30 : Cond.selects "AnswerSquareModel" ({ cls := "AnswerSquareModel", name := "undo", desc := "()I" } : MethodName) ({ cls := "AnswerSquareModel", name := "undo", desc := "()I" } : MethodName) ∈ ztbl := zg (zt_4 (List.mem_of_getElem? (i := 30) rfl)) rfl
set_option maxRecDepth 20000 in
set_option maxRecDepth 20000 in
theorem zm_4_29 : Cond.instanceMethod ({ cls := "AnswerSquareModel", name := "undo", desc := "()I" } : MethodName) ∈ ztbl := zg (zt_4 (List.mem_of_getElem? (i := 29) rfl)) rfl
theorem zy_X4_undo : zYv mX4_undo 0 := ⟨zm_4_31, zm_1_5, zm_4_29, zm_4_30, ⟨by decide +kernel, by decide +kernel⟩, by decide +kernel, by decide⟩
def mX4_now : ZM := (yX4_now, cX4_now, 5, (some (FieldType.int)))
set_option maxRecDepth 20000 in
theorem zm_4_35 : Cond.code ({ cls := "AnswerSquareModel", name := "now", desc := "(I)I" } : MethodName) prog_6_method_39_code (5 : Nat) (Option.some FieldType.int) ∈ ztbl := zg (zt_4 (List.mem_of_getElem? (i := 35) rfl)) rfl
set_option maxRecDepth 20000 in
theorem zm_4_34 : Cond.selects "AnswerSquareModel" ({ cls := "AnswerSquareModel", name := "now", desc := "(I)I" } : MethodName) ({ cls := "AnswerSquareModel", name := "now", desc := "(I)I" } : MethodName) ∈ ztbl := zg (zt_4 (List.mem_of_getElem? (i := 34) rfl)) rfl
set_option maxRecDepth 20000 in
set_option maxRecDepth 20000 in
theorem zm_4_33 : Cond.instanceMethod ({ cls := "AnswerSquareModel", name := "now", desc := "(I)I" } : MethodName) ∈ ztbl := zg (zt_4 (List.mem_of_getElem? (i := 33) rfl)) rfl
theorem zy_X4_now : zYv mX4_now 1 := ⟨zm_4_35, zm_1_5, zm_4_33, zm_4_34, ⟨by decide +kernel, by decide +kernel⟩, by decide +kernel, by decide⟩
def mX4_farthest : ZM := (yX4_farthest, cX4_farthest, 3, (some (FieldType.int)))
set_option maxRecDepth 20000 in
theorem zm_4_39 : Cond.code ({ cls := "AnswerSquareModel", name := "farthest", desc := "()I" } : MethodName) prog_6_method_37_code (3 : Nat) (Option.some FieldType.int) ∈ ztbl := zg (zt_4 (List.mem_of_getElem? (i := 39) rfl)) rfl
set_option maxRecDepth 20000 in
theorem zs_X4_farthest : Cond.selects "AnswerSquareModel" ({ cls := "AnswerSquareModel", name := "farthest", desc := "()I" } : MethodName) ({ cls := "AnswerSquareModel", name := "farthest", desc := "()I" } : MethodName) ∈ ztbl := zg (List.mem_append_left _ (List.mem_map.mpr ⟨_, (show _ ∈ lw_privs_1 ++ (lw_privs_2 ++ (lw_privs_3 ++ (lw_privs_4 ++ (lw_privs_5 ++ (lw_privs_6))))) from List.mem_append_right _ (List.mem_append_right _ (List.mem_append_right _ (List.mem_append_right _ (List.mem_append_right _ ((List.mem_of_getElem? (i := 0) rfl))))))), rfl⟩)) rfl
set_option maxRecDepth 20000 in
set_option maxRecDepth 20000 in
theorem zm_4_38 : Cond.instanceMethod ({ cls := "AnswerSquareModel", name := "farthest", desc := "()I" } : MethodName) ∈ ztbl := zg (zt_4 (List.mem_of_getElem? (i := 38) rfl)) rfl
theorem zy_X4_farthest : zYv mX4_farthest 0 := ⟨zm_4_39, zm_1_5, zm_4_38, zs_X4_farthest, ⟨by decide +kernel, by decide +kernel⟩, by decide +kernel, by decide⟩
def mX4_silent : ZM := (yX4_silent, cX4_silent, 4, (some (FieldType.int)))
set_option maxRecDepth 20000 in
theorem zm_4_43 : Cond.code ({ cls := "AnswerSquareModel", name := "silent", desc := "()I" } : MethodName) prog_6_method_38_code (4 : Nat) (Option.some FieldType.int) ∈ ztbl := zg (zt_4 (List.mem_of_getElem? (i := 43) rfl)) rfl
set_option maxRecDepth 20000 in
theorem zs_X4_silent : Cond.selects "AnswerSquareModel" ({ cls := "AnswerSquareModel", name := "silent", desc := "()I" } : MethodName) ({ cls := "AnswerSquareModel", name := "silent", desc := "()I" } : MethodName) ∈ ztbl := zg (List.mem_append_left _ (List.mem_map.mpr ⟨_, (show _ ∈ lw_privs_1 ++ (lw_privs_2 ++ (lw_privs_3 ++ (lw_privs_4 ++ (lw_privs_5 ++ (lw_privs_6))))) from List.mem_append_right _ (List.mem_append_right _ (List.mem_append_right _ (List.mem_append_right _ (List.mem_append_right _ ((List.mem_of_getElem? (i := 1) rfl))))))), rfl⟩)) rfl
set_option maxRecDepth 20000 in
set_option maxRecDepth 20000 in
theorem zm_4_42 : Cond.instanceMethod ({ cls := "AnswerSquareModel", name := "silent", desc := "()I" } : MethodName) ∈ ztbl := zg (zt_4 (List.mem_of_getElem? (i := 42) rfl)) rfl
theorem zy_X4_silent : zYv mX4_silent 0 := ⟨zm_4_43, zm_1_5, zm_4_42, zs_X4_silent, ⟨by decide +kernel, by decide +kernel⟩, by decide +kernel, by decide⟩
def mX4_worth : ZM := (yX4_worth, cX4_worth, 4, (some (FieldType.int)))
set_option maxRecDepth 20000 in
theorem zm_4_47 : Cond.code ({ cls := "AnswerSquareModel", name := "worth", desc := "(I)I" } : MethodName) prog_6_method_40_code (4 : Nat) (Option.some FieldType.int) ∈ ztbl := zg (zt_4 (List.mem_of_getElem? (i := 47) rfl)) rfl
set_option maxRecDepth 20000 in
theorem zm_4_46 : Cond.selects "AnswerSquareModel" ({ cls := "AnswerSquareModel", name := "worth", desc := "(I)I" } : MethodName) ({ cls := "AnswerSquareModel", name := "worth", desc := "(I)I" } : MethodName) ∈ ztbl := zg (zt_4 (List.mem_of_getElem? (i := 46) rfl)) rfl
set_option maxRecDepth 20000 in
set_option maxRecDepth 20000 in
theorem zm_4_45 : Cond.instanceMethod ({ cls := "AnswerSquareModel", name := "worth", desc := "(I)I" } : MethodName) ∈ ztbl := zg (zt_4 (List.mem_of_getElem? (i := 45) rfl)) rfl
theorem zy_X4_worth : zYv mX4_worth 1 := ⟨zm_4_47, zm_1_5, zm_4_45, zm_4_46, ⟨by decide +kernel, by decide +kernel⟩, by decide +kernel, by decide⟩
def mX4_chain : ZM := (yX4_chain, cX4_chain, 8, (some (FieldType.int)))
set_option maxRecDepth 20000 in
theorem zm_4_51 : Cond.code ({ cls := "AnswerSquareModel", name := "chain", desc := "(II)I" } : MethodName) prog_6_method_45_code (8 : Nat) (Option.some FieldType.int) ∈ ztbl := zg (zt_4 (List.mem_of_getElem? (i := 51) rfl)) rfl
set_option maxRecDepth 20000 in
theorem zm_4_50 : Cond.selects "AnswerSquareModel" ({ cls := "AnswerSquareModel", name := "chain", desc := "(II)I" } : MethodName) ({ cls := "AnswerSquareModel", name := "chain", desc := "(II)I" } : MethodName) ∈ ztbl := zg (zt_4 (List.mem_of_getElem? (i := 50) rfl)) rfl
set_option maxRecDepth 20000 in
set_option maxRecDepth 20000 in
theorem zm_4_49 : Cond.instanceMethod ({ cls := "AnswerSquareModel", name := "chain", desc := "(II)I" } : MethodName) ∈ ztbl := zg (zt_4 (List.mem_of_getElem? (i := 49) rfl)) rfl
theorem zy_X4_chain : zYv mX4_chain 2 := ⟨zm_4_51, zm_1_5, zm_4_49, zm_4_50, ⟨by decide +kernel, by decide +kernel⟩, by decide +kernel, by decide⟩
def mX4_chainOf : ZM := (yX4_chainOf, cX4_chainOf, 5, (some (FieldType.int)))
set_option maxRecDepth 20000 in
theorem zm_4_55 : Cond.code ({ cls := "AnswerSquareModel", name := "chainOf", desc := "(II)I" } : MethodName) prog_6_method_44_code (5 : Nat) (Option.some FieldType.int) ∈ ztbl := zg (zt_4 (List.mem_of_getElem? (i := 55) rfl)) rfl
set_option maxRecDepth 20000 in
theorem zs_X4_chainOf : Cond.selects "AnswerSquareModel" ({ cls := "AnswerSquareModel", name := "chainOf", desc := "(II)I" } : MethodName) ({ cls := "AnswerSquareModel", name := "chainOf", desc := "(II)I" } : MethodName) ∈ ztbl := zg (List.mem_append_left _ (List.mem_map.mpr ⟨_, (show _ ∈ lw_privs_1 ++ (lw_privs_2 ++ (lw_privs_3 ++ (lw_privs_4 ++ (lw_privs_5 ++ (lw_privs_6))))) from List.mem_append_right _ (List.mem_append_right _ (List.mem_append_right _ (List.mem_append_right _ (List.mem_append_right _ ((List.mem_of_getElem? (i := 2) rfl))))))), rfl⟩)) rfl
set_option maxRecDepth 20000 in
set_option maxRecDepth 20000 in
theorem zm_4_54 : Cond.instanceMethod ({ cls := "AnswerSquareModel", name := "chainOf", desc := "(II)I" } : MethodName) ∈ ztbl := zg (zt_4 (List.mem_of_getElem? (i := 54) rfl)) rfl
theorem zy_X4_chainOf : zYv mX4_chainOf 2 := ⟨zm_4_55, zm_1_5, zm_4_54, zs_X4_chainOf, ⟨by decide +kernel, by decide +kernel⟩, by decide +kernel, by decide⟩
def mX4_nextOf : ZM := (yX4_nextOf, cX4_nextOf, 4, (some (FieldType.int)))
set_option maxRecDepth 20000 in
theorem zm_4_59 : Cond.code ({ cls := "AnswerSquareModel", name := "nextOf", desc := "(I)I" } : MethodName) prog_6_method_42_code (4 : Nat) (Option.some FieldType.int) ∈ ztbl := zg (zt_4 (List.mem_of_getElem? (i := 59) rfl)) rfl
set_option maxRecDepth 20000 in
theorem zs_X4_nextOf : Cond.selects "AnswerSquareModel" ({ cls := "AnswerSquareModel", name := "nextOf", desc := "(I)I" } : MethodName) ({ cls := "AnswerSquareModel", name := "nextOf", desc := "(I)I" } : MethodName) ∈ ztbl := zg (List.mem_append_left _ (List.mem_map.mpr ⟨_, (show _ ∈ lw_privs_1 ++ (lw_privs_2 ++ (lw_privs_3 ++ (lw_privs_4 ++ (lw_privs_5 ++ (lw_privs_6))))) from List.mem_append_right _ (List.mem_append_right _ (List.mem_append_right _ (List.mem_append_right _ (List.mem_append_right _ ((List.mem_of_getElem? (i := 3) rfl))))))), rfl⟩)) rfl
set_option maxRecDepth 20000 in
set_option maxRecDepth 20000 in
theorem zm_4_58 : Cond.instanceMethod ({ cls := "AnswerSquareModel", name := "nextOf", desc := "(I)I" } : MethodName) ∈ ztbl := zg (zt_4 (List.mem_of_getElem? (i := 58) rfl)) rfl
theorem zy_X4_nextOf : zYv mX4_nextOf 1 := ⟨zm_4_59, zm_1_5, zm_4_58, zs_X4_nextOf, ⟨by decide +kernel, by decide +kernel⟩, by decide +kernel, by decide⟩
def mX4_sayable : ZM := (yX4_sayable, cX4_sayable, 3, (some (FieldType.int)))
set_option maxRecDepth 20000 in
theorem zm_4_63 : Cond.code ({ cls := "AnswerSquareModel", name := "sayable", desc := "()I" } : MethodName) prog_6_method_41_code (3 : Nat) (Option.some FieldType.int) ∈ ztbl := zg (zt_4 (List.mem_of_getElem? (i := 63) rfl)) rfl
set_option maxRecDepth 20000 in
theorem zs_X4_sayable : Cond.selects "AnswerSquareModel" ({ cls := "AnswerSquareModel", name := "sayable", desc := "()I" } : MethodName) ({ cls := "AnswerSquareModel", name := "sayable", desc := "()I" } : MethodName) ∈ ztbl := zg (List.mem_append_left _ (List.mem_map.mpr ⟨_, (show _ ∈ lw_privs_1 ++ (lw_privs_2 ++ (lw_privs_3 ++ (lw_privs_4 ++ (lw_privs_5 ++ (lw_privs_6))))) from List.mem_append_right _ (List.mem_append_right _ (List.mem_append_right _ (List.mem_append_right _ (List.mem_append_right _ ((List.mem_of_getElem? (i := 4) rfl))))))), rfl⟩)) rfl
set_option maxRecDepth 20000 in
set_option maxRecDepth 20000 in
theorem zm_4_62 : Cond.instanceMethod ({ cls := "AnswerSquareModel", name := "sayable", desc := "()I" } : MethodName) ∈ ztbl := zg (zt_4 (List.mem_of_getElem? (i := 62) rfl)) rfl
theorem zy_X4_sayable : zYv mX4_sayable 0 := ⟨zm_4_63, zm_1_5, zm_4_62, zs_X4_sayable, ⟨by decide +kernel, by decide +kernel⟩, by decide +kernel, by decide⟩
def mX4_sounds : ZM := (yX4_sounds, cX4_sounds, 5, (some (FieldType.int)))
set_option maxRecDepth 20000 in
theorem zm_4_67 : Cond.code ({ cls := "AnswerSquareModel", name := "sounds", desc := "(I)I" } : MethodName) prog_6_method_46_code (5 : Nat) (Option.some FieldType.int) ∈ ztbl := zg (zt_4 (List.mem_of_getElem? (i := 67) rfl)) rfl
set_option maxRecDepth 20000 in
theorem zm_4_66 : Cond.selects "AnswerSquareModel" ({ cls := "AnswerSquareModel", name := "sounds", desc := "(I)I" } : MethodName) ({ cls := "AnswerSquareModel", name := "sounds", desc := "(I)I" } : MethodName) ∈ ztbl := zg (zt_4 (List.mem_of_getElem? (i := 66) rfl)) rfl
set_option maxRecDepth 20000 in
set_option maxRecDepth 20000 in
theorem zm_4_65 : Cond.instanceMethod ({ cls := "AnswerSquareModel", name := "sounds", desc := "(I)I" } : MethodName) ∈ ztbl := zg (zt_4 (List.mem_of_getElem? (i := 65) rfl)) rfl
theorem zy_X4_sounds : zYv mX4_sounds 1 := ⟨zm_4_67, zm_1_5, zm_4_65, zm_4_66, ⟨by decide +kernel, by decide +kernel⟩, by decide +kernel, by decide⟩
def mX4_manyOf : ZM := (yX4_manyOf, cX4_manyOf, 3, (some (FieldType.int)))
set_option maxRecDepth 20000 in
theorem zm_4_70 : Cond.code ({ cls := "AnswerSquareModel", name := "manyOf", desc := "(I)I" } : MethodName) prog_6_method_19_code (3 : Nat) (Option.some FieldType.int) ∈ ztbl := zg (zt_4 (List.mem_of_getElem? (i := 70) rfl)) rfl
set_option maxRecDepth 20000 in
set_option maxRecDepth 20000 in
theorem zm_4_69 : Cond.static ({ cls := "AnswerSquareModel", name := "manyOf", desc := "(I)I" } : MethodName) ∈ ztbl := zg (zt_4 (List.mem_of_getElem? (i := 69) rfl)) rfl
theorem zy_X4_manyOf : zYs mX4_manyOf 1 := ⟨zm_4_70, zm_1_5, zm_4_69, ⟨by decide +kernel, by decide +kernel⟩, by decide +kernel, by decide⟩
def mX4_reach : ZM := (yX4_reach, cX4_reach, 4, (some (FieldType.int)))
set_option maxRecDepth 20000 in
theorem zm_4_74 : Cond.code ({ cls := "AnswerSquareModel", name := "reach", desc := "(I)I" } : MethodName) prog_6_method_43_code (4 : Nat) (Option.some FieldType.int) ∈ ztbl := zg (zt_4 (List.mem_of_getElem? (i := 74) rfl)) rfl
set_option maxRecDepth 20000 in
theorem zs_X4_reach : Cond.selects "AnswerSquareModel" ({ cls := "AnswerSquareModel", name := "reach", desc := "(I)I" } : MethodName) ({ cls := "AnswerSquareModel", name := "reach", desc := "(I)I" } : MethodName) ∈ ztbl := zg (List.mem_append_left _ (List.mem_map.mpr ⟨_, (show _ ∈ lw_privs_1 ++ (lw_privs_2 ++ (lw_privs_3 ++ (lw_privs_4 ++ (lw_privs_5 ++ (lw_privs_6))))) from List.mem_append_right _ (List.mem_append_right _ (List.mem_append_right _ (List.mem_append_right _ (List.mem_append_right _ ((List.mem_of_getElem? (i := 5) rfl))))))), rfl⟩)) rfl
set_option maxRecDepth 20000 in
set_option maxRecDepth 20000 in
theorem zm_4_73 : Cond.instanceMethod ({ cls := "AnswerSquareModel", name := "reach", desc := "(I)I" } : MethodName) ∈ ztbl := zg (zt_4 (List.mem_of_getElem? (i := 73) rfl)) rfl
theorem zy_X4_reach : zYv mX4_reach 1 := ⟨zm_4_74, zm_1_5, zm_4_73, zs_X4_reach, ⟨by decide +kernel, by decide +kernel⟩, by decide +kernel, by decide⟩
def mX4_began : ZM := (yX4_began, cX4_began, 4, (some (FieldType.int)))
set_option maxRecDepth 20000 in
theorem zm_4_78 : Cond.code ({ cls := "AnswerSquareModel", name := "began", desc := "(I)I" } : MethodName) prog_6_method_47_code (4 : Nat) (Option.some FieldType.int) ∈ ztbl := zg (zt_4 (List.mem_of_getElem? (i := 78) rfl)) rfl
set_option maxRecDepth 20000 in
theorem zm_4_77 : Cond.selects "AnswerSquareModel" ({ cls := "AnswerSquareModel", name := "began", desc := "(I)I" } : MethodName) ({ cls := "AnswerSquareModel", name := "began", desc := "(I)I" } : MethodName) ∈ ztbl := zg (zt_4 (List.mem_of_getElem? (i := 77) rfl)) rfl
set_option maxRecDepth 20000 in
set_option maxRecDepth 20000 in
theorem zm_4_76 : Cond.instanceMethod ({ cls := "AnswerSquareModel", name := "began", desc := "(I)I" } : MethodName) ∈ ztbl := zg (zt_4 (List.mem_of_getElem? (i := 76) rfl)) rfl
theorem zy_X4_began : zYv mX4_began 1 := ⟨zm_4_78, zm_1_5, zm_4_76, zm_4_77, ⟨by decide +kernel, by decide +kernel⟩, by decide +kernel, by decide⟩
def mX4_odds : ZM := (yX4_odds, cX4_odds, 9, (some (FieldType.int)))
set_option maxRecDepth 20000 in
theorem zm_4_82 : Cond.code ({ cls := "AnswerSquareModel", name := "odds", desc := "(III)I" } : MethodName) prog_6_method_48_code (9 : Nat) (Option.some FieldType.int) ∈ ztbl := zg (zt_4 (List.mem_of_getElem? (i := 82) rfl)) rfl
set_option maxRecDepth 20000 in
theorem zm_4_81 : Cond.selects "AnswerSquareModel" ({ cls := "AnswerSquareModel", name := "odds", desc := "(III)I" } : MethodName) ({ cls := "AnswerSquareModel", name := "odds", desc := "(III)I" } : MethodName) ∈ ztbl := zg (zt_4 (List.mem_of_getElem? (i := 81) rfl)) rfl
set_option maxRecDepth 20000 in
set_option maxRecDepth 20000 in
theorem zm_4_80 : Cond.instanceMethod ({ cls := "AnswerSquareModel", name := "odds", desc := "(III)I" } : MethodName) ∈ ztbl := zg (zt_4 (List.mem_of_getElem? (i := 80) rfl)) rfl
theorem zy_X4_odds : zYv mX4_odds 3 := ⟨zm_4_82, zm_1_5, zm_4_80, zm_4_81, ⟨by decide +kernel, by decide +kernel⟩, by decide +kernel, by decide⟩
def mX4_tells : ZM := (yX4_tells, cX4_tells, 3, (some (FieldType.int)))
set_option maxRecDepth 20000 in
theorem zm_4_86 : Cond.code ({ cls := "AnswerSquareModel", name := "tells", desc := "(II)I" } : MethodName) prog_6_method_49_code (3 : Nat) (Option.some FieldType.int) ∈ ztbl := zg (zt_4 (List.mem_of_getElem? (i := 86) rfl)) rfl
set_option maxRecDepth 20000 in
theorem zm_4_85 : Cond.selects "AnswerSquareModel" ({ cls := "AnswerSquareModel", name := "tells", desc := "(II)I" } : MethodName) ({ cls := "AnswerSquareModel", name := "tells", desc := "(II)I" } : MethodName) ∈ ztbl := zg (zt_4 (List.mem_of_getElem? (i := 85) rfl)) rfl
set_option maxRecDepth 20000 in
set_option maxRecDepth 20000 in
theorem zm_4_84 : Cond.instanceMethod ({ cls := "AnswerSquareModel", name := "tells", desc := "(II)I" } : MethodName) ∈ ztbl := zg (zt_4 (List.mem_of_getElem? (i := 84) rfl)) rfl
theorem zy_X4_tells : zYv mX4_tells 2 := ⟨zm_4_86, zm_1_5, zm_4_84, zm_4_85, ⟨by decide +kernel, by decide +kernel⟩, by decide +kernel, by decide⟩
def mX4_forget : ZM := (yX4_forget, cX4_forget, 2, (some (FieldType.int)))
set_option maxRecDepth 20000 in
theorem zm_4_90 : Cond.code ({ cls := "AnswerSquareModel", name := "forget", desc := "()I" } : MethodName) prog_6_method_50_code (2 : Nat) (Option.some FieldType.int) ∈ ztbl := zg (zt_4 (List.mem_of_getElem? (i := 90) rfl)) rfl
set_option maxRecDepth 20000 in
theorem zm_4_89 : Cond.selects "AnswerSquareModel" ({ cls := "AnswerSquareModel", name := "forget", desc := "()I" } : MethodName) ({ cls := "AnswerSquareModel", name := "forget", desc := "()I" } : MethodName) ∈ ztbl := zg (zt_4 (List.mem_of_getElem? (i := 89) rfl)) rfl
set_option maxRecDepth 20000 in
set_option maxRecDepth 20000 in
theorem zm_4_88 : Cond.instanceMethod ({ cls := "AnswerSquareModel", name := "forget", desc := "()I" } : MethodName) ∈ ztbl := zg (zt_4 (List.mem_of_getElem? (i := 88) rfl)) rfl
theorem zy_X4_forget : zYv mX4_forget 0 := ⟨zm_4_90, zm_1_5, zm_4_88, zm_4_89, ⟨by decide +kernel, by decide +kernel⟩, by decide +kernel, by decide⟩
def mX4_fits : ZM := (yX4_fits, cX4_fits, 4, (some (FieldType.int)))
set_option maxRecDepth 20000 in
theorem zm_4_94 : Cond.code ({ cls := "AnswerSquareModel", name := "fits", desc := "()I" } : MethodName) prog_6_method_52_code (4 : Nat) (Option.some FieldType.int) ∈ ztbl := zg (zt_4 (List.mem_of_getElem? (i := 94) rfl)) rfl
set_option maxRecDepth 20000 in
theorem zm_4_93 : Cond.selects "AnswerSquareModel" ({ cls := "AnswerSquareModel", name := "fits", desc := "()I" } : MethodName) ({ cls := "AnswerSquareModel", name := "fits", desc := "()I" } : MethodName) ∈ ztbl := zg (zt_4 (List.mem_of_getElem? (i := 93) rfl)) rfl
set_option maxRecDepth 20000 in
set_option maxRecDepth 20000 in
theorem zm_4_92 : Cond.instanceMethod ({ cls := "AnswerSquareModel", name := "fits", desc := "()I" } : MethodName) ∈ ztbl := zg (zt_4 (List.mem_of_getElem? (i := 92) rfl)) rfl
theorem zy_X4_fits : zYv mX4_fits 0 := ⟨zm_4_94, zm_1_5, zm_4_92, zm_4_93, ⟨by decide +kernel, by decide +kernel⟩, by decide +kernel, by decide⟩
def mX4_firstOf : ZM := (yX4_firstOf, cX4_firstOf, 3, (some (FieldType.int)))
set_option maxRecDepth 20000 in
theorem zm_4_98 : Cond.code ({ cls := "AnswerSquareModel", name := "firstOf", desc := "(I)I" } : MethodName) prog_6_method_51_code (3 : Nat) (Option.some FieldType.int) ∈ ztbl := zg (zt_4 (List.mem_of_getElem? (i := 98) rfl)) rfl
set_option maxRecDepth 20000 in
theorem zs_X4_firstOf : Cond.selects "AnswerSquareModel" ({ cls := "AnswerSquareModel", name := "firstOf", desc := "(I)I" } : MethodName) ({ cls := "AnswerSquareModel", name := "firstOf", desc := "(I)I" } : MethodName) ∈ ztbl := zg (List.mem_append_left _ (List.mem_map.mpr ⟨_, (show _ ∈ lw_privs_1 ++ (lw_privs_2 ++ (lw_privs_3 ++ (lw_privs_4 ++ (lw_privs_5 ++ (lw_privs_6))))) from List.mem_append_right _ (List.mem_append_right _ (List.mem_append_right _ (List.mem_append_right _ (List.mem_append_right _ ((List.mem_of_getElem? (i := 6) rfl))))))), rfl⟩)) rfl
set_option maxRecDepth 20000 in
set_option maxRecDepth 20000 in
theorem zm_4_97 : Cond.instanceMethod ({ cls := "AnswerSquareModel", name := "firstOf", desc := "(I)I" } : MethodName) ∈ ztbl := zg (zt_4 (List.mem_of_getElem? (i := 97) rfl)) rfl
theorem zy_X4_firstOf : zYv mX4_firstOf 1 := ⟨zm_4_98, zm_1_5, zm_4_97, zs_X4_firstOf, ⟨by decide +kernel, by decide +kernel⟩, by decide +kernel, by decide⟩
def mX4_orders : ZM := (yX4_orders, cX4_orders, 5, (some (FieldType.int)))
set_option maxRecDepth 20000 in
theorem zm_4_102 : Cond.code ({ cls := "AnswerSquareModel", name := "orders", desc := "(I)I" } : MethodName) prog_6_method_54_code (5 : Nat) (Option.some FieldType.int) ∈ ztbl := zg (zt_4 (List.mem_of_getElem? (i := 102) rfl)) rfl
set_option maxRecDepth 20000 in
theorem zm_4_101 : Cond.selects "AnswerSquareModel" ({ cls := "AnswerSquareModel", name := "orders", desc := "(I)I" } : MethodName) ({ cls := "AnswerSquareModel", name := "orders", desc := "(I)I" } : MethodName) ∈ ztbl := zg (zt_4 (List.mem_of_getElem? (i := 101) rfl)) rfl
set_option maxRecDepth 20000 in
set_option maxRecDepth 20000 in
theorem zm_4_100 : Cond.instanceMethod ({ cls := "AnswerSquareModel", name := "orders", desc := "(I)I" } : MethodName) ∈ ztbl := zg (zt_4 (List.mem_of_getElem? (i := 100) rfl)) rfl
theorem zy_X4_orders : zYv mX4_orders 1 := ⟨zm_4_102, zm_1_5, zm_4_100, zm_4_101, ⟨by decide +kernel, by decide +kernel⟩, by decide +kernel, by decide⟩
def mX4_canCome : ZM := (yX4_canCome, cX4_canCome, 7, (some (FieldType.boolean)))
set_option maxRecDepth 20000 in
theorem zm_4_106 : Cond.code ({ cls := "AnswerSquareModel", name := "canCome", desc := "(III)Z" } : MethodName) prog_6_method_53_code (7 : Nat) (Option.some FieldType.boolean) ∈ ztbl := zg (zt_4 (List.mem_of_getElem? (i := 106) rfl)) rfl
set_option maxRecDepth 20000 in
theorem zs_X4_canCome : Cond.selects "AnswerSquareModel" ({ cls := "AnswerSquareModel", name := "canCome", desc := "(III)Z" } : MethodName) ({ cls := "AnswerSquareModel", name := "canCome", desc := "(III)Z" } : MethodName) ∈ ztbl := zg (List.mem_append_left _ (List.mem_map.mpr ⟨_, (show _ ∈ lw_privs_1 ++ (lw_privs_2 ++ (lw_privs_3 ++ (lw_privs_4 ++ (lw_privs_5 ++ (lw_privs_6))))) from List.mem_append_right _ (List.mem_append_right _ (List.mem_append_right _ (List.mem_append_right _ (List.mem_append_right _ ((List.mem_of_getElem? (i := 7) rfl))))))), rfl⟩)) rfl
set_option maxRecDepth 20000 in
set_option maxRecDepth 20000 in
theorem zm_4_105 : Cond.instanceMethod ({ cls := "AnswerSquareModel", name := "canCome", desc := "(III)Z" } : MethodName) ∈ ztbl := zg (zt_4 (List.mem_of_getElem? (i := 105) rfl)) rfl
theorem zy_X4_canCome : zYv mX4_canCome 3 := ⟨zm_4_106, zm_1_5, zm_4_105, zs_X4_canCome, ⟨by decide +kernel, by decide +kernel⟩, by decide +kernel, by decide⟩
def mX4_mark : ZM := (yX4_mark, cX4_mark, 5, (some (FieldType.int)))
set_option maxRecDepth 20000 in
theorem zm_4_110 : Cond.code ({ cls := "AnswerSquareModel", name := "mark", desc := "(II)I" } : MethodName) prog_6_method_55_code (5 : Nat) (Option.some FieldType.int) ∈ ztbl := zg (zt_4 (List.mem_of_getElem? (i := 110) rfl)) rfl
set_option maxRecDepth 20000 in
theorem zm_4_109 : Cond.selects "AnswerSquareModel" ({ cls := "AnswerSquareModel", name := "mark", desc := "(II)I" } : MethodName) ({ cls := "AnswerSquareModel", name := "mark", desc := "(II)I" } : MethodName) ∈ ztbl := zg (zt_4 (List.mem_of_getElem? (i := 109) rfl)) rfl
set_option maxRecDepth 20000 in
set_option maxRecDepth 20000 in
theorem zm_4_108 : Cond.instanceMethod ({ cls := "AnswerSquareModel", name := "mark", desc := "(II)I" } : MethodName) ∈ ztbl := zg (zt_4 (List.mem_of_getElem? (i := 108) rfl)) rfl
theorem zy_X4_mark : zYv mX4_mark 2 := ⟨zm_4_110, zm_1_5, zm_4_108, zm_4_109, ⟨by decide +kernel, by decide +kernel⟩, by decide +kernel, by decide⟩
def mX4_keep : ZM := (yX4_keep, cX4_keep, 3, (some (FieldType.int)))
set_option maxRecDepth 20000 in
theorem zm_4_120 : Cond.code ({ cls := "AnswerSquareModel", name := "keep", desc := "(I)I" } : MethodName) prog_6_method_56_code (3 : Nat) (Option.some FieldType.int) ∈ ztbl := zg (zt_4 (List.mem_of_getElem? (i := 120) rfl)) rfl
set_option maxRecDepth 20000 in
theorem zm_4_119 : Cond.selects "AnswerSquareModel" ({ cls := "AnswerSquareModel", name := "keep", desc := "(I)I" } : MethodName) ({ cls := "AnswerSquareModel", name := "keep", desc := "(I)I" } : MethodName) ∈ ztbl := zg (zt_4 (List.mem_of_getElem? (i := 119) rfl)) rfl
set_option maxRecDepth 20000 in
set_option maxRecDepth 20000 in
theorem zm_4_118 : Cond.instanceMethod ({ cls := "AnswerSquareModel", name := "keep", desc := "(I)I" } : MethodName) ∈ ztbl := zg (zt_4 (List.mem_of_getElem? (i := 118) rfl)) rfl
theorem zy_X4_keep : zYv mX4_keep 1 := ⟨zm_4_120, zm_1_5, zm_4_118, zm_4_119, ⟨by decide +kernel, by decide +kernel⟩, by decide +kernel, by decide⟩
def mX4_back : ZM := (yX4_back, cX4_back, 3, (some (FieldType.int)))
set_option maxRecDepth 20000 in
theorem zm_4_124 : Cond.code ({ cls := "AnswerSquareModel", name := "back", desc := "(I)I" } : MethodName) prog_6_method_57_code (3 : Nat) (Option.some FieldType.int) ∈ ztbl := zg (zt_4 (List.mem_of_getElem? (i := 124) rfl)) rfl
set_option maxRecDepth 20000 in
theorem zm_4_123 : Cond.selects "AnswerSquareModel" ({ cls := "AnswerSquareModel", name := "back", desc := "(I)I" } : MethodName) ({ cls := "AnswerSquareModel", name := "back", desc := "(I)I" } : MethodName) ∈ ztbl := zg (zt_4 (List.mem_of_getElem? (i := 123) rfl)) rfl
set_option maxRecDepth 20000 in
set_option maxRecDepth 20000 in
theorem zm_4_122 : Cond.instanceMethod ({ cls := "AnswerSquareModel", name := "back", desc := "(I)I" } : MethodName) ∈ ztbl := zg (zt_4 (List.mem_of_getElem? (i := 122) rfl)) rfl
theorem zy_X4_back : zYv mX4_back 1 := ⟨zm_4_124, zm_1_5, zm_4_122, zm_4_123, ⟨by decide +kernel, by decide +kernel⟩, by decide +kernel, by decide⟩
def mX4_count : ZM := (yX4_count, cX4_count, 2, (some (FieldType.int)))
set_option maxRecDepth 20000 in
theorem zm_4_128 : Cond.code ({ cls := "AnswerSquareModel", name := "count", desc := "(I)I" } : MethodName) prog_6_method_58_code (2 : Nat) (Option.some FieldType.int) ∈ ztbl := zg (zt_4 (List.mem_of_getElem? (i := 128) rfl)) rfl
set_option maxRecDepth 20000 in
theorem zm_4_127 : Cond.selects "AnswerSquareModel" ({ cls := "AnswerSquareModel", name := "count", desc := "(I)I" } : MethodName) ({ cls := "AnswerSquareModel", name := "count", desc := "(I)I" } : MethodName) ∈ ztbl := zg (zt_4 (List.mem_of_getElem? (i := 127) rfl)) rfl
set_option maxRecDepth 20000 in
set_option maxRecDepth 20000 in
theorem zm_4_126 : Cond.instanceMethod ({ cls := "AnswerSquareModel", name := "count", desc := "(I)I" } : MethodName) ∈ ztbl := zg (zt_4 (List.mem_of_getElem? (i := 126) rfl)) rfl
theorem zy_X4_count : zYv mX4_count 1 := ⟨zm_4_128, zm_1_5, zm_4_126, zm_4_127, ⟨by decide +kernel, by decide +kernel⟩, by decide +kernel, by decide⟩
def mX4_trace : ZM := (yX4_trace, cX4_trace, 1, (some (FieldType.long)))
set_option maxRecDepth 20000 in
theorem zm_4_132 : Cond.code ({ cls := "AnswerSquareModel", name := "trace", desc := "()J" } : MethodName) prog_6_method_59_code (1 : Nat) (Option.some FieldType.long) ∈ ztbl := zg (zt_4 (List.mem_of_getElem? (i := 132) rfl)) rfl
set_option maxRecDepth 20000 in
theorem zm_4_131 : Cond.selects "AnswerSquareModel" ({ cls := "AnswerSquareModel", name := "trace", desc := "()J" } : MethodName) ({ cls := "AnswerSquareModel", name := "trace", desc := "()J" } : MethodName) ∈ ztbl := zg (zt_4 (List.mem_of_getElem? (i := 131) rfl)) rfl
set_option maxRecDepth 20000 in
set_option maxRecDepth 20000 in
theorem zm_4_130 : Cond.instanceMethod ({ cls := "AnswerSquareModel", name := "trace", desc := "()J" } : MethodName) ∈ ztbl := zg (zt_4 (List.mem_of_getElem? (i := 130) rfl)) rfl
theorem zy_X4_trace : zYv mX4_trace 0 := ⟨zm_4_132, zm_1_5, zm_4_130, zm_4_131, ⟨by decide +kernel, by decide +kernel⟩, by decide +kernel, by decide⟩
-- links of methods
set_option maxRecDepth 20000 in
theorem zm_1_11 : Cond.methodLink "AnswerSquareLaw" (9 : Nat) ({ cls := "AnswerSquare", name := "<init>", desc := "()V" } : MethodName) ∈ ztbl := zg (zt_1 (List.mem_of_getElem? (i := 11) rfl)) rfl
set_option maxRecDepth 20000 in
theorem zl_L_9 : zLk "AnswerSquareLaw" 9 mX3_init := Or.inl zm_1_11
set_option maxRecDepth 20000 in
theorem zm_1_14 : Cond.methodLink "AnswerSquare" (3 : Nat) ({ cls := "java/lang/Object", name := "<init>", desc := "()V" } : MethodName) ∈ ztbl := zg (zt_1 (List.mem_of_getElem? (i := 14) rfl)) rfl
set_option maxRecDepth 20000 in
theorem zl_X3_11 : zLk "AnswerSquare" 11 mX2_init := Or.inr ⟨_, List.mem_of_getElem? (i := 0) rfl⟩
set_option maxRecDepth 20000 in
theorem zm_1_22 : Cond.methodLink "AnswerSquare$Text" (3 : Nat) ({ cls := "java/lang/Object", name := "<init>", desc := "()V" } : MethodName) ∈ ztbl := zg (zt_1 (List.mem_of_getElem? (i := 22) rfl)) rfl
set_option maxRecDepth 20000 in
theorem zl_X3_18 : zLk "AnswerSquare" 18 mX0_init := Or.inr ⟨_, List.mem_of_getElem? (i := 5) rfl⟩
set_option maxRecDepth 20000 in
theorem zm_1_52 : Cond.methodLink "AnswerSquare$Duchy" (3 : Nat) ({ cls := "java/lang/Object", name := "<init>", desc := "()V" } : MethodName) ∈ ztbl := zg (zt_1 (List.mem_of_getElem? (i := 52) rfl)) rfl
set_option maxRecDepth 20000 in
theorem zl_X3_28 : zLk "AnswerSquare" 28 mX1_init := Or.inr ⟨_, List.mem_of_getElem? (i := 14) rfl⟩
set_option maxRecDepth 20000 in
theorem zm_1_94 : Cond.methodLink "AnswerSquare$Moment" (3 : Nat) ({ cls := "java/lang/Object", name := "<init>", desc := "()V" } : MethodName) ∈ ztbl := zg (zt_1 (List.mem_of_getElem? (i := 94) rfl)) rfl
set_option maxRecDepth 20000 in
theorem zm_1_172 : Cond.methodLink "AnswerSquareLaw" (13 : Nat) ({ cls := "AnswerSquare", name := "type", desc := "(I)I" } : MethodName) ∈ ztbl := zg (zt_1 (List.mem_of_getElem? (i := 172) rfl)) rfl
set_option maxRecDepth 20000 in
theorem zl_L_13 : zLk "AnswerSquareLaw" 13 mX3_type := Or.inl zm_1_172
set_option maxRecDepth 20000 in
theorem zl_X3_57 : zLk "AnswerSquare" 57 mX2_put := Or.inr ⟨_, List.mem_of_getElem? (i := 25) rfl⟩
set_option maxRecDepth 20000 in
theorem zm_1_180 : Cond.methodLink "AnswerSquareLaw" (18 : Nat) ({ cls := "AnswerSquare", name := "clear", desc := "()I" } : MethodName) ∈ ztbl := zg (zt_1 (List.mem_of_getElem? (i := 180) rfl)) rfl
set_option maxRecDepth 20000 in
theorem zl_L_18 : zLk "AnswerSquareLaw" 18 mX3_clear := Or.inl zm_1_180
set_option maxRecDepth 20000 in
theorem zm_1_184 : Cond.methodLink "AnswerSquareLaw" (23 : Nat) ({ cls := "AnswerSquare", name := "duchy", desc := "()I" } : MethodName) ∈ ztbl := zg (zt_1 (List.mem_of_getElem? (i := 184) rfl)) rfl
set_option maxRecDepth 20000 in
theorem zl_L_23 : zLk "AnswerSquareLaw" 23 mX3_duchy := Or.inl zm_1_184
set_option maxRecDepth 20000 in
theorem zl_X3_64 : zLk "AnswerSquare" 64 mX0_readFrom := Or.inr ⟨_, List.mem_of_getElem? (i := 26) rfl⟩
set_option maxRecDepth 20000 in
theorem zl_X0_38 : zLk "AnswerSquare$Duchy" 38 mX2_rewind := Or.inr ⟨_, List.mem_of_getElem? (i := 27) rfl⟩
set_option maxRecDepth 20000 in
theorem zm_1_196 : Cond.methodLink "AnswerSquare$Text" (31 : Nat) ({ cls := "AnswerSquare$Text", name := "advance", desc := "()V" } : MethodName) ∈ ztbl := zg (zt_1 (List.mem_of_getElem? (i := 196) rfl)) rfl
set_option maxRecDepth 20000 in
theorem zl_X2_31 : zLk "AnswerSquare$Text" 31 mX2_advance := Or.inl zm_1_196
set_option maxRecDepth 20000 in
theorem zm_1_200 : Cond.methodLink "AnswerSquare$Text" (34 : Nat) ({ cls := "AnswerSquare$Text", name := "byteAt", desc := "(I)I" } : MethodName) ∈ ztbl := zg (zt_1 (List.mem_of_getElem? (i := 200) rfl)) rfl
set_option maxRecDepth 20000 in
theorem zl_X2_34 : zLk "AnswerSquare$Text" 34 mX2_byteAt := Or.inl zm_1_200
set_option maxRecDepth 20000 in
theorem zm_1_204 : Cond.methodLink "AnswerSquare$Text" (38 : Nat) ({ cls := "AnswerSquare$Text", name := "isLetter", desc := "(I)Z" } : MethodName) ∈ ztbl := zg (zt_1 (List.mem_of_getElem? (i := 204) rfl)) rfl
set_option maxRecDepth 20000 in
theorem zl_X2_38 : zLk "AnswerSquare$Text" 38 mX2_isLetter := Or.inl zm_1_204
set_option maxRecDepth 20000 in
theorem zm_1_207 : Cond.methodLink "AnswerSquare$Text" (42 : Nat) ({ cls := "AnswerSquare$Text", name := "takeWord", desc := "(I)V" } : MethodName) ∈ ztbl := zg (zt_1 (List.mem_of_getElem? (i := 207) rfl)) rfl
set_option maxRecDepth 20000 in
theorem zl_X2_42 : zLk "AnswerSquare$Text" 42 mX2_takeWord := Or.inl zm_1_207
set_option maxRecDepth 20000 in
theorem zm_1_211 : Cond.methodLink "AnswerSquare$Text" (46 : Nat) ({ cls := "AnswerSquare$Text", name := "isDigit", desc := "(I)Z" } : MethodName) ∈ ztbl := zg (zt_1 (List.mem_of_getElem? (i := 211) rfl)) rfl
set_option maxRecDepth 20000 in
theorem zl_X2_46 : zLk "AnswerSquare$Text" 46 mX2_isDigit := Or.inl zm_1_211
set_option maxRecDepth 20000 in
theorem zm_1_214 : Cond.methodLink "AnswerSquare$Text" (49 : Nat) ({ cls := "AnswerSquare$Text", name := "takeNumber", desc := "(I)V" } : MethodName) ∈ ztbl := zg (zt_1 (List.mem_of_getElem? (i := 214) rfl)) rfl
set_option maxRecDepth 20000 in
theorem zl_X2_49 : zLk "AnswerSquare$Text" 49 mX2_takeNumber := Or.inl zm_1_214
set_option maxRecDepth 20000 in
theorem zm_1_218 : Cond.methodLink "AnswerSquare$Text" (52 : Nat) ({ cls := "java/lang/Math", name := "min", desc := "(II)I" } : MethodName) ∈ ztbl := zg (zt_1 (List.mem_of_getElem? (i := 218) rfl)) rfl
set_option maxRecDepth 20000 in
theorem zl_X2_52 : zLk "AnswerSquare$Text" 52 mJ9_min_7cf53 := Or.inl zm_1_218
set_option maxRecDepth 20000 in
theorem zm_1_221 : Cond.methodLink "AnswerSquare$Duchy" (46 : Nat) ({ cls := "AnswerSquare$Duchy", name := "readItem", desc := "(LAnswerSquare$Text;)Z" } : MethodName) ∈ ztbl := zg (zt_1 (List.mem_of_getElem? (i := 221) rfl)) rfl
set_option maxRecDepth 20000 in
theorem zl_X0_46 : zLk "AnswerSquare$Duchy" 46 mX0_readItem := Or.inl zm_1_221
set_option maxRecDepth 20000 in
theorem zm_1_225 : Cond.methodLink "AnswerSquare$Duchy" (62 : Nat) ({ cls := "AnswerSquare$Duchy", name := "hasRoomFor", desc := "(I)Z" } : MethodName) ∈ ztbl := zg (zt_1 (List.mem_of_getElem? (i := 225) rfl)) rfl
set_option maxRecDepth 20000 in
theorem zl_X0_62 : zLk "AnswerSquare$Duchy" 62 mX0_hasRoomFor := Or.inl zm_1_225
set_option maxRecDepth 20000 in
theorem zl_X0_53 : zLk "AnswerSquare$Duchy" 53 mX2_advance := Or.inr ⟨_, List.mem_of_getElem? (i := 28) rfl⟩
set_option maxRecDepth 20000 in
theorem zl_X0_66 : zLk "AnswerSquare$Duchy" 66 mX2_isNumber := Or.inr ⟨_, List.mem_of_getElem? (i := 29) rfl⟩
set_option maxRecDepth 20000 in
theorem zm_1_234 : Cond.methodLink "AnswerSquare$Duchy" (70 : Nat) ({ cls := "AnswerSquare$Duchy", name := "readNumbers", desc := "(LAnswerSquare$Text;I)I" } : MethodName) ∈ ztbl := zg (zt_1 (List.mem_of_getElem? (i := 234) rfl)) rfl
set_option maxRecDepth 20000 in
theorem zl_X0_70 : zLk "AnswerSquare$Duchy" 70 mX0_readNumbers := Or.inl zm_1_234
set_option maxRecDepth 20000 in
theorem zm_1_237 : Cond.methodLink "AnswerSquare$Duchy" (74 : Nat) ({ cls := "AnswerSquare$Duchy", name := "take", desc := "(III)V" } : MethodName) ∈ ztbl := zg (zt_1 (List.mem_of_getElem? (i := 237) rfl)) rfl
set_option maxRecDepth 20000 in
theorem zl_X0_74 : zLk "AnswerSquare$Duchy" 74 mX0_take := Or.inl zm_1_237
set_option maxRecDepth 20000 in
theorem zm_2_1 : Cond.methodLink "AnswerSquare$Duchy" (56 : Nat) ({ cls := "AnswerSquare$Duchy", name := "settle", desc := "()V" } : MethodName) ∈ ztbl := zg (zt_2 (List.mem_of_getElem? (i := 1) rfl)) rfl
set_option maxRecDepth 20000 in
theorem zl_X0_56 : zLk "AnswerSquare$Duchy" 56 mX0_settle := Or.inl zm_2_1
set_option maxRecDepth 20000 in
theorem zl_X3_68 : zLk "AnswerSquare" 68 mX1_reset := Or.inr ⟨_, List.mem_of_getElem? (i := 30) rfl⟩
set_option maxRecDepth 20000 in
theorem zm_2_9 : Cond.methodLink "AnswerSquare" (75 : Nat) ({ cls := "AnswerSquare", name := "tellNothing", desc := "()V" } : MethodName) ∈ ztbl := zg (zt_2 (List.mem_of_getElem? (i := 9) rfl)) rfl
set_option maxRecDepth 20000 in
theorem zl_X3_75 : zLk "AnswerSquare" 75 mX3_tellNothing := Or.inl zm_2_9
set_option maxRecDepth 20000 in
theorem zm_2_13 : Cond.methodLink "AnswerSquareLaw" (27 : Nat) ({ cls := "AnswerSquare", name := "saying", desc := "(II)I" } : MethodName) ∈ ztbl := zg (zt_2 (List.mem_of_getElem? (i := 13) rfl)) rfl
set_option maxRecDepth 20000 in
theorem zl_L_27 : zLk "AnswerSquareLaw" 27 mX3_saying := Or.inl zm_2_13
set_option maxRecDepth 20000 in
theorem zl_X3_78 : zLk "AnswerSquare" 78 mX0_hasSaying := Or.inr ⟨_, List.mem_of_getElem? (i := 31) rfl⟩
set_option maxRecDepth 20000 in
theorem zl_X3_81 : zLk "AnswerSquare" 81 mX0_isSound := Or.inr ⟨_, List.mem_of_getElem? (i := 32) rfl⟩
set_option maxRecDepth 20000 in
theorem zl_X3_90 : zLk "AnswerSquare" 90 mX0_knowers := Or.inr ⟨_, List.mem_of_getElem? (i := 33) rfl⟩
set_option maxRecDepth 20000 in
theorem zl_X3_94 : zLk "AnswerSquare" 94 mX1_timesIn := Or.inr ⟨_, List.mem_of_getElem? (i := 34) rfl⟩
set_option maxRecDepth 20000 in
theorem zm_2_33 : Cond.methodLink "AnswerSquareLaw" (32 : Nat) ({ cls := "AnswerSquare", name := "person", desc := "(II)I" } : MethodName) ∈ ztbl := zg (zt_2 (List.mem_of_getElem? (i := 33) rfl)) rfl
set_option maxRecDepth 20000 in
theorem zl_L_32 : zLk "AnswerSquareLaw" 32 mX3_person := Or.inl zm_2_33
set_option maxRecDepth 20000 in
theorem zl_X3_97 : zLk "AnswerSquare" 97 mX0_hasPerson := Or.inr ⟨_, List.mem_of_getElem? (i := 35) rfl⟩
set_option maxRecDepth 20000 in
theorem zm_2_41 : Cond.methodLink "AnswerSquare" (103 : Nat) ({ cls := "AnswerSquare", name := "thereNow", desc := "()I" } : MethodName) ∈ ztbl := zg (zt_2 (List.mem_of_getElem? (i := 41) rfl)) rfl
set_option maxRecDepth 20000 in
theorem zl_X3_103 : zLk "AnswerSquare" 103 mX3_thereNow := Or.inl zm_2_41
set_option maxRecDepth 20000 in
theorem zl_X3_185 : zLk "AnswerSquare" 185 mX1_there := Or.inr ⟨_, List.mem_of_getElem? (i := 36) rfl⟩
set_option maxRecDepth 20000 in
theorem zm_2_49 : Cond.methodLink "AnswerSquare$Moment" (67 : Nat) ({ cls := "AnswerSquare$Moment", name := "isThere", desc := "(III)Z" } : MethodName) ∈ ztbl := zg (zt_2 (List.mem_of_getElem? (i := 49) rfl)) rfl
set_option maxRecDepth 20000 in
theorem zl_X1_67 : zLk "AnswerSquare$Moment" 67 mX1_isThere := Or.inl zm_2_49
set_option maxRecDepth 20000 in
theorem zm_2_53 : Cond.methodLink "AnswerSquare$Moment" (49 : Nat) ({ cls := "AnswerSquare$Moment", name := "has", desc := "(I)Z" } : MethodName) ∈ ztbl := zg (zt_2 (List.mem_of_getElem? (i := 53) rfl)) rfl
set_option maxRecDepth 20000 in
theorem zl_X1_49 : zLk "AnswerSquare$Moment" 49 mX1_has := Or.inl zm_2_53
set_option maxRecDepth 20000 in
theorem zl_X3_107 : zLk "AnswerSquare" 107 mX0_answering := Or.inr ⟨_, List.mem_of_getElem? (i := 37) rfl⟩
set_option maxRecDepth 20000 in
theorem zm_2_61 : Cond.methodLink "AnswerSquare$Duchy" (90 : Nat) ({ cls := "AnswerSquare$Duchy", name := "canAnswer", desc := "(II)Z" } : MethodName) ∈ ztbl := zg (zt_2 (List.mem_of_getElem? (i := 61) rfl)) rfl
set_option maxRecDepth 20000 in
theorem zl_X0_90 : zLk "AnswerSquare$Duchy" 90 mX0_canAnswer := Or.inl zm_2_61
set_option maxRecDepth 20000 in
theorem zm_2_65 : Cond.methodLink "AnswerSquare$Duchy" (81 : Nat) ({ cls := "AnswerSquare$Duchy", name := "hasSaying", desc := "(I)Z" } : MethodName) ∈ ztbl := zg (zt_2 (List.mem_of_getElem? (i := 65) rfl)) rfl
set_option maxRecDepth 20000 in
theorem zl_X0_81 : zLk "AnswerSquare$Duchy" 81 mX0_hasSaying := Or.inl zm_2_65
set_option maxRecDepth 20000 in
theorem zl_X3_110 : zLk "AnswerSquare" 110 mX1_timesBy := Or.inr ⟨_, List.mem_of_getElem? (i := 38) rfl⟩
set_option maxRecDepth 20000 in
theorem zm_2_70 : Cond.methodLink "AnswerSquareLaw" (36 : Nat) ({ cls := "AnswerSquare", name := "talk", desc := "(II)I" } : MethodName) ∈ ztbl := zg (zt_2 (List.mem_of_getElem? (i := 70) rfl)) rfl
set_option maxRecDepth 20000 in
theorem zl_L_36 : zLk "AnswerSquareLaw" 36 mX3_talk := Or.inl zm_2_70
set_option maxRecDepth 20000 in
theorem zl_X3_113 : zLk "AnswerSquare" 113 mX1_has := Or.inr ⟨_, List.mem_of_getElem? (i := 39) rfl⟩
set_option maxRecDepth 20000 in
theorem zl_X3_134 : zLk "AnswerSquare" 134 mX1_isOpen := Or.inr ⟨_, List.mem_of_getElem? (i := 40) rfl⟩
set_option maxRecDepth 20000 in
theorem zm_2_79 : Cond.methodLink "AnswerSquare$Moment" (63 : Nat) ({ cls := "AnswerSquare$Moment", name := "firstAnswerTo", desc := "(I)I" } : MethodName) ∈ ztbl := zg (zt_2 (List.mem_of_getElem? (i := 79) rfl)) rfl
set_option maxRecDepth 20000 in
theorem zl_X1_63 : zLk "AnswerSquare$Moment" 63 mX1_firstAnswerTo := Or.inl zm_2_79
set_option maxRecDepth 20000 in
theorem zl_X3_140 : zLk "AnswerSquare" 140 mX1_isThere := Or.inr ⟨_, List.mem_of_getElem? (i := 41) rfl⟩
set_option maxRecDepth 20000 in
theorem zm_2_84 : Cond.methodLink "AnswerSquareLaw" (40 : Nat) ({ cls := "AnswerSquare", name := "hears", desc := "(I)I" } : MethodName) ∈ ztbl := zg (zt_2 (List.mem_of_getElem? (i := 84) rfl)) rfl
set_option maxRecDepth 20000 in
theorem zl_L_40 : zLk "AnswerSquareLaw" 40 mX3_hears := Or.inl zm_2_84
set_option maxRecDepth 20000 in
theorem zl_X3_144 : zLk "AnswerSquare" 144 mX1_add := Or.inr ⟨_, List.mem_of_getElem? (i := 42) rfl⟩
set_option maxRecDepth 20000 in
theorem zm_2_92 : Cond.methodLink "AnswerSquare$Moment" (53 : Nat) ({ cls := "AnswerSquare$Moment", name := "remember", desc := "(I)V" } : MethodName) ∈ ztbl := zg (zt_2 (List.mem_of_getElem? (i := 92) rfl)) rfl
set_option maxRecDepth 20000 in
theorem zl_X1_53 : zLk "AnswerSquare$Moment" 53 mX1_remember := Or.inl zm_2_92
set_option maxRecDepth 20000 in
theorem zm_2_96 : Cond.methodLink "AnswerSquare$Moment" (57 : Nat) ({ cls := "java/lang/Math", name := "min", desc := "(II)I" } : MethodName) ∈ ztbl := zg (zt_2 (List.mem_of_getElem? (i := 96) rfl)) rfl
set_option maxRecDepth 20000 in
theorem zl_X1_57 : zLk "AnswerSquare$Moment" 57 mJ9_min_7cf53 := Or.inl zm_2_96
set_option maxRecDepth 20000 in
theorem zm_2_97 : Cond.methodLink "AnswerSquareLaw" (44 : Nat) ({ cls := "AnswerSquare", name := "says", desc := "(II)I" } : MethodName) ∈ ztbl := zg (zt_2 (List.mem_of_getElem? (i := 97) rfl)) rfl
set_option maxRecDepth 20000 in
theorem zl_L_44 : zLk "AnswerSquareLaw" 44 mX3_says := Or.inl zm_2_97
set_option maxRecDepth 20000 in
theorem zl_X3_150 : zLk "AnswerSquare" 150 mX1_latestOf := Or.inr ⟨_, List.mem_of_getElem? (i := 43) rfl⟩
set_option maxRecDepth 20000 in
theorem zm_2_105 : Cond.methodLink "AnswerSquareLaw" (48 : Nat) ({ cls := "AnswerSquare", name := "hour", desc := "()I" } : MethodName) ∈ ztbl := zg (zt_2 (List.mem_of_getElem? (i := 105) rfl)) rfl
set_option maxRecDepth 20000 in
theorem zl_L_48 : zLk "AnswerSquareLaw" 48 mX3_hour := Or.inl zm_2_105
set_option maxRecDepth 20000 in
theorem zl_X3_154 : zLk "AnswerSquare" 154 mX1_passHour := Or.inr ⟨_, List.mem_of_getElem? (i := 44) rfl⟩
set_option maxRecDepth 20000 in
theorem zm_2_113 : Cond.methodLink "AnswerSquareLaw" (52 : Nat) ({ cls := "AnswerSquare", name := "undo", desc := "()I" } : MethodName) ∈ ztbl := zg (zt_2 (List.mem_of_getElem? (i := 113) rfl)) rfl
set_option maxRecDepth 20000 in
theorem zl_L_52 : zLk "AnswerSquareLaw" 52 mX3_undo := Or.inl zm_2_113
set_option maxRecDepth 20000 in
theorem zl_X3_161 : zLk "AnswerSquare" 161 mX1_takeBack := Or.inr ⟨_, List.mem_of_getElem? (i := 45) rfl⟩
set_option maxRecDepth 20000 in
theorem zm_2_121 : Cond.methodLink "AnswerSquareLaw" (56 : Nat) ({ cls := "AnswerSquare", name := "now", desc := "(I)I" } : MethodName) ∈ ztbl := zg (zt_2 (List.mem_of_getElem? (i := 121) rfl)) rfl
set_option maxRecDepth 20000 in
theorem zl_L_56 : zLk "AnswerSquareLaw" 56 mX3_now := Or.inl zm_2_121
set_option maxRecDepth 20000 in
theorem zl_X3_167 : zLk "AnswerSquare" 167 mX1_openOnes := Or.inr ⟨_, List.mem_of_getElem? (i := 46) rfl⟩
set_option maxRecDepth 20000 in
theorem zm_2_129 : Cond.methodLink "AnswerSquare$Moment" (71 : Nat) ({ cls := "AnswerSquare$Moment", name := "isOpen", desc := "(I)Z" } : MethodName) ∈ ztbl := zg (zt_2 (List.mem_of_getElem? (i := 129) rfl)) rfl
set_option maxRecDepth 20000 in
theorem zl_X1_71 : zLk "AnswerSquare$Moment" 71 mX1_isOpen := Or.inl zm_2_129
set_option maxRecDepth 20000 in
theorem zl_X3_170 : zLk "AnswerSquare" 170 mX1_farthest := Or.inr ⟨_, List.mem_of_getElem? (i := 47) rfl⟩
set_option maxRecDepth 20000 in
theorem zl_X3_173 : zLk "AnswerSquare" 173 mX1_lastOpen := Or.inr ⟨_, List.mem_of_getElem? (i := 48) rfl⟩
set_option maxRecDepth 20000 in
theorem zl_X3_176 : zLk "AnswerSquare" 176 mX1_firstAnswerers := Or.inr ⟨_, List.mem_of_getElem? (i := 49) rfl⟩
set_option maxRecDepth 20000 in
theorem zm_2_142 : Cond.methodLink "AnswerSquare" (179 : Nat) ({ cls := "AnswerSquare", name := "hoursToSilence", desc := "()I" } : MethodName) ∈ ztbl := zg (zt_2 (List.mem_of_getElem? (i := 142) rfl)) rfl
set_option maxRecDepth 20000 in
theorem zl_X3_179 : zLk "AnswerSquare" 179 mX3_hoursToSilence := Or.inl zm_2_142
set_option maxRecDepth 20000 in
theorem zm_2_146 : Cond.methodLink "AnswerSquareLaw" (60 : Nat) ({ cls := "AnswerSquare", name := "worth", desc := "(I)I" } : MethodName) ∈ ztbl := zg (zt_2 (List.mem_of_getElem? (i := 146) rfl)) rfl
set_option maxRecDepth 20000 in
theorem zl_L_60 : zLk "AnswerSquareLaw" 60 mX3_worth := Or.inl zm_2_146
set_option maxRecDepth 20000 in
theorem zl_X3_182 : zLk "AnswerSquare" 182 mX0_worthOf := Or.inr ⟨_, List.mem_of_getElem? (i := 50) rfl⟩
set_option maxRecDepth 20000 in
theorem zm_2_154 : Cond.methodLink "AnswerSquareLaw" (64 : Nat) ({ cls := "AnswerSquare", name := "chain", desc := "(II)I" } : MethodName) ∈ ztbl := zg (zt_2 (List.mem_of_getElem? (i := 154) rfl)) rfl
set_option maxRecDepth 20000 in
theorem zl_L_64 : zLk "AnswerSquareLaw" 64 mX3_chain := Or.inl zm_2_154
set_option maxRecDepth 20000 in
theorem zm_2_158 : Cond.methodLink "AnswerSquare" (188 : Nat) ({ cls := "AnswerSquare", name := "chainLength", desc := "(II)I" } : MethodName) ∈ ztbl := zg (zt_2 (List.mem_of_getElem? (i := 158) rfl)) rfl
set_option maxRecDepth 20000 in
theorem zl_X3_188 : zLk "AnswerSquare" 188 mX3_chainLength := Or.inl zm_2_158
set_option maxRecDepth 20000 in
theorem zl_X3_198 : zLk "AnswerSquare" 198 mX0_answeredBy := Or.inr ⟨_, List.mem_of_getElem? (i := 51) rfl⟩
set_option maxRecDepth 20000 in
theorem zm_2_166 : Cond.methodLink "AnswerSquare" (191 : Nat) ({ cls := "AnswerSquare", name := "chainStep", desc := "(III)I" } : MethodName) ∈ ztbl := zg (zt_2 (List.mem_of_getElem? (i := 166) rfl)) rfl
set_option maxRecDepth 20000 in
theorem zl_X3_191 : zLk "AnswerSquare" 191 mX3_chainStep := Or.inl zm_2_166
set_option maxRecDepth 20000 in
theorem zm_2_170 : Cond.methodLink "AnswerSquare" (201 : Nat) ({ cls := "AnswerSquare", name := "lowest", desc := "(I)I" } : MethodName) ∈ ztbl := zg (zt_2 (List.mem_of_getElem? (i := 170) rfl)) rfl
set_option maxRecDepth 20000 in
theorem zl_X3_201 : zLk "AnswerSquare" 201 mX3_lowest := Or.inl zm_2_170
set_option maxRecDepth 20000 in
theorem zm_2_173 : Cond.methodLink "AnswerSquareLaw" (68 : Nat) ({ cls := "AnswerSquare", name := "sounds", desc := "(I)I" } : MethodName) ∈ ztbl := zg (zt_2 (List.mem_of_getElem? (i := 173) rfl)) rfl
set_option maxRecDepth 20000 in
theorem zl_L_68 : zLk "AnswerSquareLaw" 68 mX3_sounds := Or.inl zm_2_173
set_option maxRecDepth 20000 in
theorem zl_X3_204 : zLk "AnswerSquare" 204 mX0_hasAll := Or.inr ⟨_, List.mem_of_getElem? (i := 52) rfl⟩
set_option maxRecDepth 20000 in
theorem zm_2_181 : Cond.methodLink "AnswerSquare" (213 : Nat) ({ cls := "AnswerSquare", name := "suffices", desc := "(II)Z" } : MethodName) ∈ ztbl := zg (zt_2 (List.mem_of_getElem? (i := 181) rfl)) rfl
set_option maxRecDepth 20000 in
theorem zl_X3_213 : zLk "AnswerSquare" 213 mX3_suffices := Or.inl zm_2_181
set_option maxRecDepth 20000 in
theorem zl_X3_225 : zLk "AnswerSquare" 225 mX0_reachable := Or.inr ⟨_, List.mem_of_getElem? (i := 53) rfl⟩
set_option maxRecDepth 20000 in
theorem zm_2_189 : Cond.methodLink "AnswerSquare$Duchy" (93 : Nat) ({ cls := "AnswerSquare$Duchy", name := "answering", desc := "(I)I" } : MethodName) ∈ ztbl := zg (zt_2 (List.mem_of_getElem? (i := 189) rfl)) rfl
set_option maxRecDepth 20000 in
theorem zl_X0_93 : zLk "AnswerSquare$Duchy" 93 mX0_answering := Or.inl zm_2_189
set_option maxRecDepth 20000 in
theorem zm_2_190 : Cond.methodLink "AnswerSquare" (217 : Nat) ({ cls := "java/lang/Integer", name := "bitCount", desc := "(I)I" } : MethodName) ∈ ztbl := zg (zt_2 (List.mem_of_getElem? (i := 190) rfl)) rfl
set_option maxRecDepth 20000 in
theorem zl_X3_217 : zLk "AnswerSquare" 217 mJ6_bitCount_0f7a4 := Or.inl zm_2_190
set_option maxRecDepth 20000 in
theorem zm_2_196 : Cond.methodLink "AnswerSquareLaw" (72 : Nat) ({ cls := "AnswerSquare", name := "began", desc := "(I)I" } : MethodName) ∈ ztbl := zg (zt_2 (List.mem_of_getElem? (i := 196) rfl)) rfl
set_option maxRecDepth 20000 in
theorem zl_L_72 : zLk "AnswerSquareLaw" 72 mX3_began := Or.inl zm_2_196
set_option maxRecDepth 20000 in
theorem zm_2_200 : Cond.methodLink "AnswerSquare" (222 : Nat) ({ cls := "AnswerSquare", name := "beginnings", desc := "(I)I" } : MethodName) ∈ ztbl := zg (zt_2 (List.mem_of_getElem? (i := 200) rfl)) rfl
set_option maxRecDepth 20000 in
theorem zl_X3_222 : zLk "AnswerSquare" 222 mX3_beginnings := Or.inl zm_2_200
set_option maxRecDepth 20000 in
theorem zm_2_204 : Cond.methodLink "AnswerSquareLaw" (76 : Nat) ({ cls := "AnswerSquare", name := "odds", desc := "(III)I" } : MethodName) ∈ ztbl := zg (zt_2 (List.mem_of_getElem? (i := 204) rfl)) rfl
set_option maxRecDepth 20000 in
theorem zl_L_76 : zLk "AnswerSquareLaw" 76 mX3_odds := Or.inl zm_2_204
set_option maxRecDepth 20000 in
theorem zm_2_208 : Cond.methodLink "AnswerSquare" (228 : Nat) ({ cls := "AnswerSquare", name := "commonDivisor", desc := "(II)I" } : MethodName) ∈ ztbl := zg (zt_2 (List.mem_of_getElem? (i := 208) rfl)) rfl
set_option maxRecDepth 20000 in
theorem zl_X3_228 : zLk "AnswerSquare" 228 mX3_commonDivisor := Or.inl zm_2_208
set_option maxRecDepth 20000 in
theorem zm_2_211 : Cond.methodLink "AnswerSquareLaw" (81 : Nat) ({ cls := "AnswerSquare", name := "tells", desc := "(II)I" } : MethodName) ∈ ztbl := zg (zt_2 (List.mem_of_getElem? (i := 211) rfl)) rfl
set_option maxRecDepth 20000 in
theorem zl_L_81 : zLk "AnswerSquareLaw" 81 mX3_tells := Or.inl zm_2_211
set_option maxRecDepth 20000 in
theorem zm_2_215 : Cond.methodLink "AnswerSquareLaw" (85 : Nat) ({ cls := "AnswerSquare", name := "forget", desc := "()I" } : MethodName) ∈ ztbl := zg (zt_2 (List.mem_of_getElem? (i := 215) rfl)) rfl
set_option maxRecDepth 20000 in
theorem zl_L_85 : zLk "AnswerSquareLaw" 85 mX3_forget := Or.inl zm_2_215
set_option maxRecDepth 20000 in
theorem zm_2_219 : Cond.methodLink "AnswerSquareLaw" (89 : Nat) ({ cls := "AnswerSquare", name := "fits", desc := "()I" } : MethodName) ∈ ztbl := zg (zt_2 (List.mem_of_getElem? (i := 219) rfl)) rfl
set_option maxRecDepth 20000 in
theorem zl_L_89 : zLk "AnswerSquareLaw" 89 mX3_fits := Or.inl zm_2_219
set_option maxRecDepth 20000 in
theorem zl_X3_231 : zLk "AnswerSquare" 231 mX1_aheadOf := Or.inr ⟨_, List.mem_of_getElem? (i := 54) rfl⟩
set_option maxRecDepth 20000 in
theorem zm_2_227 : Cond.methodLink "AnswerSquareLaw" (93 : Nat) ({ cls := "AnswerSquare", name := "orders", desc := "(I)I" } : MethodName) ∈ ztbl := zg (zt_2 (List.mem_of_getElem? (i := 227) rfl)) rfl
set_option maxRecDepth 20000 in
theorem zl_L_93 : zLk "AnswerSquareLaw" 93 mX3_orders := Or.inl zm_2_227
set_option maxRecDepth 20000 in
theorem zm_2_231 : Cond.methodLink "AnswerSquare" (234 : Nat) ({ cls := "AnswerSquare", name := "waysTo", desc := "(II)I" } : MethodName) ∈ ztbl := zg (zt_2 (List.mem_of_getElem? (i := 231) rfl)) rfl
set_option maxRecDepth 20000 in
theorem zl_X3_234 : zLk "AnswerSquare" 234 mX3_waysTo := Or.inl zm_2_231
set_option maxRecDepth 20000 in
theorem zl_X3_237 : zLk "AnswerSquare" 237 mX0_canFollow := Or.inr ⟨_, List.mem_of_getElem? (i := 55) rfl⟩
set_option maxRecDepth 20000 in
theorem zm_2_239 : Cond.methodLink "AnswerSquare$Duchy" (96 : Nat) ({ cls := "AnswerSquare$Duchy", name := "isSound", desc := "(I)Z" } : MethodName) ∈ ztbl := zg (zt_2 (List.mem_of_getElem? (i := 239) rfl)) rfl
set_option maxRecDepth 20000 in
theorem zl_X0_96 : zLk "AnswerSquare$Duchy" 96 mX0_isSound := Or.inl zm_2_239
set_option maxRecDepth 20000 in
theorem zm_3_0 : Cond.methodLink "AnswerSquareLaw" (97 : Nat) ({ cls := "AnswerSquare", name := "mark", desc := "(II)I" } : MethodName) ∈ ztbl := zg (zt_3 (List.mem_of_getElem? (i := 0) rfl)) rfl
set_option maxRecDepth 20000 in
theorem zl_L_97 : zLk "AnswerSquareLaw" 97 mX3_mark := Or.inl zm_3_0
set_option maxRecDepth 20000 in
theorem zm_3_5 : Cond.methodLink "AnswerSquare" (241 : Nat) ({ cls := "AnswerSquare", name := "asSaying", desc := "(I)I" } : MethodName) ∈ ztbl := zg (zt_3 (List.mem_of_getElem? (i := 5) rfl)) rfl
set_option maxRecDepth 20000 in
theorem zl_X3_241 : zLk "AnswerSquare" 241 mX3_asSaying := Or.inl zm_3_5
set_option maxRecDepth 20000 in
theorem zm_3_9 : Cond.methodLink "AnswerSquare" (244 : Nat) ({ cls := "AnswerSquare", name := "asCough", desc := "(I)I" } : MethodName) ∈ ztbl := zg (zt_3 (List.mem_of_getElem? (i := 9) rfl)) rfl
set_option maxRecDepth 20000 in
theorem zl_X3_244 : zLk "AnswerSquare" 244 mX3_asCough := Or.inl zm_3_9
set_option maxRecDepth 20000 in
theorem zl_X3_261 : zLk "AnswerSquare" 261 mX0_answersCount := Or.inr ⟨_, List.mem_of_getElem? (i := 56) rfl⟩
set_option maxRecDepth 20000 in
theorem zm_3_18 : Cond.methodLink "AnswerSquare$Duchy" (84 : Nat) ({ cls := "java/lang/Integer", name := "bitCount", desc := "(I)I" } : MethodName) ∈ ztbl := zg (zt_3 (List.mem_of_getElem? (i := 18) rfl)) rfl
set_option maxRecDepth 20000 in
theorem zl_X0_84 : zLk "AnswerSquare$Duchy" 84 mJ6_bitCount_0f7a4 := Or.inl zm_3_18
set_option maxRecDepth 20000 in
theorem zm_3_19 : Cond.methodLink "AnswerSquare" (247 : Nat) ({ cls := "AnswerSquare", name := "asBell", desc := "(I)I" } : MethodName) ∈ ztbl := zg (zt_3 (List.mem_of_getElem? (i := 19) rfl)) rfl
set_option maxRecDepth 20000 in
theorem zl_X3_247 : zLk "AnswerSquare" 247 mX3_asBell := Or.inl zm_3_19
set_option maxRecDepth 20000 in
theorem zm_3_24 : Cond.methodLink "AnswerSquare" (250 : Nat) ({ cls := "AnswerSquare", name := "asKnock", desc := "(I)I" } : MethodName) ∈ ztbl := zg (zt_3 (List.mem_of_getElem? (i := 24) rfl)) rfl
set_option maxRecDepth 20000 in
theorem zl_X3_250 : zLk "AnswerSquare" 250 mX3_asKnock := Or.inl zm_3_24
set_option maxRecDepth 20000 in
theorem zm_3_29 : Cond.methodLink "AnswerSquare" (253 : Nat) ({ cls := "AnswerSquare", name := "asEcho", desc := "(I)I" } : MethodName) ∈ ztbl := zg (zt_3 (List.mem_of_getElem? (i := 29) rfl)) rfl
set_option maxRecDepth 20000 in
theorem zl_X3_253 : zLk "AnswerSquare" 253 mX3_asEcho := Or.inl zm_3_29
set_option maxRecDepth 20000 in
theorem zm_3_34 : Cond.methodLink "AnswerSquare" (256 : Nat) ({ cls := "AnswerSquare", name := "asOwl", desc := "(I)I" } : MethodName) ∈ ztbl := zg (zt_3 (List.mem_of_getElem? (i := 34) rfl)) rfl
set_option maxRecDepth 20000 in
theorem zl_X3_256 : zLk "AnswerSquare" 256 mX3_asOwl := Or.inl zm_3_34
set_option maxRecDepth 20000 in
theorem zm_3_39 : Cond.methodLink "AnswerSquareLaw" (101 : Nat) ({ cls := "AnswerSquare", name := "keep", desc := "(I)I" } : MethodName) ∈ ztbl := zg (zt_3 (List.mem_of_getElem? (i := 39) rfl)) rfl
set_option maxRecDepth 20000 in
theorem zl_L_101 : zLk "AnswerSquareLaw" 101 mX3_keep := Or.inl zm_3_39
set_option maxRecDepth 20000 in
theorem zm_3_43 : Cond.methodLink "AnswerSquare" (272 : Nat) ({ cls := "AnswerSquare", name := "imageOf", desc := "(I)LAnswerSquare$Moment;" } : MethodName) ∈ ztbl := zg (zt_3 (List.mem_of_getElem? (i := 43) rfl)) rfl
set_option maxRecDepth 20000 in
theorem zl_X3_272 : zLk "AnswerSquare" 272 mX3_imageOf := Or.inl zm_3_43
set_option maxRecDepth 20000 in
theorem zl_X3_276 : zLk "AnswerSquare" 276 mX1_become := Or.inr ⟨_, List.mem_of_getElem? (i := 57) rfl⟩
set_option maxRecDepth 20000 in
theorem zm_3_51 : Cond.methodLink "AnswerSquare$Moment" (43 : Nat) ({ cls := "java/lang/System", name := "arraycopy", desc := "(Ljava/lang/Object;ILjava/lang/Object;II)V" } : MethodName) ∈ ztbl := zg (zt_3 (List.mem_of_getElem? (i := 51) rfl)) rfl
set_option maxRecDepth 20000 in
theorem zm_3_54 : Cond.methodLink "AnswerSquareLaw" (105 : Nat) ({ cls := "AnswerSquare", name := "back", desc := "(I)I" } : MethodName) ∈ ztbl := zg (zt_3 (List.mem_of_getElem? (i := 54) rfl)) rfl
set_option maxRecDepth 20000 in
theorem zl_L_105 : zLk "AnswerSquareLaw" 105 mX3_back := Or.inl zm_3_54
set_option maxRecDepth 20000 in
theorem zm_3_58 : Cond.methodLink "AnswerSquareLaw" (109 : Nat) ({ cls := "AnswerSquare", name := "count", desc := "(I)I" } : MethodName) ∈ ztbl := zg (zt_3 (List.mem_of_getElem? (i := 58) rfl)) rfl
set_option maxRecDepth 20000 in
theorem zl_L_109 : zLk "AnswerSquareLaw" 109 mX3_count := Or.inl zm_3_58
set_option maxRecDepth 20000 in
theorem zm_3_62 : Cond.methodLink "AnswerSquareLaw" (113 : Nat) ({ cls := "AnswerSquare", name := "trace", desc := "()J" } : MethodName) ∈ ztbl := zg (zt_3 (List.mem_of_getElem? (i := 62) rfl)) rfl
set_option maxRecDepth 20000 in
theorem zl_L_113 : zLk "AnswerSquareLaw" 113 mX3_trace := Or.inl zm_3_62
set_option maxRecDepth 20000 in
theorem zm_3_68 : Cond.methodLink "AnswerSquareLaw" (12 : Nat) ({ cls := "AnswerSquareModel", name := "<init>", desc := "()V" } : MethodName) ∈ ztbl := zg (zt_3 (List.mem_of_getElem? (i := 68) rfl)) rfl
set_option maxRecDepth 20000 in
theorem zl_L_12 : zLk "AnswerSquareLaw" 12 mX4_init := Or.inl zm_3_68
set_option maxRecDepth 20000 in
theorem zm_3_71 : Cond.methodLink "AnswerSquareModel" (1 : Nat) ({ cls := "java/lang/Object", name := "<init>", desc := "()V" } : MethodName) ∈ ztbl := zg (zt_3 (List.mem_of_getElem? (i := 71) rfl)) rfl
set_option maxRecDepth 20000 in
theorem zm_3_72 : Cond.methodLink "AnswerSquareModel" (51 : Nat) ({ cls := "AnswerSquareModel", name := "plain", desc := "()V" } : MethodName) ∈ ztbl := zg (zt_3 (List.mem_of_getElem? (i := 72) rfl)) rfl
set_option maxRecDepth 20000 in
theorem zl_X4_51 : zLk "AnswerSquareModel" 51 mX4_plain := Or.inl zm_3_72
set_option maxRecDepth 20000 in
theorem zm_3_76 : Cond.methodLink "AnswerSquareModel" (54 : Nat) ({ cls := "AnswerSquareModel", name := "takeDraft", desc := "()V" } : MethodName) ∈ ztbl := zg (zt_3 (List.mem_of_getElem? (i := 76) rfl)) rfl
set_option maxRecDepth 20000 in
theorem zl_X4_54 : zLk "AnswerSquareModel" 54 mX4_takeDraft := Or.inl zm_3_76
set_option maxRecDepth 20000 in
theorem zm_3_149 : Cond.methodLink "AnswerSquareLaw" (17 : Nat) ({ cls := "AnswerSquareModel", name := "type", desc := "(I)I" } : MethodName) ∈ ztbl := zg (zt_3 (List.mem_of_getElem? (i := 149) rfl)) rfl
set_option maxRecDepth 20000 in
theorem zl_L_17 : zLk "AnswerSquareLaw" 17 mX4_type := Or.inl zm_3_149
set_option maxRecDepth 20000 in
theorem zm_3_153 : Cond.methodLink "AnswerSquareModel" (57 : Nat) ({ cls := "AnswerSquareModel", name := "in", desc := "(III)Z" } : MethodName) ∈ ztbl := zg (zt_3 (List.mem_of_getElem? (i := 153) rfl)) rfl
set_option maxRecDepth 20000 in
theorem zl_X4_57 : zLk "AnswerSquareModel" 57 mX4_in := Or.inl zm_3_153
set_option maxRecDepth 20000 in
theorem zm_3_156 : Cond.methodLink "AnswerSquareLaw" (22 : Nat) ({ cls := "AnswerSquareModel", name := "clear", desc := "()I" } : MethodName) ∈ ztbl := zg (zt_3 (List.mem_of_getElem? (i := 156) rfl)) rfl
set_option maxRecDepth 20000 in
theorem zl_L_22 : zLk "AnswerSquareLaw" 22 mX4_clear := Or.inl zm_3_156
set_option maxRecDepth 20000 in
theorem zm_3_160 : Cond.methodLink "AnswerSquareLaw" (26 : Nat) ({ cls := "AnswerSquareModel", name := "duchy", desc := "()I" } : MethodName) ∈ ztbl := zg (zt_3 (List.mem_of_getElem? (i := 160) rfl)) rfl
set_option maxRecDepth 20000 in
theorem zl_L_26 : zLk "AnswerSquareLaw" 26 mX4_duchy := Or.inl zm_3_160
set_option maxRecDepth 20000 in
theorem zm_3_164 : Cond.methodLink "AnswerSquareModel" (84 : Nat) ({ cls := "AnswerSquareModel", name := "step", desc := "()V" } : MethodName) ∈ ztbl := zg (zt_3 (List.mem_of_getElem? (i := 164) rfl)) rfl
set_option maxRecDepth 20000 in
theorem zl_X4_84 : zLk "AnswerSquareModel" 84 mX4_step := Or.inl zm_3_164
set_option maxRecDepth 20000 in
theorem zm_3_168 : Cond.methodLink "AnswerSquareModel" (68 : Nat) ({ cls := "AnswerSquareModel", name := "here", desc := "()I" } : MethodName) ∈ ztbl := zg (zt_3 (List.mem_of_getElem? (i := 168) rfl)) rfl
set_option maxRecDepth 20000 in
theorem zl_X4_68 : zLk "AnswerSquareModel" 68 mX4_here := Or.inl zm_3_168
set_option maxRecDepth 20000 in
theorem zm_3_172 : Cond.methodLink "AnswerSquareModel" (105 : Nat) ({ cls := "AnswerSquareModel", name := "mayBe", desc := "(I)Z" } : MethodName) ∈ ztbl := zg (zt_3 (List.mem_of_getElem? (i := 172) rfl)) rfl
set_option maxRecDepth 20000 in
theorem zl_X4_105 : zLk "AnswerSquareModel" 105 mX4_mayBe := Or.inl zm_3_172
set_option maxRecDepth 20000 in
theorem zm_3_176 : Cond.methodLink "AnswerSquareModel" (87 : Nat) ({ cls := "AnswerSquareModel", name := "due", desc := "(Z)I" } : MethodName) ∈ ztbl := zg (zt_3 (List.mem_of_getElem? (i := 176) rfl)) rfl
set_option maxRecDepth 20000 in
theorem zl_X4_87 : zLk "AnswerSquareModel" 87 mX4_due := Or.inl zm_3_176
set_option maxRecDepth 20000 in
theorem zm_3_180 : Cond.methodLink "AnswerSquareModel" (109 : Nat) ({ cls := "AnswerSquareModel", name := "readRow", desc := "(I)V" } : MethodName) ∈ ztbl := zg (zt_3 (List.mem_of_getElem? (i := 180) rfl)) rfl
set_option maxRecDepth 20000 in
theorem zl_X4_109 : zLk "AnswerSquareModel" 109 mX4_readRow := Or.inl zm_3_180
set_option maxRecDepth 20000 in
theorem zm_3_184 : Cond.methodLink "AnswerSquareModel" (95 : Nat) ({ cls := "AnswerSquareModel", name := "number", desc := "(II)I" } : MethodName) ∈ ztbl := zg (zt_3 (List.mem_of_getElem? (i := 184) rfl)) rfl
set_option maxRecDepth 20000 in
theorem zl_X4_95 : zLk "AnswerSquareModel" 95 mX4_number := Or.inl zm_3_184
set_option maxRecDepth 20000 in
theorem zm_3_188 : Cond.methodLink "AnswerSquareModel" (99 : Nat) ({ cls := "AnswerSquareModel", name := "readSet", desc := "()I" } : MethodName) ∈ ztbl := zg (zt_3 (List.mem_of_getElem? (i := 188) rfl)) rfl
set_option maxRecDepth 20000 in
theorem zl_X4_99 : zLk "AnswerSquareModel" 99 mX4_readSet := Or.inl zm_3_188
set_option maxRecDepth 20000 in
theorem zm_3_192 : Cond.methodLink "AnswerSquareLaw" (31 : Nat) ({ cls := "AnswerSquareModel", name := "saying", desc := "(II)I" } : MethodName) ∈ ztbl := zg (zt_3 (List.mem_of_getElem? (i := 192) rfl)) rfl
set_option maxRecDepth 20000 in
theorem zl_L_31 : zLk "AnswerSquareLaw" 31 mX4_saying := Or.inl zm_3_192
set_option maxRecDepth 20000 in
theorem zm_3_196 : Cond.methodLink "AnswerSquareModel" (117 : Nat) ({ cls := "AnswerSquareModel", name := "isSaying", desc := "(I)Z" } : MethodName) ∈ ztbl := zg (zt_3 (List.mem_of_getElem? (i := 196) rfl)) rfl
set_option maxRecDepth 20000 in
theorem zl_X4_117 : zLk "AnswerSquareModel" 117 mX4_isSaying := Or.inl zm_3_196
set_option maxRecDepth 20000 in
theorem zm_3_200 : Cond.methodLink "AnswerSquareModel" (120 : Nat) ({ cls := "AnswerSquareModel", name := "isSound", desc := "(I)Z" } : MethodName) ∈ ztbl := zg (zt_3 (List.mem_of_getElem? (i := 200) rfl)) rfl
set_option maxRecDepth 20000 in
theorem zl_X4_120 : zLk "AnswerSquareModel" 120 mX4_isSound := Or.inl zm_3_200
set_option maxRecDepth 20000 in
theorem zm_3_204 : Cond.methodLink "AnswerSquareModel" (123 : Nat) ({ cls := "AnswerSquareModel", name := "knownBy", desc := "(I)I" } : MethodName) ∈ ztbl := zg (zt_3 (List.mem_of_getElem? (i := 204) rfl)) rfl
set_option maxRecDepth 20000 in
theorem zl_X4_123 : zLk "AnswerSquareModel" 123 mX4_knownBy := Or.inl zm_3_204
set_option maxRecDepth 20000 in
theorem zm_3_208 : Cond.methodLink "AnswerSquareModel" (127 : Nat) ({ cls := "AnswerSquareModel", name := "oftenOf", desc := "(I)I" } : MethodName) ∈ ztbl := zg (zt_3 (List.mem_of_getElem? (i := 208) rfl)) rfl
set_option maxRecDepth 20000 in
theorem zl_X4_127 : zLk "AnswerSquareModel" 127 mX4_oftenOf := Or.inl zm_3_208
set_option maxRecDepth 20000 in
theorem zm_3_212 : Cond.methodLink "AnswerSquareLaw" (35 : Nat) ({ cls := "AnswerSquareModel", name := "person", desc := "(II)I" } : MethodName) ∈ ztbl := zg (zt_3 (List.mem_of_getElem? (i := 212) rfl)) rfl
set_option maxRecDepth 20000 in
theorem zl_L_35 : zLk "AnswerSquareLaw" 35 mX4_person := Or.inl zm_3_212
set_option maxRecDepth 20000 in
theorem zm_3_216 : Cond.methodLink "AnswerSquareModel" (130 : Nat) ({ cls := "AnswerSquareModel", name := "isPerson", desc := "(I)Z" } : MethodName) ∈ ztbl := zg (zt_3 (List.mem_of_getElem? (i := 216) rfl)) rfl
set_option maxRecDepth 20000 in
theorem zl_X4_130 : zLk "AnswerSquareModel" 130 mX4_isPerson := Or.inl zm_3_216
set_option maxRecDepth 20000 in
theorem zm_3_220 : Cond.methodLink "AnswerSquareModel" (133 : Nat) ({ cls := "AnswerSquareModel", name := "there", desc := "(I)I" } : MethodName) ∈ ztbl := zg (zt_3 (List.mem_of_getElem? (i := 220) rfl)) rfl
set_option maxRecDepth 20000 in
theorem zl_X4_133 : zLk "AnswerSquareModel" 133 mX4_there := Or.inl zm_3_220
set_option maxRecDepth 20000 in
theorem zm_3_224 : Cond.methodLink "AnswerSquareModel" (113 : Nat) ({ cls := "AnswerSquareModel", name := "isThere", desc := "(II)Z" } : MethodName) ∈ ztbl := zg (zt_3 (List.mem_of_getElem? (i := 224) rfl)) rfl
set_option maxRecDepth 20000 in
theorem zl_X4_113 : zLk "AnswerSquareModel" 113 mX4_isThere := Or.inl zm_3_224
set_option maxRecDepth 20000 in
theorem zm_3_228 : Cond.methodLink "AnswerSquareModel" (136 : Nat) ({ cls := "AnswerSquareModel", name := "mayOf", desc := "(II)I" } : MethodName) ∈ ztbl := zg (zt_3 (List.mem_of_getElem? (i := 228) rfl)) rfl
set_option maxRecDepth 20000 in
theorem zl_X4_136 : zLk "AnswerSquareModel" 136 mX4_mayOf := Or.inl zm_3_228
set_option maxRecDepth 20000 in
theorem zm_3_232 : Cond.methodLink "AnswerSquareLaw" (39 : Nat) ({ cls := "AnswerSquareModel", name := "talk", desc := "(II)I" } : MethodName) ∈ ztbl := zg (zt_3 (List.mem_of_getElem? (i := 232) rfl)) rfl
set_option maxRecDepth 20000 in
theorem zl_L_39 : zLk "AnswerSquareLaw" 39 mX4_talk := Or.inl zm_3_232
set_option maxRecDepth 20000 in
theorem zm_3_236 : Cond.methodLink "AnswerSquareModel" (139 : Nat) ({ cls := "AnswerSquareModel", name := "rootOf", desc := "(I)I" } : MethodName) ∈ ztbl := zg (zt_3 (List.mem_of_getElem? (i := 236) rfl)) rfl
set_option maxRecDepth 20000 in
theorem zl_X4_139 : zLk "AnswerSquareModel" 139 mX4_rootOf := Or.inl zm_3_236
set_option maxRecDepth 20000 in
theorem zm_4_0 : Cond.methodLink "AnswerSquareModel" (142 : Nat) ({ cls := "AnswerSquareModel", name := "farOf", desc := "(I)I" } : MethodName) ∈ ztbl := zg (zt_4 (List.mem_of_getElem? (i := 0) rfl)) rfl
set_option maxRecDepth 20000 in
theorem zl_X4_142 : zLk "AnswerSquareModel" 142 mX4_farOf := Or.inl zm_4_0
set_option maxRecDepth 20000 in
theorem zm_4_4 : Cond.methodLink "AnswerSquareModel" (145 : Nat) ({ cls := "AnswerSquareModel", name := "firstAnswer", desc := "(I)I" } : MethodName) ∈ ztbl := zg (zt_4 (List.mem_of_getElem? (i := 4) rfl)) rfl
set_option maxRecDepth 20000 in
theorem zl_X4_145 : zLk "AnswerSquareModel" 145 mX4_firstAnswer := Or.inl zm_4_4
set_option maxRecDepth 20000 in
theorem zm_4_8 : Cond.methodLink "AnswerSquareLaw" (43 : Nat) ({ cls := "AnswerSquareModel", name := "hears", desc := "(I)I" } : MethodName) ∈ ztbl := zg (zt_4 (List.mem_of_getElem? (i := 8) rfl)) rfl
set_option maxRecDepth 20000 in
theorem zl_L_43 : zLk "AnswerSquareLaw" 43 mX4_hears := Or.inl zm_4_8
set_option maxRecDepth 20000 in
theorem zm_4_12 : Cond.methodLink "AnswerSquareModel" (151 : Nat) ({ cls := "AnswerSquareModel", name := "add", desc := "(III)V" } : MethodName) ∈ ztbl := zg (zt_4 (List.mem_of_getElem? (i := 12) rfl)) rfl
set_option maxRecDepth 20000 in
theorem zl_X4_151 : zLk "AnswerSquareModel" 151 mX4_add := Or.inl zm_4_12
set_option maxRecDepth 20000 in
theorem zm_4_16 : Cond.methodLink "AnswerSquareModel" (148 : Nat) ({ cls := "AnswerSquareModel", name := "know", desc := "()V" } : MethodName) ∈ ztbl := zg (zt_4 (List.mem_of_getElem? (i := 16) rfl)) rfl
set_option maxRecDepth 20000 in
theorem zl_X4_148 : zLk "AnswerSquareModel" 148 mX4_know := Or.inl zm_4_16
set_option maxRecDepth 20000 in
theorem zm_4_20 : Cond.methodLink "AnswerSquareLaw" (47 : Nat) ({ cls := "AnswerSquareModel", name := "says", desc := "(II)I" } : MethodName) ∈ ztbl := zg (zt_4 (List.mem_of_getElem? (i := 20) rfl)) rfl
set_option maxRecDepth 20000 in
theorem zl_L_47 : zLk "AnswerSquareLaw" 47 mX4_says := Or.inl zm_4_20
set_option maxRecDepth 20000 in
theorem zm_4_24 : Cond.methodLink "AnswerSquareLaw" (51 : Nat) ({ cls := "AnswerSquareModel", name := "hour", desc := "()I" } : MethodName) ∈ ztbl := zg (zt_4 (List.mem_of_getElem? (i := 24) rfl)) rfl
set_option maxRecDepth 20000 in
theorem zl_L_51 : zLk "AnswerSquareLaw" 51 mX4_hour := Or.inl zm_4_24
set_option maxRecDepth 20000 in
theorem zm_4_28 : Cond.methodLink "AnswerSquareLaw" (55 : Nat) ({ cls := "AnswerSquareModel", name := "undo", desc := "()I" } : MethodName) ∈ ztbl := zg (zt_4 (List.mem_of_getElem? (i := 28) rfl)) rfl
set_option maxRecDepth 20000 in
theorem zl_L_55 : zLk "AnswerSquareLaw" 55 mX4_undo := Or.inl zm_4_28
set_option maxRecDepth 20000 in
theorem zm_4_32 : Cond.methodLink "AnswerSquareLaw" (59 : Nat) ({ cls := "AnswerSquareModel", name := "now", desc := "(I)I" } : MethodName) ∈ ztbl := zg (zt_4 (List.mem_of_getElem? (i := 32) rfl)) rfl
set_option maxRecDepth 20000 in
theorem zl_L_59 : zLk "AnswerSquareLaw" 59 mX4_now := Or.inl zm_4_32
set_option maxRecDepth 20000 in
theorem zm_4_36 : Cond.methodLink "AnswerSquareModel" (155 : Nat) ({ cls := "AnswerSquareModel", name := "farthest", desc := "()I" } : MethodName) ∈ ztbl := zg (zt_4 (List.mem_of_getElem? (i := 36) rfl)) rfl
set_option maxRecDepth 20000 in
theorem zl_X4_155 : zLk "AnswerSquareModel" 155 mX4_farthest := Or.inl zm_4_36
set_option maxRecDepth 20000 in
theorem zm_4_40 : Cond.methodLink "AnswerSquareModel" (158 : Nat) ({ cls := "AnswerSquareModel", name := "silent", desc := "()I" } : MethodName) ∈ ztbl := zg (zt_4 (List.mem_of_getElem? (i := 40) rfl)) rfl
set_option maxRecDepth 20000 in
theorem zl_X4_158 : zLk "AnswerSquareModel" 158 mX4_silent := Or.inl zm_4_40
set_option maxRecDepth 20000 in
theorem zm_4_44 : Cond.methodLink "AnswerSquareLaw" (63 : Nat) ({ cls := "AnswerSquareModel", name := "worth", desc := "(I)I" } : MethodName) ∈ ztbl := zg (zt_4 (List.mem_of_getElem? (i := 44) rfl)) rfl
set_option maxRecDepth 20000 in
theorem zl_L_63 : zLk "AnswerSquareLaw" 63 mX4_worth := Or.inl zm_4_44
set_option maxRecDepth 20000 in
theorem zm_4_48 : Cond.methodLink "AnswerSquareLaw" (67 : Nat) ({ cls := "AnswerSquareModel", name := "chain", desc := "(II)I" } : MethodName) ∈ ztbl := zg (zt_4 (List.mem_of_getElem? (i := 48) rfl)) rfl
set_option maxRecDepth 20000 in
theorem zl_L_67 : zLk "AnswerSquareLaw" 67 mX4_chain := Or.inl zm_4_48
set_option maxRecDepth 20000 in
theorem zm_4_52 : Cond.methodLink "AnswerSquareModel" (167 : Nat) ({ cls := "AnswerSquareModel", name := "chainOf", desc := "(II)I" } : MethodName) ∈ ztbl := zg (zt_4 (List.mem_of_getElem? (i := 52) rfl)) rfl
set_option maxRecDepth 20000 in
theorem zl_X4_167 : zLk "AnswerSquareModel" 167 mX4_chainOf := Or.inl zm_4_52
set_option maxRecDepth 20000 in
theorem zm_4_56 : Cond.methodLink "AnswerSquareModel" (164 : Nat) ({ cls := "AnswerSquareModel", name := "nextOf", desc := "(I)I" } : MethodName) ∈ ztbl := zg (zt_4 (List.mem_of_getElem? (i := 56) rfl)) rfl
set_option maxRecDepth 20000 in
theorem zl_X4_164 : zLk "AnswerSquareModel" 164 mX4_nextOf := Or.inl zm_4_56
set_option maxRecDepth 20000 in
theorem zm_4_60 : Cond.methodLink "AnswerSquareModel" (161 : Nat) ({ cls := "AnswerSquareModel", name := "sayable", desc := "()I" } : MethodName) ∈ ztbl := zg (zt_4 (List.mem_of_getElem? (i := 60) rfl)) rfl
set_option maxRecDepth 20000 in
theorem zl_X4_161 : zLk "AnswerSquareModel" 161 mX4_sayable := Or.inl zm_4_60
set_option maxRecDepth 20000 in
theorem zm_4_64 : Cond.methodLink "AnswerSquareLaw" (71 : Nat) ({ cls := "AnswerSquareModel", name := "sounds", desc := "(I)I" } : MethodName) ∈ ztbl := zg (zt_4 (List.mem_of_getElem? (i := 64) rfl)) rfl
set_option maxRecDepth 20000 in
theorem zl_L_71 : zLk "AnswerSquareLaw" 71 mX4_sounds := Or.inl zm_4_64
set_option maxRecDepth 20000 in
theorem zm_4_68 : Cond.methodLink "AnswerSquareModel" (170 : Nat) ({ cls := "AnswerSquareModel", name := "manyOf", desc := "(I)I" } : MethodName) ∈ ztbl := zg (zt_4 (List.mem_of_getElem? (i := 68) rfl)) rfl
set_option maxRecDepth 20000 in
theorem zl_X4_170 : zLk "AnswerSquareModel" 170 mX4_manyOf := Or.inl zm_4_68
set_option maxRecDepth 20000 in
theorem zm_4_71 : Cond.methodLink "AnswerSquareModel" (173 : Nat) ({ cls := "AnswerSquareModel", name := "reach", desc := "(I)I" } : MethodName) ∈ ztbl := zg (zt_4 (List.mem_of_getElem? (i := 71) rfl)) rfl
set_option maxRecDepth 20000 in
theorem zl_X4_173 : zLk "AnswerSquareModel" 173 mX4_reach := Or.inl zm_4_71
set_option maxRecDepth 20000 in
theorem zm_4_75 : Cond.methodLink "AnswerSquareLaw" (75 : Nat) ({ cls := "AnswerSquareModel", name := "began", desc := "(I)I" } : MethodName) ∈ ztbl := zg (zt_4 (List.mem_of_getElem? (i := 75) rfl)) rfl
set_option maxRecDepth 20000 in
theorem zl_L_75 : zLk "AnswerSquareLaw" 75 mX4_began := Or.inl zm_4_75
set_option maxRecDepth 20000 in
theorem zm_4_79 : Cond.methodLink "AnswerSquareLaw" (80 : Nat) ({ cls := "AnswerSquareModel", name := "odds", desc := "(III)I" } : MethodName) ∈ ztbl := zg (zt_4 (List.mem_of_getElem? (i := 79) rfl)) rfl
set_option maxRecDepth 20000 in
theorem zl_L_80 : zLk "AnswerSquareLaw" 80 mX4_odds := Or.inl zm_4_79
set_option maxRecDepth 20000 in
theorem zm_4_83 : Cond.methodLink "AnswerSquareLaw" (84 : Nat) ({ cls := "AnswerSquareModel", name := "tells", desc := "(II)I" } : MethodName) ∈ ztbl := zg (zt_4 (List.mem_of_getElem? (i := 83) rfl)) rfl
set_option maxRecDepth 20000 in
theorem zl_L_84 : zLk "AnswerSquareLaw" 84 mX4_tells := Or.inl zm_4_83
set_option maxRecDepth 20000 in
theorem zm_4_87 : Cond.methodLink "AnswerSquareLaw" (88 : Nat) ({ cls := "AnswerSquareModel", name := "forget", desc := "()I" } : MethodName) ∈ ztbl := zg (zt_4 (List.mem_of_getElem? (i := 87) rfl)) rfl
set_option maxRecDepth 20000 in
theorem zl_L_88 : zLk "AnswerSquareLaw" 88 mX4_forget := Or.inl zm_4_87
set_option maxRecDepth 20000 in
theorem zm_4_91 : Cond.methodLink "AnswerSquareLaw" (92 : Nat) ({ cls := "AnswerSquareModel", name := "fits", desc := "()I" } : MethodName) ∈ ztbl := zg (zt_4 (List.mem_of_getElem? (i := 91) rfl)) rfl
set_option maxRecDepth 20000 in
theorem zl_L_92 : zLk "AnswerSquareLaw" 92 mX4_fits := Or.inl zm_4_91
set_option maxRecDepth 20000 in
theorem zm_4_95 : Cond.methodLink "AnswerSquareModel" (176 : Nat) ({ cls := "AnswerSquareModel", name := "firstOf", desc := "(I)I" } : MethodName) ∈ ztbl := zg (zt_4 (List.mem_of_getElem? (i := 95) rfl)) rfl
set_option maxRecDepth 20000 in
theorem zl_X4_176 : zLk "AnswerSquareModel" 176 mX4_firstOf := Or.inl zm_4_95
set_option maxRecDepth 20000 in
theorem zm_4_99 : Cond.methodLink "AnswerSquareLaw" (96 : Nat) ({ cls := "AnswerSquareModel", name := "orders", desc := "(I)I" } : MethodName) ∈ ztbl := zg (zt_4 (List.mem_of_getElem? (i := 99) rfl)) rfl
set_option maxRecDepth 20000 in
theorem zl_L_96 : zLk "AnswerSquareLaw" 96 mX4_orders := Or.inl zm_4_99
set_option maxRecDepth 20000 in
theorem zm_4_103 : Cond.methodLink "AnswerSquareModel" (179 : Nat) ({ cls := "AnswerSquareModel", name := "canCome", desc := "(III)Z" } : MethodName) ∈ ztbl := zg (zt_4 (List.mem_of_getElem? (i := 103) rfl)) rfl
set_option maxRecDepth 20000 in
theorem zl_X4_179 : zLk "AnswerSquareModel" 179 mX4_canCome := Or.inl zm_4_103
set_option maxRecDepth 20000 in
theorem zm_4_107 : Cond.methodLink "AnswerSquareLaw" (100 : Nat) ({ cls := "AnswerSquareModel", name := "mark", desc := "(II)I" } : MethodName) ∈ ztbl := zg (zt_4 (List.mem_of_getElem? (i := 107) rfl)) rfl
set_option maxRecDepth 20000 in
theorem zl_L_100 : zLk "AnswerSquareLaw" 100 mX4_mark := Or.inl zm_4_107
set_option maxRecDepth 20000 in
theorem zm_4_117 : Cond.methodLink "AnswerSquareLaw" (104 : Nat) ({ cls := "AnswerSquareModel", name := "keep", desc := "(I)I" } : MethodName) ∈ ztbl := zg (zt_4 (List.mem_of_getElem? (i := 117) rfl)) rfl
set_option maxRecDepth 20000 in
theorem zl_L_104 : zLk "AnswerSquareLaw" 104 mX4_keep := Or.inl zm_4_117
set_option maxRecDepth 20000 in
theorem zm_4_121 : Cond.methodLink "AnswerSquareLaw" (108 : Nat) ({ cls := "AnswerSquareModel", name := "back", desc := "(I)I" } : MethodName) ∈ ztbl := zg (zt_4 (List.mem_of_getElem? (i := 121) rfl)) rfl
set_option maxRecDepth 20000 in
theorem zl_L_108 : zLk "AnswerSquareLaw" 108 mX4_back := Or.inl zm_4_121
set_option maxRecDepth 20000 in
theorem zm_4_125 : Cond.methodLink "AnswerSquareLaw" (112 : Nat) ({ cls := "AnswerSquareModel", name := "count", desc := "(I)I" } : MethodName) ∈ ztbl := zg (zt_4 (List.mem_of_getElem? (i := 125) rfl)) rfl
set_option maxRecDepth 20000 in
theorem zl_L_112 : zLk "AnswerSquareLaw" 112 mX4_count := Or.inl zm_4_125
set_option maxRecDepth 20000 in
theorem zm_4_129 : Cond.methodLink "AnswerSquareLaw" (117 : Nat) ({ cls := "AnswerSquareModel", name := "trace", desc := "()J" } : MethodName) ∈ ztbl := zg (zt_4 (List.mem_of_getElem? (i := 129) rfl)) rfl
set_option maxRecDepth 20000 in
theorem zl_L_117 : zLk "AnswerSquareLaw" 117 mX4_trace := Or.inl zm_4_129
set_option maxRecDepth 20000 in
theorem zm_2_193 : Cond.constant "java/lang/Integer" (265 : Nat) (1431655765 : Int32) ∈ ztbl := zg (zt_2 (List.mem_of_getElem? (i := 193) rfl)) rfl
set_option maxRecDepth 20000 in
theorem zm_2_194 : Cond.constant "java/lang/Integer" (266 : Nat) (858993459 : Int32) ∈ ztbl := zg (zt_2 (List.mem_of_getElem? (i := 194) rfl)) rfl
set_option maxRecDepth 20000 in
theorem zm_2_195 : Cond.constant "java/lang/Integer" (267 : Nat) (252645135 : Int32) ∈ ztbl := zg (zt_2 (List.mem_of_getElem? (i := 195) rfl)) rfl
set_option maxRecDepth 20000 in
theorem zm_3_4 : Cond.constant "AnswerSquare" (240 : Nat) (-1000000 : Int32) ∈ ztbl := zg (zt_3 (List.mem_of_getElem? (i := 4) rfl)) rfl
set_option maxRecDepth 20000 in
theorem zm_3_13 : Cond.constantLong "AnswerSquare" (259 : Nat) (10 : Int64) ∈ ztbl := zg (zt_3 (List.mem_of_getElem? (i := 13) rfl)) rfl
set_option maxRecDepth 20000 in
theorem zm_3_23 : Cond.constantLong "AnswerSquare" (264 : Nat) (100 : Int64) ∈ ztbl := zg (zt_3 (List.mem_of_getElem? (i := 23) rfl)) rfl
set_option maxRecDepth 20000 in
theorem zm_3_28 : Cond.constantLong "AnswerSquare" (266 : Nat) (1000 : Int64) ∈ ztbl := zg (zt_3 (List.mem_of_getElem? (i := 28) rfl)) rfl
set_option maxRecDepth 20000 in
theorem zm_3_33 : Cond.constantLong "AnswerSquare" (268 : Nat) (10000 : Int64) ∈ ztbl := zg (zt_3 (List.mem_of_getElem? (i := 33) rfl)) rfl
set_option maxRecDepth 20000 in
theorem zm_3_38 : Cond.constantLong "AnswerSquare" (270 : Nat) (100000 : Int64) ∈ ztbl := zg (zt_3 (List.mem_of_getElem? (i := 38) rfl)) rfl
set_option maxRecDepth 20000 in
theorem zm_4_111 : Cond.constant "AnswerSquareModel" (182 : Nat) (-1000000 : Int32) ∈ ztbl := zg (zt_4 (List.mem_of_getElem? (i := 111) rfl)) rfl
set_option maxRecDepth 20000 in
theorem zm_4_112 : Cond.constantLong "AnswerSquareModel" (187 : Nat) (11 : Int64) ∈ ztbl := zg (zt_4 (List.mem_of_getElem? (i := 112) rfl)) rfl
set_option maxRecDepth 20000 in
theorem zm_4_113 : Cond.constantLong "AnswerSquareModel" (189 : Nat) (101 : Int64) ∈ ztbl := zg (zt_4 (List.mem_of_getElem? (i := 113) rfl)) rfl
set_option maxRecDepth 20000 in
theorem zm_4_114 : Cond.constantLong "AnswerSquareModel" (191 : Nat) (1011 : Int64) ∈ ztbl := zg (zt_4 (List.mem_of_getElem? (i := 114) rfl)) rfl
set_option maxRecDepth 20000 in
theorem zm_4_115 : Cond.constantLong "AnswerSquareModel" (193 : Nat) (10101 : Int64) ∈ ztbl := zg (zt_4 (List.mem_of_getElem? (i := 115) rfl)) rfl
set_option maxRecDepth 20000 in
theorem zm_4_116 : Cond.constantLong "AnswerSquareModel" (195 : Nat) (100001 : Int64) ∈ ztbl := zg (zt_4 (List.mem_of_getElem? (i := 116) rfl)) rfl
set_option maxRecDepth 20000 in
theorem zm_1_0 : Cond.initialized "AnswerSquareLaw" ∈ ztbl := zg (zt_1 (List.mem_of_getElem? (i := 0) rfl)) rfl
set_option maxRecDepth 20000 in
theorem zm_1_8 : Cond.initialized "java/lang/System" ∈ ztbl := zg (zt_1 (List.mem_of_getElem? (i := 8) rfl)) rfl
set_option maxRecDepth 20000 in
theorem zm_1_9 : Cond.classLink "AnswerSquareLaw" (7 : Nat) "AnswerSquare" ∈ ztbl := zg (zt_1 (List.mem_of_getElem? (i := 9) rfl)) rfl
set_option maxRecDepth 20000 in
theorem zm_1_10 : Cond.instantiable "AnswerSquare" (11 : Nat) ∈ ztbl := zg (zt_1 (List.mem_of_getElem? (i := 10) rfl)) rfl
set_option maxRecDepth 20000 in
theorem zm_1_12 : Cond.instanceMethod ({ cls := "AnswerSquare", name := "<init>", desc := "()V" } : MethodName) ∈ ztbl := zg (zt_1 (List.mem_of_getElem? (i := 12) rfl)) rfl
set_option maxRecDepth 20000 in
theorem zm_1_15 : Cond.instanceMethod ({ cls := "java/lang/Object", name := "<init>", desc := "()V" } : MethodName) ∈ ztbl := zg (zt_1 (List.mem_of_getElem? (i := 15) rfl)) rfl
set_option maxRecDepth 20000 in
theorem zm_1_17 : Cond.classLink "AnswerSquare" (9 : Nat) "AnswerSquare$Text" ∈ ztbl := zg (zt_1 (List.mem_of_getElem? (i := 17) rfl)) rfl
set_option maxRecDepth 20000 in
theorem zm_1_18 : Cond.instantiable "AnswerSquare$Text" (6 : Nat) ∈ ztbl := zg (zt_1 (List.mem_of_getElem? (i := 18) rfl)) rfl
set_option maxRecDepth 20000 in
theorem zm_1_20 : Cond.instanceMethod ({ cls := "AnswerSquare$Text", name := "<init>", desc := "()V" } : MethodName) ∈ ztbl := zg (zt_1 (List.mem_of_getElem? (i := 20) rfl)) rfl
set_option maxRecDepth 20000 in
theorem zm_1_46 : Cond.arrayClass FieldType.int ∈ ztbl := zg (zt_1 (List.mem_of_getElem? (i := 46) rfl)) rfl
set_option maxRecDepth 20000 in
theorem zm_1_47 : Cond.classLink "AnswerSquare" (16 : Nat) "AnswerSquare$Duchy" ∈ ztbl := zg (zt_1 (List.mem_of_getElem? (i := 47) rfl)) rfl
set_option maxRecDepth 20000 in
theorem zm_1_48 : Cond.instantiable "AnswerSquare$Duchy" (9 : Nat) ∈ ztbl := zg (zt_1 (List.mem_of_getElem? (i := 48) rfl)) rfl
set_option maxRecDepth 20000 in
theorem zm_1_50 : Cond.instanceMethod ({ cls := "AnswerSquare$Duchy", name := "<init>", desc := "()V" } : MethodName) ∈ ztbl := zg (zt_1 (List.mem_of_getElem? (i := 50) rfl)) rfl
set_option maxRecDepth 20000 in
theorem zm_1_89 : Cond.classLink "AnswerSquare" (26 : Nat) "AnswerSquare$Moment" ∈ ztbl := zg (zt_1 (List.mem_of_getElem? (i := 89) rfl)) rfl
set_option maxRecDepth 20000 in
theorem zm_1_90 : Cond.instantiable "AnswerSquare$Moment" (11 : Nat) ∈ ztbl := zg (zt_1 (List.mem_of_getElem? (i := 90) rfl)) rfl
set_option maxRecDepth 20000 in
theorem zm_1_92 : Cond.instanceMethod ({ cls := "AnswerSquare$Moment", name := "<init>", desc := "()V" } : MethodName) ∈ ztbl := zg (zt_1 (List.mem_of_getElem? (i := 92) rfl)) rfl
set_option maxRecDepth 20000 in
theorem zm_3_52 : Cond.static ({ cls := "java/lang/System", name := "arraycopy", desc := "(Ljava/lang/Object;ILjava/lang/Object;II)V" } : MethodName) ∈ ztbl := zg (zt_3 (List.mem_of_getElem? (i := 52) rfl)) rfl
set_option maxRecDepth 20000 in
theorem zm_3_53 : Cond.native ({ cls := "java/lang/System", name := "arraycopy", desc := "(Ljava/lang/Object;ILjava/lang/Object;II)V" } : MethodName) ∈ ztbl := zg (zt_3 (List.mem_of_getElem? (i := 53) rfl)) rfl
set_option maxRecDepth 20000 in
theorem zm_3_66 : Cond.classLink "AnswerSquareLaw" (10 : Nat) "AnswerSquareModel" ∈ ztbl := zg (zt_3 (List.mem_of_getElem? (i := 66) rfl)) rfl
set_option maxRecDepth 20000 in
theorem zm_3_67 : Cond.instantiable "AnswerSquareModel" (22 : Nat) ∈ ztbl := zg (zt_3 (List.mem_of_getElem? (i := 67) rfl)) rfl
set_option maxRecDepth 20000 in
theorem zm_3_69 : Cond.instanceMethod ({ cls := "AnswerSquareModel", name := "<init>", desc := "()V" } : MethodName) ∈ ztbl := zg (zt_3 (List.mem_of_getElem? (i := 69) rfl)) rfl
set_option maxRecDepth 20000 in
theorem zm_3_147 : Cond.arrayClass FieldType.byte ∈ ztbl := zg (zt_3 (List.mem_of_getElem? (i := 147) rfl)) rfl
set_option maxRecDepth 20000 in
theorem zm_3_148 : Cond.arrayClass FieldType.boolean ∈ ztbl := zg (zt_3 (List.mem_of_getElem? (i := 148) rfl)) rfl
end
section
/-! ===== Z: a world of cells by positions, a memory of numbers, and the judgement ZW over it ===== -/
abbrev ZMem : Type := (Nat → Nat → Int32) × (Nat → Nat → Int64) × (Nat → Nat → Nat)
abbrev ZK : Type := Nat × Nat
abbrev ZE : Type := (Nat × Nat) ⊕ (Nat × List ZK)
def zmv (ad : Nat → Nat) (v : Value) : Value := match v with
  | .ref k => .ref (ad k)
  | v => v
/-- a field's value: kind 0 an int, 1 a long, 2 a reference that never changes, else one that does -/
def zfv (μ : ZMem) (c j : Nat) (k : ZK) : Value := match k.1 with
  | 0 => .int (μ.1 c j)
  | 1 => .long (μ.2.1 c j)
  | 2 => .ref k.2
  | _ => .ref (μ.2.2 c j)
def zfs (ad : Nat → Nat) (μ : ZMem) (c : Nat) : Nat → List ZK → List Value
  | _, [] => []
  | j, k :: r => zmv ad (zfv μ c j k) :: zfs ad μ c (j + 1) r
def zent (ad : Nat → Nat) (ca : Nat → ClassId) (μ : ZMem) (c : Nat) (e : ZE) : va_E := match e with
  | .inl a => .inl (ca a.1, a.2, .inl (μ.1 c))
  | .inr o => .inr (o.1, zfs ad μ c 0 o.2)
def zws (ad : Nat → Nat) (ca : Nat → ClassId) (μ : ZMem) : Nat → List ZE → va_W
  | _, [] => []
  | c, e :: r => (ad c, zent ad ca μ c e) :: zws ad ca μ (c + 1) r
theorem zws_get (ad : Nat → Nat) (ca : Nat → ClassId) (μ : ZMem) (lay : List ZE) : ∀ (c k : Nat), (zws ad ca μ c lay)[k]? = (lay[k]?).map (fun e => (ad (c + k), zent ad ca μ (c + k) e)) := by
  induction lay with
  | nil => intro c k; simp [zws]
  | cons e r ih =>
    intro c k
    cases k with
    | zero => simp [zws]
    | succ k =>
      simp only [zws, List.getElem?_cons_succ]
      rw [ih (c + 1) k, show c + 1 + k = c + (k + 1) by omega]
theorem zws_at {ad : Nat → Nat} {ca : Nat → ClassId} {μ : ZMem} {lay : List ZE} {k : Nat} {e : ZE} (h : lay[k]? = some e) : (zws ad ca μ 0 lay)[k]? = some (ad k, zent ad ca μ k e) := by
  rw [zws_get, h, Nat.zero_add]; rfl
theorem zfs_get (ad : Nat → Nat) (μ : ZMem) (c : Nat) (ks : List ZK) : ∀ (j k : Nat), (zfs ad μ c j ks)[k]? = (ks[k]?).map (fun κ => zmv ad (zfv μ c (j + k) κ)) := by
  induction ks with
  | nil => intro j k; simp [zfs]
  | cons e r ih =>
    intro j k
    cases k with
    | zero => simp [zfs]
    | succ k =>
      simp only [zfs, List.getElem?_cons_succ]
      rw [ih (j + 1) k, show j + 1 + k = j + (k + 1) by omega]
theorem zfs_at {ad : Nat → Nat} {μ : ZMem} {c : Nat} {ks : List ZK} {k : Nat} {κ : ZK} (h : ks[k]? = some κ) : (zfs ad μ c 0 ks)[k]? = some (zmv ad (zfv μ c k κ)) := by
  rw [zfs_get, h, Nat.zero_add]; rfl
theorem zfs_len (ad : Nat → Nat) (μ : ZMem) (c : Nat) (ks : List ZK) : ∀ j, (zfs ad μ c j ks).length = ks.length := by
  induction ks with
  | nil => intro j; rfl
  | cons e r ih => intro j; simp [zfs, ih]
theorem zws_len (ad : Nat → Nat) (ca : Nat → ClassId) (μ : ZMem) (lay : List ZE) : ∀ c, (zws ad ca μ c lay).length = lay.length := by
  induction lay with
  | nil => intro j; rfl
  | cons e r ih => intro j; simp [zws, ih]
theorem zfs_congr {ad : Nat → Nat} {μ μ' : ZMem} {c : Nat} (h1 : μ'.1 c = μ.1 c) (h2 : μ'.2.1 c = μ.2.1 c) (h3 : μ'.2.2 c = μ.2.2 c) (ks : List ZK) : ∀ j, zfs ad μ' c j ks = zfs ad μ c j ks := by
  induction ks with
  | nil => intro j; rfl
  | cons e r ih =>
    intro j
    have hv : zfv μ' c j e = zfv μ c j e := by unfold zfv; rw [h1, h2, h3]
    simp only [zfs]
    rw [ih (j + 1), hv]
theorem zent_congr {ad : Nat → Nat} {ca : Nat → ClassId} {μ μ' : ZMem} {c : Nat} (h1 : μ'.1 c = μ.1 c) (h2 : μ'.2.1 c = μ.2.1 c) (h3 : μ'.2.2 c = μ.2.2 c) (e : ZE) : zent ad ca μ' c e = zent ad ca μ c e := by
  cases e with
  | inl a => simp only [zent]; rw [h1]
  | inr o => simp only [zent]; rw [zfs_congr h1 h2 h3]
/-- one cell of the world has changed -/
theorem zws_set {ad : Nat → Nat} {ca : Nat → ClassId} {μ μ' : ZMem} {lay : List ZE} {c : Nat} {e : ZE} {x : va_E} (h : lay[c]? = some e) (hx : zent ad ca μ' c e = x) (ho : ∀ i, i ≠ c → μ'.1 i = μ.1 i ∧ μ'.2.1 i = μ.2.1 i ∧ μ'.2.2 i = μ.2.2 i) :
    (zws ad ca μ 0 lay).set c (ad c, x) = zws ad ca μ' 0 lay := by
  have hc : c < lay.length := (List.getElem?_eq_some_iff.mp h).1
  apply List.ext_getElem?
  intro i
  rw [List.getElem?_set, zws_get, zws_get, zws_len]
  by_cases hi : c = i
  · subst hi
    rw [if_pos rfl, if_pos hc, h, Nat.zero_add]
    simp only [Option.map_some]
    rw [hx]
  · rw [if_neg hi, Nat.zero_add]
    cases lay[i]? with
    | none => rfl
    | some e' =>
      obtain ⟨h1, h2, h3⟩ := ho i (fun q => hi q.symm)
      simp [zent_congr h1 h2 h3]
theorem zfs_set {ad : Nat → Nat} {μ μ' : ZMem} {c k : Nat} {ks : List ZK} {κ : ZK} {v : Value} (h : ks[k]? = some κ) (hv : zmv ad (zfv μ' c k κ) = v) (ho : ∀ j, j ≠ k → ∀ κ, zfv μ' c j κ = zfv μ c j κ) : (zfs ad μ c 0 ks).set k v = zfs ad μ' c 0 ks := by
  have hk : k < ks.length := (List.getElem?_eq_some_iff.mp h).1
  apply List.ext_getElem?
  intro i
  rw [List.getElem?_set, zfs_get, zfs_get, zfs_len]
  by_cases hi : k = i
  · subst hi
    rw [if_pos rfl, if_pos hk, h, Nat.zero_add]
    simp only [Option.map_some]
    rw [hv]
  · rw [if_neg hi, Nat.zero_add]
    cases ks[i]? with
    | none => rfl
    | some e' => simp [ho i (fun q => hi q.symm) e']
/-- the memory's ints, one of them new -/
def zup (M : Nat → Nat → Int32) (c k : Nat) (v : Int32) : Nat → Nat → Int32 := fun a b => if a = c then (if b = k then v else M c b) else M a b
def zupL (M : Nat → Nat → Int64) (c k : Nat) (v : Int64) : Nat → Nat → Int64 := fun a b => if a = c then (if b = k then v else M c b) else M a b
def zupR (M : Nat → Nat → Nat) (c k : Nat) (v : Nat) : Nat → Nat → Nat := fun a b => if a = c then (if b = k then v else M c b) else M a b
def zI (μ : ZMem) (c k : Nat) (v : Int32) : ZMem := (zup μ.1 c k v, μ.2.1, μ.2.2)
def zJ (μ : ZMem) (c k : Nat) (v : Int64) : ZMem := (μ.1, zupL μ.2.1 c k v, μ.2.2)
def zR (μ : ZMem) (c k : Nat) (v : Nat) : ZMem := (μ.1, μ.2.1, zupR μ.2.2 c k v)
/-- a whole row copied onto another -/
def zrow (μ : ZMem) (c : Nat) (f : Nat → Int32) : ZMem := (fun a => if a = c then f else μ.1 a, μ.2.1, μ.2.2)
theorem zup_row (M : Nat → Nat → Int32) (c k : Nat) (v : Int32) : zup M c k v c = upd (M c) k v := by
  funext b; simp [zup, upd]
theorem zup_ne {M : Nat → Nat → Int32} {c k i : Nat} {v : Int32} (h : i ≠ c) : zup M c k v i = M i := by
  funext b; simp [zup, h]
theorem zupL_ne {M : Nat → Nat → Int64} {c k i : Nat} {v : Int64} (h : i ≠ c) : zupL M c k v i = M i := by
  funext b; simp [zupL, h]
theorem zupR_ne {M : Nat → Nat → Nat} {c k i : Nat} {v : Nat} (h : i ≠ c) : zupR M c k v i = M i := by
  funext b; simp [zupR, h]
theorem zws_arr {ad : Nat → Nat} {ca : Nat → ClassId} {μ : ZMem} {lay : List ZE} {c t n k : Nat} {v : Int32} (h : lay[c]? = some (.inl (t, n))) :
    (zws ad ca μ 0 lay).set c (ad c, .inl (ca t, n, .inl (upd (μ.1 c) k v))) = zws ad ca (zI μ c k v) 0 lay :=
  zws_set h (by simp only [zent, zI]; rw [zup_row]) (fun i hi => ⟨zup_ne hi, rfl, rfl⟩)
theorem zws_row {ad : Nat → Nat} {ca : Nat → ClassId} {μ : ZMem} {lay : List ZE} {c t n : Nat} {f : Nat → Int32} (h : lay[c]? = some (.inl (t, n))) :
    (zws ad ca μ 0 lay).set c (ad c, .inl (ca t, n, .inl f)) = zws ad ca (zrow μ c f) 0 lay :=
  zws_set h (by simp [zent, zrow]) (fun i hi => ⟨by simp [zrow, hi], rfl, rfl⟩)
theorem zws_int {ad : Nat → Nat} {ca : Nat → ClassId} {μ : ZMem} {lay : List ZE} {c ci k z : Nat} {ks : List ZK} {v : Int32} (h : lay[c]? = some (.inr (ci, ks))) (hk : ks[k]? = some (0, z)) :
    (zws ad ca μ 0 lay).set c (ad c, .inr (ci, (zfs ad μ c 0 ks).set k (.int v))) = zws ad ca (zI μ c k v) 0 lay :=
  zws_set h (by
    simp only [zent]
    rw [zfs_set (μ' := zI μ c k v) hk (by simp [zfv, zI, zup, zmv]) (fun j hj κ => by simp [zfv, zI, zup, hj])]) (fun i hi => ⟨zup_ne hi, rfl, rfl⟩)
theorem zws_long {ad : Nat → Nat} {ca : Nat → ClassId} {μ : ZMem} {lay : List ZE} {c ci k z : Nat} {ks : List ZK} {v : Int64} (h : lay[c]? = some (.inr (ci, ks))) (hk : ks[k]? = some (1, z)) :
    (zws ad ca μ 0 lay).set c (ad c, .inr (ci, (zfs ad μ c 0 ks).set k (.long v))) = zws ad ca (zJ μ c k v) 0 lay :=
  zws_set h (by
    simp only [zent]
    rw [zfs_set (μ' := zJ μ c k v) hk (by simp [zfv, zJ, zupL, zmv]) (fun j hj κ => by simp [zfv, zJ, zupL, hj])]) (fun i hi => ⟨rfl, zupL_ne hi, rfl⟩)
theorem zws_ref {ad : Nat → Nat} {ca : Nat → ClassId} {μ : ZMem} {lay : List ZE} {c ci k z : Nat} {ks : List ZK} {v : Nat} (h : lay[c]? = some (.inr (ci, ks))) (hk : ks[k]? = some (3, z)) :
    (zws ad ca μ 0 lay).set c (ad c, .inr (ci, (zfs ad μ c 0 ks).set k (.ref (ad v)))) = zws ad ca (zR μ c k v) 0 lay :=
  zws_set h (by
    simp only [zent]
    rw [zfs_set (μ' := zR μ c k v) hk (by simp [zfv, zR, zupR, zmv]) (fun j hj κ => by simp [zfv, zR, zupR, hj])]) (fun i hi => ⟨rfl, rfl, zupR_ne hi⟩)
/-! locals -/
def zlv (ad : Nat → Nat) : Nat → List (Option Value) → List (Nat × Value)
  | _, [] => []
  | i, none :: r => zlv ad (i + 1) r
  | i, some v :: r => (i, zmv ad v) :: zlv ad (i + 1) r
theorem zlv_mem (ad : Nat → Nat) (L : List (Option Value)) : ∀ (b : Nat) (q : Nat × Value), q ∈ zlv ad b L ↔ ∃ (j : Nat) (v : Value), L[j]? = some (some v) ∧ q = (b + j, zmv ad v) := by
  induction L with
  | nil => intro b q; simp [zlv]
  | cons x r ih =>
    intro b q
    have aux : (∃ (j : Nat) (v : Value), (x :: r)[j]? = some (some v) ∧ q = (b + j, zmv ad v)) ↔ (∃ v, x = some v ∧ q = (b, zmv ad v)) ∨ ∃ (j : Nat) (v : Value), r[j]? = some (some v) ∧ q = (b + 1 + j, zmv ad v) := by
      constructor
      · rintro ⟨j, v, h1, h2⟩
        cases j with
        | zero => exact Or.inl ⟨v, by simpa using h1, by simpa using h2⟩
        | succ j => exact Or.inr ⟨j, v, by simpa using h1, by rw [h2, show b + (j + 1) = b + 1 + j by omega]⟩
      · rintro (⟨v, h1, h2⟩ | ⟨j, v, h1, h2⟩)
        · exact ⟨0, v, by simp [h1], by simpa using h2⟩
        · exact ⟨j + 1, v, by simpa using h1, by rw [h2, show b + (j + 1) = b + 1 + j by omega]⟩
    rw [aux]
    cases x with
    | none => simp only [zlv]; rw [ih (b + 1) q]; simp
    | some v => simp only [zlv, List.mem_cons]; rw [ih (b + 1) q]; simp
def zL (ad : Nat → Nat) (ls : Array Slot) (n : Nat) (L : List (Option Value)) : Prop := lv_has ls n (zlv ad 0 L) ∧ L.length = n ∧ ∀ (j : Nat) (v : Value), L[j]? = some (some v) → v.category = 1
theorem zmv_cat (ad : Nat → Nat) (v : Value) : (zmv ad v).category = v.category := by cases v <;> rfl
theorem zL.get {ad : Nat → Nat} {ls : Array Slot} {n : Nat} {L : List (Option Value)} (h : zL ad ls n L) {i : Nat} {v : Value} (hi : L[i]? = some (some v)) : ls[i]? = some (.val (zmv ad v)) := by
  have := h.1.2.2 (i, zmv ad v) ((zlv_mem ad L 0 _).mpr ⟨i, v, hi, by rw [Nat.zero_add]⟩)
  exact this
theorem zL.set {ad : Nat → Nat} {ls ls' : Array Slot} {n : Nat} {L : List (Option Value)} (h : zL ad ls n L) {i : Nat} {v : Value} (hc : v.category = 1) (hi : i < n) (h' : lv_has ls' n ((i, zmv ad v) :: (zlv ad 0 L).filter (fun q => !(q.1 == i) && !(q.1 + 1 == i && q.2.category == 2)))) : zL ad ls' n (L.set i (some v)) := by
  have hcat : ∀ (j : Nat) (w : Value), (L.set i (some v))[j]? = some (some w) → w.category = 1 := by
    intro j w hj
    rw [List.getElem?_set] at hj
    by_cases e : i = j
    · subst e
      simp only [if_true] at hj
      by_cases hl : i < L.length
      · rw [if_pos hl] at hj
        cases hj
        exact hc
      · rw [if_neg hl] at hj
        cases hj
    · rw [if_neg e] at hj
      exact h.2.2 j w hj
  refine ⟨⟨h'.1, h'.2.1, fun q hq => ?_⟩, by rw [List.length_set]; exact h.2.1, hcat⟩
  obtain ⟨j, w, hj, rfl⟩ := (zlv_mem ad _ 0 _).mp hq
  rw [Nat.zero_add]
  have hw := hcat j w hj
  rw [List.getElem?_set] at hj
  by_cases e : i = j
  · subst e
    have hl : i < L.length := by rw [h.2.1]; exact hi
    simp only [if_true, if_pos hl] at hj
    cases hj
    exact h'.2.2 (i, zmv ad v) List.mem_cons_self
  · rw [if_neg e] at hj
    refine h'.2.2 (j, zmv ad w) (List.mem_cons_of_mem _ (List.mem_filter.mpr ⟨(zlv_mem ad L 0 _).mpr ⟨j, w, hj, by rw [Nat.zero_add]⟩, ?_⟩))
    have e' : ¬ j = i := fun q => e q.symm
    simp [e', zmv_cat, hw]
/-! the judgement -/
def ztys (ca : Nat → ClassId) : List (ClassId × FieldType) := [(ca 0, .int), (ca 1, .byte), (ca 2, .boolean)]
def zroom (d : Nat) : Room := { frames := d, cells := 0, slots := 0, locals := d * 30 }
def zA (lay : List ZE) (ad : Nat → Nat) (sz : Nat) : Nat → Prop := fun q => (∃ k, k < lay.length ∧ q = ad k) ∨ sz ≤ q
def zG (mt : ZM) (p : Program) (s : State) (m : MethodId) (args : Array Value) (meth : Method) (c : Code) (D : va_G) (ca : Nat → ClassId) (A : Nat → Prop) : Prop :=
  p.tables.exec = Jvm.exec ∧ c.code = mt.2.1 ∧ meth.sig.returnType = mt.2.2.2 ∧ c.maxLocals = mt.2.2.1 ∧ s.vm.findClass mt.1.cls = some m.cls ∧ meth.locks = false ∧ (∀ w ∈ ztbl, w.before args s = true) ∧ (∀ w ∈ znest, va_Nw w s) ∧ va_K D vwCl (ztys ca) s ∧ ∀ q, s.heap.size ≤ q → A q
def zQ (lay : List ZE) (D : va_G) (ca : Nat → ClassId) (ad : Nat → Nat) (A : Nat → Prop) (Q : Option Value → ZMem → Prop) : Array Value → State → Outcome → State → Prop := fun _ st oc t =>
  ∃ (r : Option Value) (μ' : ZMem), Q r μ' ∧ oc = .returned (r.map (zmv ad)) ∧ va_P D vwCl (zws ad ca μ' 0 lay) t.heap ∧ va_F A st t
def ZW (lay : List ZE) (mt : ZM) (d : Nat) (Q : Option Value → ZMem → Prop) (pc : Nat) (L : List (Option Value)) (st : List Value) (μ : ZMem) : Prop :=
  ∀ (p : Program) (l : Launch) (e : Env) (s : State) (m : MethodId) (args : Array Value) (below : List Frame) (meth : Method) (c : Code) (D : va_G) (ca : Nat → ClassId) (ad : Nat → Nat) (A : Nat → Prop) (H : Heap) (locs : List Loc) (ls : Array Slot),
    zG mt p s m args meth c D ca A → va_P D vwCl (zws ad ca μ 0 lay) H → va_D A (zws ad ca μ 0 lay) → va_S A s.heap H locs → zL ad ls mt.2.2.1 L →
    W p l e (zroom d) s m args below meth c H locs 0 0 (MQ below (zQ lay D ca ad A Q) args s 0 0 A) (F0 m pc ls (st.map (zmv ad)))
/-- a method's contract, in Z's words -/
def Spec (lay : List ZE) (mt : ZM) (d : Nat) (as : List Value) (μ : ZMem) (Q : Option Value → ZMem → Prop) : Prop :=
  ∀ (l : Launch) (D : va_G) (ca : Nat → ClassId) (ad : Nat → Nat) (sz : Nat), Met l mt.1 (.code mt.1 mt.2.1 mt.2.2.1 mt.2.2.2 :: ztbl) (zroom d)
    (va_Pc (as.map (zmv ad)) (fun U => U.heap.size = sz ∧ va_P D vwCl (zws ad ca μ 0 lay) U.heap ∧ va_K D vwCl (ztys ca) U ∧ va_D (fun _ => True) (zws ad ca μ 0 lay) ∧ ∀ w ∈ znest, va_Nw w U))
    (zQ lay D ca ad (zA lay ad sz) Q) 0 0 (zA lay ad sz)
theorem zws_D {ad : Nat → Nat} {ca : Nat → ClassId} {μ μ' : ZMem} {lay : List ZE} {A A' : Nat → Prop} (h : va_D A (zws ad ca μ 0 lay)) (hA : ∀ k, k < lay.length → A' (ad k)) : va_D A' (zws ad ca μ' 0 lay) := by
  have key : ∀ (μ : ZMem) (i : Nat) (q : Nat × va_E), (zws ad ca μ 0 lay)[i]? = some q → i < lay.length ∧ q.1 = ad i := by
    intro μ i q hq
    rw [zws_get, Nat.zero_add] at hq
    cases hl : lay[i]? with
    | none => rw [hl] at hq; cases hq
    | some e =>
      rw [hl] at hq
      cases hq
      exact ⟨(List.getElem?_eq_some_iff.mp hl).1, rfl⟩
  refine ⟨fun i j p q hp hq e => ?_, fun k q hq => by obtain ⟨h1, h2⟩ := key μ' k q hq; rw [h2]; exact hA k h1⟩
  obtain ⟨h1, h2⟩ := key μ' i p hp
  obtain ⟨h3, h4⟩ := key μ' j q hq
  have e1 : (zws ad ca μ 0 lay)[i]? = some (ad i, zent ad ca μ i lay[i]) := zws_at (List.getElem?_eq_getElem h1)
  have e2 : (zws ad ca μ 0 lay)[j]? = some (ad j, zent ad ca μ j lay[j]) := zws_at (List.getElem?_eq_getElem h3)
  exact h.1 i j _ _ e1 e2 (by show ad i = ad j; rw [← h2, ← h4]; exact e)
theorem zws_DA {ad : Nat → Nat} {ca : Nat → ClassId} {μ : ZMem} {lay : List ZE} {A : Nat → Prop} (h : va_D A (zws ad ca μ 0 lay)) : ∀ k, k < lay.length → A (ad k) := by
  intro k hk
  exact h.2 k _ (zws_at (List.getElem?_eq_getElem hk))
theorem zmv_args (ad : Nat → Nat) : ∀ (as : List Value) (b : Nat), (∀ v ∈ as, v.category = 1) → ∀ (j : Nat) (v : Value), as[j]? = some v → (b + j, zmv ad v) ∈ lv_args b (as.map (zmv ad)) := by
  intro as
  induction as with
  | nil => intro b _ j v h; simp at h
  | cons a r ih =>
    intro b hc j v h
    have ha : (zmv ad a).category = 1 := by rw [zmv_cat]; exact hc a List.mem_cons_self
    cases j with
    | zero =>
      simp only [List.getElem?_cons_zero, Option.some.injEq] at h
      subst h
      simp [lv_args]
    | succ j =>
      have := ih (b + 1) (fun v hv => hc v (List.mem_cons_of_mem _ hv)) j v (by simpa using h)
      rw [show b + (j + 1) = b + 1 + j by omega]
      simp only [List.map_cons, lv_args]
      refine List.mem_cons_of_mem _ ?_
      first | exact this | (rw [ha]; exact this)
def zloc (n : Nat) (as : List Value) : List (Option Value) := as.map some ++ List.replicate (n - as.length) none
theorem lg_sl_one (vs : List Value) (h : ∀ v ∈ vs, v.category = 1) : (lg_sl vs).length = vs.length := by
  induction vs with
  | nil => rfl
  | cons a r ih =>
    have ha := h a List.mem_cons_self
    simp only [lg_sl, List.flatMap_cons] at ih ⊢
    rw [if_neg (by rw [ha]; decide)]
    simp only [List.length_append, List.length_cons, List.length_nil]
    rw [ih (fun v hv => h v (List.mem_cons_of_mem _ hv))]
    omega
theorem zL_entry (ad : Nat → Nat) {n : Nat} {as : List Value} (hc : ∀ v ∈ as, v.category = 1) (hn : as.length ≤ n) {ls : Array Slot} (h : lv_has ls n (lv_args 0 (as.map (zmv ad)))) : zL ad ls n (zloc n as) := by
  have hg : ∀ (j : Nat) (v : Value), (zloc n as)[j]? = some (some v) → as[j]? = some v := by
    intro j v hj
    unfold zloc at hj
    rw [List.getElem?_append] at hj
    by_cases hl : j < (as.map some).length
    · rw [if_pos hl, List.getElem?_map] at hj
      cases ha : as[j]? with
      | none => rw [ha] at hj; cases hj
      | some w => rw [ha] at hj; simpa using hj
    · rw [if_neg hl, List.getElem?_replicate] at hj
      split at hj <;> cases hj
  refine ⟨⟨h.1, h.2.1, fun q hq => ?_⟩, by simp [zloc]; omega, fun j v hj => hc v (List.mem_of_getElem? (hg j v hj))⟩
  obtain ⟨j, v, hj, rfl⟩ := (zlv_mem ad _ 0 _).mp hq
  exact h.2.2 _ (zmv_args ad as 0 hc j v (hg j v hj))
theorem Spec.of {lay : List ZE} {mt : ZM} {d : Nat} {as : List Value} {μ : ZMem} {Q : Option Value → ZMem → Prop} (hpl : plainName mt.1.cls = true) (hc : ∀ v ∈ as, v.category = 1) (hn : as.length ≤ mt.2.2.1) (h : ZW lay mt d Q 0 (zloc mt.2.2.1 as) [] μ) : Spec lay mt d as μ Q := by
  intro l D ca ad sz
  refine Met.ofW (cc := mt.2.1) (maxL := mt.2.2.1) (ret := mt.2.2.2) hpl rfl ?_
  intro p e s m args below meth c s₁ B hml hv
  obtain ⟨rfl, hsz, hP, hK, hD0, hN⟩ := hv
  have hts := atoms_spec (ws := .code mt.1 mt.2.1 mt.2.2.1 mt.2.2.2 :: ztbl) B.pre
  subst hsz
  have hcm : ∀ v ∈ as.map (zmv ad), v.category = 1 := by
    intro v hv
    obtain ⟨w, hw, rfl⟩ := List.mem_map.mp hv
    rw [zmv_cat]
    exact hc w hw
  have hlen : (lg_sl (as.map (zmv ad))).length ≤ mt.2.2.1 := by rw [lg_sl_one _ hcm, List.length_map]; exact hn
  have hl := lv_entry (as.map (zmv ad)) (n := mt.2.2.1) hlen
  rw [lg_entry_eq]
  generalize (lg_sl (as.map (zmv ad)) ++ List.replicate (mt.2.2.1 - (lg_sl (as.map (zmv ad))).length) Slot.unset).toArray = ls at hl ⊢
  exact h p l e s m _ below meth c D ca ad (zA lay ad s.heap.size) s.heap [] ls ⟨B.exec, B.bytes, B.returns, hml, findClass_of_methodNamed B.named, B.notSynchronized, fun w hw => hts w (List.mem_cons_of_mem _ hw), hN, hK, fun q hq => Or.inr hq⟩ hP (zws_D hD0 (fun k hk => Or.inl ⟨k, hk, rfl⟩)) va_S.rf (zL_entry ad hc hn hl)

section ZR
variable {lay : List ZE} {mt : ZM} {d : Nat} {Q : Option Value → ZMem → Prop} {pc : Nat} {L : List (Option Value)} {st : List Value} {μ : ZMem}
theorem ZW.eq {pc' : Nat} {L' : List (Option Value)} {st' : List Value} {μ' : ZMem} (k : ZW lay mt d Q pc' L' st' μ') (h1 : pc = pc' := by rfl) (h2 : L = L' := by rfl) (h3 : st = st' := by rfl) (h4 : μ = μ' := by rfl) : ZW lay mt d Q pc L st μ := by
  subst h1; subst h2; subst h3; subst h4; exact k
theorem z_iconst {n : Int} {v : Int32} (hd : decode mt.2.1 pc = .ok (.iconst n, 1)) (hv : Int32.ofInt n = v) (k : ZW lay mt d Q (pc + 1) L (.int v :: st) μ) : ZW lay mt d Q pc L (st) μ := by
  intro p l e s m args below meth c D ca ad A H locs ls G hP hD hS hL
  exact lv_iconst G.1 G.2.1 hd hv (k p l e s m args below meth c D ca ad A H locs ls G hP hD hS hL)
theorem z_bipush {n : Int} {v : Int32} (hd : decode mt.2.1 pc = .ok (.bipush n, 2)) (hv : (Int8.ofInt n).toInt32 = v) (k : ZW lay mt d Q (pc + 2) L (.int v :: st) μ) : ZW lay mt d Q pc L (st) μ := by
  intro p l e s m args below meth c D ca ad A H locs ls G hP hD hS hL
  exact lv_bipush G.1 G.2.1 hd hv (k p l e s m args below meth c D ca ad A H locs ls G hP hD hS hL)
theorem z_sipush {n : Int} {v : Int32} (hd : decode mt.2.1 pc = .ok (.sipush n, 3)) (hv : (Int16.ofInt n).toInt32 = v) (k : ZW lay mt d Q (pc + 3) L (.int v :: st) μ) : ZW lay mt d Q pc L (st) μ := by
  intro p l e s m args below meth c D ca ad A H locs ls G hP hD hS hL
  exact lv_sipush G.1 G.2.1 hd hv (k p l e s m args below meth c D ca ad A H locs ls G hP hD hS hL)
theorem z_lconst {n : Fin 2} {v : Int64} (hd : decode mt.2.1 pc = .ok (.lconst n, 1)) (hv : Int64.ofNat (n : Nat) = v) (k : ZW lay mt d Q (pc + 1) L (.long v :: st) μ) : ZW lay mt d Q pc L (st) μ := by
  intro p l e s m args below meth c D ca ad A H locs ls G hP hD hS hL
  exact lv_lconst G.1 G.2.1 hd hv (k p l e s m args below meth c D ca ad A H locs ls G hP hD hS hL)
theorem z_iload_n {j : Fin 4} {x : Int32} (hd : decode mt.2.1 pc = .ok (.iload_n j, 1)) (hl : L[(j : Nat)]? = some (some (.int x))) (k : ZW lay mt d Q (pc + 1) L (.int x :: st) μ) : ZW lay mt d Q pc L (st) μ := by
  intro p l e s m args below meth c D ca ad A H locs ls G hP hD hS hL
  exact lv_iload_n G.1 G.2.1 hd rfl (hL.get hl) (k p l e s m args below meth c D ca ad A H locs ls G hP hD hS hL)
theorem z_iload {i : Nat} {x : Int32} (hd : decode mt.2.1 pc = .ok (.iload i, 2)) (hl : L[i]? = some (some (.int x))) (k : ZW lay mt d Q (pc + 2) L (.int x :: st) μ) : ZW lay mt d Q pc L (st) μ := by
  intro p l e s m args below meth c D ca ad A H locs ls G hP hD hS hL
  exact lv_iload G.1 G.2.1 hd (hL.get hl) (k p l e s m args below meth c D ca ad A H locs ls G hP hD hS hL)
theorem z_aload_n {j : Fin 4} {x : Nat} (hd : decode mt.2.1 pc = .ok (.aload_n j, 1)) (hl : L[(j : Nat)]? = some (some (.ref x))) (k : ZW lay mt d Q (pc + 1) L (.ref x :: st) μ) : ZW lay mt d Q pc L (st) μ := by
  intro p l e s m args below meth c D ca ad A H locs ls G hP hD hS hL
  exact lv_aload_n G.1 G.2.1 hd rfl (hL.get hl) (k p l e s m args below meth c D ca ad A H locs ls G hP hD hS hL)
theorem z_aload {i : Nat} {x : Nat} (hd : decode mt.2.1 pc = .ok (.aload i, 2)) (hl : L[i]? = some (some (.ref x))) (k : ZW lay mt d Q (pc + 2) L (.ref x :: st) μ) : ZW lay mt d Q pc L (st) μ := by
  intro p l e s m args below meth c D ca ad A H locs ls G hP hD hS hL
  exact lv_aload G.1 G.2.1 hd (hL.get hl) (k p l e s m args below meth c D ca ad A H locs ls G hP hD hS hL)
theorem z_istore_n {j : Fin 4} {i : Nat} {x : Int32} (hd : decode mt.2.1 pc = .ok (.istore_n j, 1)) (hi : (j : Nat) = i) (hn : i < mt.2.2.1) (k : ZW lay mt d Q (pc + 1) (L.set i (some (.int x))) (st) μ) : ZW lay mt d Q pc L (.int x :: st) μ := by
  intro p l e s m args below meth c D ca ad A H locs ls G hP hD hS hL
  exact lv_istore_n G.1 G.2.1 hd hi hL.1 hn rfl (fun ls' h' => k p l e s m args below meth c D ca ad A H locs ls' G hP hD hS (hL.set (v := .int x) rfl hn h'))
theorem z_istore {i : Nat} {x : Int32} (hd : decode mt.2.1 pc = .ok (.istore i, 2)) (hn : i < mt.2.2.1) (k : ZW lay mt d Q (pc + 2) (L.set i (some (.int x))) (st) μ) : ZW lay mt d Q pc L (.int x :: st) μ := by
  intro p l e s m args below meth c D ca ad A H locs ls G hP hD hS hL
  exact lv_istore G.1 G.2.1 hd hL.1 hn rfl (fun ls' h' => k p l e s m args below meth c D ca ad A H locs ls' G hP hD hS (hL.set (v := .int x) rfl hn h'))
theorem z_astore_n {j : Fin 4} {i : Nat} {x : Nat} (hd : decode mt.2.1 pc = .ok (.astore_n j, 1)) (hi : (j : Nat) = i) (hn : i < mt.2.2.1) (k : ZW lay mt d Q (pc + 1) (L.set i (some (.ref x))) (st) μ) : ZW lay mt d Q pc L (.ref x :: st) μ := by
  intro p l e s m args below meth c D ca ad A H locs ls G hP hD hS hL
  exact lv_astore_n G.1 G.2.1 hd hi hL.1 hn rfl (fun ls' h' => k p l e s m args below meth c D ca ad A H locs ls' G hP hD hS (hL.set (v := .ref x) rfl hn h'))
theorem z_iinc {i : Nat} {n : Int} {x v : Int32} (hd : decode mt.2.1 pc = .ok (.iinc i n, 3)) (hl : L[i]? = some (some (.int x))) (hn : i < mt.2.2.1) (hv : Int32.ofInt n = v) (k : ZW lay mt d Q (pc + 3) (L.set i (some (.int (x + v)))) (st) μ) : ZW lay mt d Q pc L (st) μ := by
  intro p l e s m args below meth c D ca ad A H locs ls G hP hD hS hL
  obtain ⟨kk, hk⟩ := List.getElem?_of_mem ((zlv_mem ad L 0 (i, .int x)).mpr ⟨i, .int x, hl, by rw [Nat.zero_add]; rfl⟩)
  exact lv_iinc G.1 G.2.1 hd hL.1 hk (by rw [hv]) hn rfl (fun ls' h' => k p l e s m args below meth c D ca ad A H locs ls' G hP hD hS (hL.set (v := .int (x + v)) rfl hn h'))
theorem z_iadd {x y : Int32} (hd : decode mt.2.1 pc = .ok (.iadd, 1)) (k : ZW lay mt d Q (pc + 1) L (.int (x + y) :: st) μ) : ZW lay mt d Q pc L (.int y :: .int x :: st) μ := by
  intro p l e s m args below meth c D ca ad A H locs ls G hP hD hS hL
  exact lv_iadd G.1 G.2.1 hd (k p l e s m args below meth c D ca ad A H locs ls G hP hD hS hL)
theorem z_isub {x y : Int32} (hd : decode mt.2.1 pc = .ok (.isub, 1)) (k : ZW lay mt d Q (pc + 1) L (.int (x - y) :: st) μ) : ZW lay mt d Q pc L (.int y :: .int x :: st) μ := by
  intro p l e s m args below meth c D ca ad A H locs ls G hP hD hS hL
  exact lv_isub G.1 G.2.1 hd (k p l e s m args below meth c D ca ad A H locs ls G hP hD hS hL)
theorem z_imul {x y : Int32} (hd : decode mt.2.1 pc = .ok (.imul, 1)) (k : ZW lay mt d Q (pc + 1) L (.int (x * y) :: st) μ) : ZW lay mt d Q pc L (.int y :: .int x :: st) μ := by
  intro p l e s m args below meth c D ca ad A H locs ls G hP hD hS hL
  exact lv_imul G.1 G.2.1 hd (k p l e s m args below meth c D ca ad A H locs ls G hP hD hS hL)
theorem z_iand {x y : Int32} (hd : decode mt.2.1 pc = .ok (.iand, 1)) (k : ZW lay mt d Q (pc + 1) L (.int (x &&& y) :: st) μ) : ZW lay mt d Q pc L (.int y :: .int x :: st) μ := by
  intro p l e s m args below meth c D ca ad A H locs ls G hP hD hS hL
  exact lv_iand G.1 G.2.1 hd (k p l e s m args below meth c D ca ad A H locs ls G hP hD hS hL)
theorem z_ior {x y : Int32} (hd : decode mt.2.1 pc = .ok (.ior, 1)) (k : ZW lay mt d Q (pc + 1) L (.int (x ||| y) :: st) μ) : ZW lay mt d Q pc L (.int y :: .int x :: st) μ := by
  intro p l e s m args below meth c D ca ad A H locs ls G hP hD hS hL
  exact lv_ior G.1 G.2.1 hd (k p l e s m args below meth c D ca ad A H locs ls G hP hD hS hL)
theorem z_ixor {x y : Int32} (hd : decode mt.2.1 pc = .ok (.ixor, 1)) (k : ZW lay mt d Q (pc + 1) L (.int (x ^^^ y) :: st) μ) : ZW lay mt d Q pc L (.int y :: .int x :: st) μ := by
  intro p l e s m args below meth c D ca ad A H locs ls G hP hD hS hL
  exact lv_ixor G.1 G.2.1 hd (k p l e s m args below meth c D ca ad A H locs ls G hP hD hS hL)
theorem z_ishl {x y : Int32} (hd : decode mt.2.1 pc = .ok (.ishl, 1)) (k : ZW lay mt d Q (pc + 1) L (.int (x <<< (y &&& 31)) :: st) μ) : ZW lay mt d Q pc L (.int y :: .int x :: st) μ := by
  intro p l e s m args below meth c D ca ad A H locs ls G hP hD hS hL
  exact lv_ishl G.1 G.2.1 hd (k p l e s m args below meth c D ca ad A H locs ls G hP hD hS hL)
theorem z_ishr {x y : Int32} (hd : decode mt.2.1 pc = .ok (.ishr, 1)) (k : ZW lay mt d Q (pc + 1) L (.int (x >>> (y &&& 31)) :: st) μ) : ZW lay mt d Q pc L (.int y :: .int x :: st) μ := by
  intro p l e s m args below meth c D ca ad A H locs ls G hP hD hS hL
  exact lv_ishr G.1 G.2.1 hd (k p l e s m args below meth c D ca ad A H locs ls G hP hD hS hL)
theorem z_idiv {x y : Int32} (hd : decode mt.2.1 pc = .ok (.idiv, 1)) (hne : ¬ y = 0) (k : ZW lay mt d Q (pc + 1) L (.int (x / y) :: st) μ) : ZW lay mt d Q pc L (.int y :: .int x :: st) μ := by
  intro p l e s m args below meth c D ca ad A H locs ls G hP hD hS hL
  exact lv_idiv G.1 G.2.1 hd hne (k p l e s m args below meth c D ca ad A H locs ls G hP hD hS hL)
theorem z_irem {x y : Int32} (hd : decode mt.2.1 pc = .ok (.irem, 1)) (hne : ¬ y = 0) (k : ZW lay mt d Q (pc + 1) L (.int (x - x / y * y) :: st) μ) : ZW lay mt d Q pc L (.int y :: .int x :: st) μ := by
  intro p l e s m args below meth c D ca ad A H locs ls G hP hD hS hL
  exact lv_irem G.1 G.2.1 hd hne (k p l e s m args below meth c D ca ad A H locs ls G hP hD hS hL)
theorem z_iushr {x y : Int32} (hd : decode mt.2.1 pc = .ok (.iushr, 1)) (k : ZW lay mt d Q (pc + 1) L (.int (x.toUInt32 >>> (y.toUInt32 &&& Int32.toUInt32 31)).toInt32 :: st) μ) : ZW lay mt d Q pc L (.int y :: .int x :: st) μ := by
  intro p l e s m args below meth c D ca ad A H locs ls G hP hD hS hL
  exact lv_iushr G.1 G.2.1 hd rfl (k p l e s m args below meth c D ca ad A H locs ls G hP hD hS hL)
theorem z_ladd {x y : Int64} (hd : decode mt.2.1 pc = .ok (.ladd, 1)) (k : ZW lay mt d Q (pc + 1) L (.long (x + y) :: st) μ) : ZW lay mt d Q pc L (.long y :: .long x :: st) μ := by
  intro p l e s m args below meth c D ca ad A H locs ls G hP hD hS hL
  exact lv_ladd G.1 G.2.1 hd (k p l e s m args below meth c D ca ad A H locs ls G hP hD hS hL)
theorem z_i2b {x : Int32} (hd : decode mt.2.1 pc = .ok (.i2b, 1)) (k : ZW lay mt d Q (pc + 1) L (.int x.toInt8.toInt32 :: st) μ) : ZW lay mt d Q pc L (.int x :: st) μ := by
  intro p l e s m args below meth c D ca ad A H locs ls G hP hD hS hL
  exact lv_i2b G.1 G.2.1 hd rfl (k p l e s m args below meth c D ca ad A H locs ls G hP hD hS hL)
theorem z_dup {v : Value} (hd : decode mt.2.1 pc = .ok (.dup, 1)) (hv : v.category = 1) (k : ZW lay mt d Q (pc + 1) L (v :: v :: st) μ) : ZW lay mt d Q pc L (v :: st) μ := by
  intro p l e s m args below meth c D ca ad A H locs ls G hP hD hS hL
  exact lv_dup G.1 G.2.1 hd (by rw [zmv_cat]; exact hv) (k p l e s m args below meth c D ca ad A H locs ls G hP hD hS hL)
theorem z_pop {v : Value} (hd : decode mt.2.1 pc = .ok (.pop, 1)) (hv : v.category = 1) (k : ZW lay mt d Q (pc + 1) L (st) μ) : ZW lay mt d Q pc L (v :: st) μ := by
  intro p l e s m args below meth c D ca ad A H locs ls G hP hD hS hL
  exact lv_pop G.1 G.2.1 hd (by rw [zmv_cat]; exact hv) (k p l e s m args below meth c D ca ad A H locs ls G hP hD hS hL)
theorem z_dup2 {v u : Value} (hd : decode mt.2.1 pc = .ok (.dup2, 1)) (hv : v.category = 1) (hu : u.category = 1) (k : ZW lay mt d Q (pc + 1) L (v :: u :: v :: u :: st) μ) : ZW lay mt d Q pc L (v :: u :: st) μ := by
  intro p l e s m args below meth c D ca ad A H locs ls G hP hD hS hL
  exact lv_dup2_11 G.1 G.2.1 hd (by rw [zmv_cat]; exact hv) (by rw [zmv_cat]; exact hu) (k p l e s m args below meth c D ca ad A H locs ls G hP hD hS hL)
theorem z_goto {off : Int} {tgt : Nat} (hd : decode mt.2.1 pc = .ok (.goto off, 3)) (ht : (pc : Int) + off = (tgt : Int)) (k : ZW lay mt d Q (tgt) L (st) μ) : ZW lay mt d Q pc L (st) μ := by
  intro p l e s m args below meth c D ca ad A H locs ls G hP hD hS hL
  exact lv_goto G.1 G.2.1 hd ht (k p l e s m args below meth c D ca ad A H locs ls G hP hD hS hL)
theorem z_ldc {i : Nat} {v : Int32} (hd : decode mt.2.1 pc = .ok (.ldc i, 2)) (hc : Cond.constant mt.1.cls i v ∈ ztbl) (k : ZW lay mt d Q (pc + 2) L (.int v :: st) μ) : ZW lay mt d Q pc L (st) μ := by
  intro p l e s m args below meth c D ca ad A H locs ls G hP hD hS hL
  exact lv_ldc G.1 G.2.1 G.2.2.2.2.1 (G.2.2.2.2.2.2.1 _ hc) hd (k p l e s m args below meth c D ca ad A H locs ls G hP hD hS hL)
theorem z_ldcw {i : Nat} {v : Int32} (hd : decode mt.2.1 pc = .ok (.ldc_w i, 3)) (hc : Cond.constant mt.1.cls i v ∈ ztbl) (k : ZW lay mt d Q (pc + 3) L (.int v :: st) μ) : ZW lay mt d Q pc L (st) μ := by
  intro p l e s m args below meth c D ca ad A H locs ls G hP hD hS hL
  exact lv_ldcw G.1 G.2.1 G.2.2.2.2.1 (G.2.2.2.2.2.2.1 _ hc) hd (k p l e s m args below meth c D ca ad A H locs ls G hP hD hS hL)
theorem z_ldc2 {i : Nat} {v : Int64} (hd : decode mt.2.1 pc = .ok (.ldc2_w i, 3)) (hc : Cond.constantLong mt.1.cls i v ∈ ztbl) (k : ZW lay mt d Q (pc + 3) L (.long v :: st) μ) : ZW lay mt d Q pc L (st) μ := by
  intro p l e s m args below meth c D ca ad A H locs ls G hP hD hS hL
  exact lv_ldc2 G.1 G.2.1 G.2.2.2.2.1 (G.2.2.2.2.2.2.1 _ hc) hd (k p l e s m args below meth c D ca ad A H locs ls G hP hD hS hL)
theorem z_if_eq {x : Int32} {off : Int} {tgt : Nat} (hd : decode mt.2.1 pc = .ok (.ifCond .eq off, 3)) (ht : (pc : Int) + off = (tgt : Int)) (kt : (x = 0) → ZW lay mt d Q tgt L st μ) (kf : ¬ (x = 0) → ZW lay mt d Q (pc + 3) L st μ) : ZW lay mt d Q pc L (.int x :: st) μ := by
  intro p l e s m args below meth c D ca ad A H locs ls G hP hD hS hL
  exact lv_if_eq G.1 G.2.1 hd ht (fun h => kt h p l e s m args below meth c D ca ad A H locs ls G hP hD hS hL) (fun h => kf h p l e s m args below meth c D ca ad A H locs ls G hP hD hS hL)
theorem z_icmp_eq {x y : Int32} {off : Int} {tgt : Nat} (hd : decode mt.2.1 pc = .ok (.if_icmp .eq off, 3)) (ht : (pc : Int) + off = (tgt : Int)) (kt : (x = y) → ZW lay mt d Q tgt L st μ) (kf : ¬ (x = y) → ZW lay mt d Q (pc + 3) L st μ) : ZW lay mt d Q pc L (.int y :: .int x :: st) μ := by
  intro p l e s m args below meth c D ca ad A H locs ls G hP hD hS hL
  exact lv_icmp_eq G.1 G.2.1 hd ht (fun h => kt h p l e s m args below meth c D ca ad A H locs ls G hP hD hS hL) (fun h => kf h p l e s m args below meth c D ca ad A H locs ls G hP hD hS hL)
theorem z_if_ne {x : Int32} {off : Int} {tgt : Nat} (hd : decode mt.2.1 pc = .ok (.ifCond .ne off, 3)) (ht : (pc : Int) + off = (tgt : Int)) (kt : (¬ x = 0) → ZW lay mt d Q tgt L st μ) (kf : (x = 0) → ZW lay mt d Q (pc + 3) L st μ) : ZW lay mt d Q pc L (.int x :: st) μ := by
  intro p l e s m args below meth c D ca ad A H locs ls G hP hD hS hL
  exact lv_if_ne G.1 G.2.1 hd ht (fun h => kt h p l e s m args below meth c D ca ad A H locs ls G hP hD hS hL) (fun h => kf h p l e s m args below meth c D ca ad A H locs ls G hP hD hS hL)
theorem z_icmp_ne {x y : Int32} {off : Int} {tgt : Nat} (hd : decode mt.2.1 pc = .ok (.if_icmp .ne off, 3)) (ht : (pc : Int) + off = (tgt : Int)) (kt : (¬ x = y) → ZW lay mt d Q tgt L st μ) (kf : (x = y) → ZW lay mt d Q (pc + 3) L st μ) : ZW lay mt d Q pc L (.int y :: .int x :: st) μ := by
  intro p l e s m args below meth c D ca ad A H locs ls G hP hD hS hL
  exact lv_icmp_ne G.1 G.2.1 hd ht (fun h => kt h p l e s m args below meth c D ca ad A H locs ls G hP hD hS hL) (fun h => kf h p l e s m args below meth c D ca ad A H locs ls G hP hD hS hL)
theorem z_if_lt {x : Int32} {off : Int} {tgt : Nat} (hd : decode mt.2.1 pc = .ok (.ifCond .lt off, 3)) (ht : (pc : Int) + off = (tgt : Int)) (kt : (x < 0) → ZW lay mt d Q tgt L st μ) (kf : ¬ (x < 0) → ZW lay mt d Q (pc + 3) L st μ) : ZW lay mt d Q pc L (.int x :: st) μ := by
  intro p l e s m args below meth c D ca ad A H locs ls G hP hD hS hL
  exact lv_if_lt G.1 G.2.1 hd ht (fun h => kt h p l e s m args below meth c D ca ad A H locs ls G hP hD hS hL) (fun h => kf h p l e s m args below meth c D ca ad A H locs ls G hP hD hS hL)
theorem z_icmp_lt {x y : Int32} {off : Int} {tgt : Nat} (hd : decode mt.2.1 pc = .ok (.if_icmp .lt off, 3)) (ht : (pc : Int) + off = (tgt : Int)) (kt : (x < y) → ZW lay mt d Q tgt L st μ) (kf : ¬ (x < y) → ZW lay mt d Q (pc + 3) L st μ) : ZW lay mt d Q pc L (.int y :: .int x :: st) μ := by
  intro p l e s m args below meth c D ca ad A H locs ls G hP hD hS hL
  exact lv_icmp_lt G.1 G.2.1 hd ht (fun h => kt h p l e s m args below meth c D ca ad A H locs ls G hP hD hS hL) (fun h => kf h p l e s m args below meth c D ca ad A H locs ls G hP hD hS hL)
theorem z_if_ge {x : Int32} {off : Int} {tgt : Nat} (hd : decode mt.2.1 pc = .ok (.ifCond .ge off, 3)) (ht : (pc : Int) + off = (tgt : Int)) (kt : (0 ≤ x) → ZW lay mt d Q tgt L st μ) (kf : ¬ (0 ≤ x) → ZW lay mt d Q (pc + 3) L st μ) : ZW lay mt d Q pc L (.int x :: st) μ := by
  intro p l e s m args below meth c D ca ad A H locs ls G hP hD hS hL
  exact lv_if_ge G.1 G.2.1 hd ht (fun h => kt h p l e s m args below meth c D ca ad A H locs ls G hP hD hS hL) (fun h => kf h p l e s m args below meth c D ca ad A H locs ls G hP hD hS hL)
theorem z_icmp_ge {x y : Int32} {off : Int} {tgt : Nat} (hd : decode mt.2.1 pc = .ok (.if_icmp .ge off, 3)) (ht : (pc : Int) + off = (tgt : Int)) (kt : (y ≤ x) → ZW lay mt d Q tgt L st μ) (kf : ¬ (y ≤ x) → ZW lay mt d Q (pc + 3) L st μ) : ZW lay mt d Q pc L (.int y :: .int x :: st) μ := by
  intro p l e s m args below meth c D ca ad A H locs ls G hP hD hS hL
  exact lv_icmp_ge G.1 G.2.1 hd ht (fun h => kt h p l e s m args below meth c D ca ad A H locs ls G hP hD hS hL) (fun h => kf h p l e s m args below meth c D ca ad A H locs ls G hP hD hS hL)
theorem z_if_gt {x : Int32} {off : Int} {tgt : Nat} (hd : decode mt.2.1 pc = .ok (.ifCond .gt off, 3)) (ht : (pc : Int) + off = (tgt : Int)) (kt : (0 < x) → ZW lay mt d Q tgt L st μ) (kf : ¬ (0 < x) → ZW lay mt d Q (pc + 3) L st μ) : ZW lay mt d Q pc L (.int x :: st) μ := by
  intro p l e s m args below meth c D ca ad A H locs ls G hP hD hS hL
  exact lv_if_gt G.1 G.2.1 hd ht (fun h => kt h p l e s m args below meth c D ca ad A H locs ls G hP hD hS hL) (fun h => kf h p l e s m args below meth c D ca ad A H locs ls G hP hD hS hL)
theorem z_icmp_gt {x y : Int32} {off : Int} {tgt : Nat} (hd : decode mt.2.1 pc = .ok (.if_icmp .gt off, 3)) (ht : (pc : Int) + off = (tgt : Int)) (kt : (y < x) → ZW lay mt d Q tgt L st μ) (kf : ¬ (y < x) → ZW lay mt d Q (pc + 3) L st μ) : ZW lay mt d Q pc L (.int y :: .int x :: st) μ := by
  intro p l e s m args below meth c D ca ad A H locs ls G hP hD hS hL
  exact lv_icmp_gt G.1 G.2.1 hd ht (fun h => kt h p l e s m args below meth c D ca ad A H locs ls G hP hD hS hL) (fun h => kf h p l e s m args below meth c D ca ad A H locs ls G hP hD hS hL)
theorem z_if_le {x : Int32} {off : Int} {tgt : Nat} (hd : decode mt.2.1 pc = .ok (.ifCond .le off, 3)) (ht : (pc : Int) + off = (tgt : Int)) (kt : (x ≤ 0) → ZW lay mt d Q tgt L st μ) (kf : ¬ (x ≤ 0) → ZW lay mt d Q (pc + 3) L st μ) : ZW lay mt d Q pc L (.int x :: st) μ := by
  intro p l e s m args below meth c D ca ad A H locs ls G hP hD hS hL
  exact lv_if_le G.1 G.2.1 hd ht (fun h => kt h p l e s m args below meth c D ca ad A H locs ls G hP hD hS hL) (fun h => kf h p l e s m args below meth c D ca ad A H locs ls G hP hD hS hL)
theorem z_icmp_le {x y : Int32} {off : Int} {tgt : Nat} (hd : decode mt.2.1 pc = .ok (.if_icmp .le off, 3)) (ht : (pc : Int) + off = (tgt : Int)) (kt : (x ≤ y) → ZW lay mt d Q tgt L st μ) (kf : ¬ (x ≤ y) → ZW lay mt d Q (pc + 3) L st μ) : ZW lay mt d Q pc L (.int y :: .int x :: st) μ := by
  intro p l e s m args below meth c D ca ad A H locs ls G hP hD hS hL
  exact lv_icmp_le G.1 G.2.1 hd ht (fun h => kt h p l e s m args below meth c D ca ad A H locs ls G hP hD hS hL) (fun h => kf h p l e s m args below meth c D ca ad A H locs ls G hP hD hS hL)
theorem z_tsw_in {dflt lo hi : Int} {offs : Array Int} {len : Nat} {x : Int32} {off : Int} {tgt : Nat} (hd : decode mt.2.1 pc = .ok (.tableswitch dflt lo hi offs, len)) (h1 : ¬ x.toInt < lo) (h2 : ¬ hi < x.toInt) (ho : offs[(x.toInt - lo).toNat]? = some off) (ht : (pc : Int) + off = (tgt : Int)) (k : ZW lay mt d Q tgt L st μ) : ZW lay mt d Q pc L (.int x :: st) μ := by
  intro p l e s m args below meth c D ca ad A H locs ls G hP hD hS hL
  exact lv_tableIn G.1 G.2.1 hd h1 h2 ho ht (k p l e s m args below meth c D ca ad A H locs ls G hP hD hS hL)
theorem z_tsw_out {dflt lo hi : Int} {offs : Array Int} {len : Nat} {x : Int32} {tgt : Nat} (hd : decode mt.2.1 pc = .ok (.tableswitch dflt lo hi offs, len)) (h : x.toInt < lo ∨ hi < x.toInt) (ht : (pc : Int) + dflt = (tgt : Int)) (k : ZW lay mt d Q tgt L st μ) : ZW lay mt d Q pc L (.int x :: st) μ := by
  intro p l e s m args below meth c D ca ad A H locs ls G hP hD hS hL
  exact lv_tableOut G.1 G.2.1 hd h ht (k p l e s m args below meth c D ca ad A H locs ls G hP hD hS hL)
theorem z_lsw {dflt : Int} {ps : Array (Int × Int)} {len : Nat} {x : Int32} {off : Int} {tgt : Nat} (hd : decode mt.2.1 pc = .ok (.lookupswitch dflt ps, len)) (hp : (ps.toList.zip (ps.toList.drop 1)).all (fun (a, next) => a.1 < next.1) = true) (ho : Op.lookupswitch.offset ps.toList dflt x.toInt = off) (ht : (pc : Int) + off = (tgt : Int)) (k : ZW lay mt d Q tgt L st μ) : ZW lay mt d Q pc L (.int x :: st) μ := by
  intro p l e s m args below meth c D ca ad A H locs ls G hP hD hS hL
  exact lv_lookup G.1 G.2.1 hd hp ho ht (k p l e s m args below meth c D ca ad A H locs ls G hP hD hS hL)
theorem z_getI {idx ci c f z : Nat} {ks : List ZK} (hd : decode mt.2.1 pc = .ok (.getfield idx, 3)) (hf : zF mt.1.cls idx ci f) (hl : lay[c]? = some (.inr (ci, ks))) (hk : ks[f]? = some (0, z)) (k : ZW lay mt d Q (pc + 3) L (.int (μ.1 c f) :: st) μ) : ZW lay mt d Q pc L (.ref c :: st) μ := by
  intro p l e s m args below meth c_ D ca ad A H locs ls G hP hD hS hL
  obtain ⟨C, T, N, ty0, hc, hkN, hin, -, -, hlk⟩ := hf
  have he : (zws ad ca μ 0 lay)[c]? = some (ad c, .inr (ci, zfs ad μ c 0 ks)) := zws_at hl
  have hv : (zfs ad μ c 0 ks)[f]? = some (zmv ad (.int (μ.1 c f))) := zfs_at hk
  rcases hlk with h | ⟨host, h⟩
  · exact va_get (v := zmv ad (.int (μ.1 c f))) G.1 G.2.1 G.2.2.2.2.2.2.1 hin G.2.2.2.2.1 G.2.2.2.2.2.2.2.2.1 hP c he hc f hkN (G.2.2.2.2.2.2.1 _ h) (fun _ h9 => h9) hv hd (k p l e s m args below meth c_ D ca ad A H locs ls G hP hD hS hL)
  · exact va_getN (v := zmv ad (.int (μ.1 c f))) G.1 G.2.1 G.2.2.2.2.2.2.1 hin G.2.2.2.2.1 G.2.2.2.2.2.2.2.2.1 hP c he hc f hkN (va_Nw.use rfl (G.2.2.2.2.2.2.2.1 _ h)) (fun _ h9 => h9) hv hd (k p l e s m args below meth c_ D ca ad A H locs ls G hP hD hS hL)
theorem z_getJ {idx ci c f z : Nat} {ks : List ZK} (hd : decode mt.2.1 pc = .ok (.getfield idx, 3)) (hf : zF mt.1.cls idx ci f) (hl : lay[c]? = some (.inr (ci, ks))) (hk : ks[f]? = some (1, z)) (k : ZW lay mt d Q (pc + 3) L (.long (μ.2.1 c f) :: st) μ) : ZW lay mt d Q pc L (.ref c :: st) μ := by
  intro p l e s m args below meth c_ D ca ad A H locs ls G hP hD hS hL
  obtain ⟨C, T, N, ty0, hc, hkN, hin, -, -, hlk⟩ := hf
  have he : (zws ad ca μ 0 lay)[c]? = some (ad c, .inr (ci, zfs ad μ c 0 ks)) := zws_at hl
  have hv : (zfs ad μ c 0 ks)[f]? = some (zmv ad (.long (μ.2.1 c f))) := zfs_at hk
  rcases hlk with h | ⟨host, h⟩
  · exact va_get (v := zmv ad (.long (μ.2.1 c f))) G.1 G.2.1 G.2.2.2.2.2.2.1 hin G.2.2.2.2.1 G.2.2.2.2.2.2.2.2.1 hP c he hc f hkN (G.2.2.2.2.2.2.1 _ h) (fun _ h9 => h9) hv hd (k p l e s m args below meth c_ D ca ad A H locs ls G hP hD hS hL)
  · exact va_getN (v := zmv ad (.long (μ.2.1 c f))) G.1 G.2.1 G.2.2.2.2.2.2.1 hin G.2.2.2.2.1 G.2.2.2.2.2.2.2.2.1 hP c he hc f hkN (va_Nw.use rfl (G.2.2.2.2.2.2.2.1 _ h)) (fun _ h9 => h9) hv hd (k p l e s m args below meth c_ D ca ad A H locs ls G hP hD hS hL)
theorem z_getR {idx ci c f z : Nat} {ks : List ZK} (hd : decode mt.2.1 pc = .ok (.getfield idx, 3)) (hf : zF mt.1.cls idx ci f) (hl : lay[c]? = some (.inr (ci, ks))) (hk : ks[f]? = some (2, z)) (k : ZW lay mt d Q (pc + 3) L (.ref z :: st) μ) : ZW lay mt d Q pc L (.ref c :: st) μ := by
  intro p l e s m args below meth c_ D ca ad A H locs ls G hP hD hS hL
  obtain ⟨C, T, N, ty0, hc, hkN, hin, -, -, hlk⟩ := hf
  have he : (zws ad ca μ 0 lay)[c]? = some (ad c, .inr (ci, zfs ad μ c 0 ks)) := zws_at hl
  have hv : (zfs ad μ c 0 ks)[f]? = some (zmv ad (.ref z)) := zfs_at hk
  rcases hlk with h | ⟨host, h⟩
  · exact va_get (v := zmv ad (.ref z)) G.1 G.2.1 G.2.2.2.2.2.2.1 hin G.2.2.2.2.1 G.2.2.2.2.2.2.2.2.1 hP c he hc f hkN (G.2.2.2.2.2.2.1 _ h) (fun _ h9 => h9) hv hd (k p l e s m args below meth c_ D ca ad A H locs ls G hP hD hS hL)
  · exact va_getN (v := zmv ad (.ref z)) G.1 G.2.1 G.2.2.2.2.2.2.1 hin G.2.2.2.2.1 G.2.2.2.2.2.2.2.2.1 hP c he hc f hkN (va_Nw.use rfl (G.2.2.2.2.2.2.2.1 _ h)) (fun _ h9 => h9) hv hd (k p l e s m args below meth c_ D ca ad A H locs ls G hP hD hS hL)
theorem z_getM {idx ci c f z : Nat} {ks : List ZK} (hd : decode mt.2.1 pc = .ok (.getfield idx, 3)) (hf : zF mt.1.cls idx ci f) (hl : lay[c]? = some (.inr (ci, ks))) (hk : ks[f]? = some (3, z)) (k : ZW lay mt d Q (pc + 3) L (.ref (μ.2.2 c f) :: st) μ) : ZW lay mt d Q pc L (.ref c :: st) μ := by
  intro p l e s m args below meth c_ D ca ad A H locs ls G hP hD hS hL
  obtain ⟨C, T, N, ty0, hc, hkN, hin, -, -, hlk⟩ := hf
  have he : (zws ad ca μ 0 lay)[c]? = some (ad c, .inr (ci, zfs ad μ c 0 ks)) := zws_at hl
  have hv : (zfs ad μ c 0 ks)[f]? = some (zmv ad (.ref (μ.2.2 c f))) := zfs_at hk
  rcases hlk with h | ⟨host, h⟩
  · exact va_get (v := zmv ad (.ref (μ.2.2 c f))) G.1 G.2.1 G.2.2.2.2.2.2.1 hin G.2.2.2.2.1 G.2.2.2.2.2.2.2.2.1 hP c he hc f hkN (G.2.2.2.2.2.2.1 _ h) (fun _ h9 => h9) hv hd (k p l e s m args below meth c_ D ca ad A H locs ls G hP hD hS hL)
  · exact va_getN (v := zmv ad (.ref (μ.2.2 c f))) G.1 G.2.1 G.2.2.2.2.2.2.1 hin G.2.2.2.2.1 G.2.2.2.2.2.2.2.2.1 hP c he hc f hkN (va_Nw.use rfl (G.2.2.2.2.2.2.2.1 _ h)) (fun _ h9 => h9) hv hd (k p l e s m args below meth c_ D ca ad A H locs ls G hP hD hS hL)
theorem z_putI {idx ci c f z : Nat} {ks : List ZK} {ty : FieldType} {v : Int32} (hd : decode mt.2.1 pc = .ok (.putfield idx, 3)) (hf : zFp mt.1.cls idx ci f ty) (hl : lay[c]? = some (.inr (ci, ks))) (hk : ks[f]? = some (0, z)) (hty2 : narrow ty (.int v) = .int v) (hfit : fits ty (.int v) = true) (k : ZW lay mt d Q (pc + 3) L st (zI μ c f v)) : ZW lay mt d Q pc L (.int v :: .ref c :: st) μ := by
  intro p l e s m args below meth c_ D ca ad A H locs ls G hP hD hS hL
  obtain ⟨⟨C, T, N, ty0, hc, hkN, hin, hty, hnm, hlk⟩, q, hq, hfin, hpd⟩ := hf
  have hq' : q = (C, T, N) := Option.some.inj (hq.symm.trans hc)
  subst hq'
  have he : (zws ad ca μ 0 lay)[c]? = some (ad c, .inr (ci, zfs ad μ c 0 ks)) := zws_at hl
  have hfl : f < (zfs ad μ c 0 ks).length := by rw [zfs_len]; exact (List.getElem?_eq_some_iff.mp hk).1
  have hw := zws_int (ad := ad) (ca := ca) (μ := μ) (v := v) hl hk
  rcases hlk with h | ⟨host, h⟩
  · refine va_put (v := .int v) G.1 G.2.1 G.2.2.2.2.2.2.1 hin ty0 hty hnm G.2.2.2.2.1 G.2.2.2.2.2.2.2.2.1 hP hD hS c he hc f hkN (G.2.2.2.2.2.2.1 _ h) (fun _ h9 => h9) hfin hpd (hty2) (hfit) hfl hd (fun H1 locs1 hP1 hD1 hS1 => ?_)
    rw [hw] at hP1 hD1
    exact k p l e s m args below meth c_ D ca ad A H1 locs1 ls G hP1 hD1 hS1 hL
  · refine va_putN (v := .int v) G.1 G.2.1 G.2.2.2.2.2.2.1 hin ty0 hty hnm G.2.2.2.2.1 G.2.2.2.2.2.2.2.2.1 hP hD hS c he hc f hkN (va_Nw.use rfl (G.2.2.2.2.2.2.2.1 _ h)) (fun _ h9 => h9) hfin hpd (hty2) (hfit) hfl hd (fun H1 locs1 hP1 hD1 hS1 => ?_)
    rw [hw] at hP1 hD1
    exact k p l e s m args below meth c_ D ca ad A H1 locs1 ls G hP1 hD1 hS1 hL
theorem z_putJ {idx ci c f z : Nat} {ks : List ZK} {ty : FieldType} {v : Int64} (hd : decode mt.2.1 pc = .ok (.putfield idx, 3)) (hf : zFp mt.1.cls idx ci f ty) (hl : lay[c]? = some (.inr (ci, ks))) (hk : ks[f]? = some (1, z)) (hty2 : ty = .long) (k : ZW lay mt d Q (pc + 3) L st (zJ μ c f v)) : ZW lay mt d Q pc L (.long v :: .ref c :: st) μ := by
  intro p l e s m args below meth c_ D ca ad A H locs ls G hP hD hS hL
  obtain ⟨⟨C, T, N, ty0, hc, hkN, hin, hty, hnm, hlk⟩, q, hq, hfin, hpd⟩ := hf
  have hq' : q = (C, T, N) := Option.some.inj (hq.symm.trans hc)
  subst hq'
  have he : (zws ad ca μ 0 lay)[c]? = some (ad c, .inr (ci, zfs ad μ c 0 ks)) := zws_at hl
  have hfl : f < (zfs ad μ c 0 ks).length := by rw [zfs_len]; exact (List.getElem?_eq_some_iff.mp hk).1
  have hw := zws_long (ad := ad) (ca := ca) (μ := μ) (v := v) hl hk
  rcases hlk with h | ⟨host, h⟩
  · refine va_put (v := .long v) G.1 G.2.1 G.2.2.2.2.2.2.1 hin ty0 hty hnm G.2.2.2.2.1 G.2.2.2.2.2.2.2.2.1 hP hD hS c he hc f hkN (G.2.2.2.2.2.2.1 _ h) (fun _ h9 => h9) hfin hpd (by rw [hty2]; rfl) (by rw [hty2]; rfl) hfl hd (fun H1 locs1 hP1 hD1 hS1 => ?_)
    rw [hw] at hP1 hD1
    exact k p l e s m args below meth c_ D ca ad A H1 locs1 ls G hP1 hD1 hS1 hL
  · refine va_putN (v := .long v) G.1 G.2.1 G.2.2.2.2.2.2.1 hin ty0 hty hnm G.2.2.2.2.1 G.2.2.2.2.2.2.2.2.1 hP hD hS c he hc f hkN (va_Nw.use rfl (G.2.2.2.2.2.2.2.1 _ h)) (fun _ h9 => h9) hfin hpd (by rw [hty2]; rfl) (by rw [hty2]; rfl) hfl hd (fun H1 locs1 hP1 hD1 hS1 => ?_)
    rw [hw] at hP1 hD1
    exact k p l e s m args below meth c_ D ca ad A H1 locs1 ls G hP1 hD1 hS1 hL
theorem z_putM {idx ci c f z : Nat} {ks : List ZK} {ty : FieldType} {v : Nat} (hd : decode mt.2.1 pc = .ok (.putfield idx, 3)) (hf : zFp mt.1.cls idx ci f ty) (hl : lay[c]? = some (.inr (ci, ks))) (hk : ks[f]? = some (3, z)) (hty2 : ∃ n, ty = .object n) (k : ZW lay mt d Q (pc + 3) L st (zR μ c f v)) : ZW lay mt d Q pc L (.ref v :: .ref c :: st) μ := by
  intro p l e s m args below meth c_ D ca ad A H locs ls G hP hD hS hL
  obtain ⟨⟨C, T, N, ty0, hc, hkN, hin, hty, hnm, hlk⟩, q, hq, hfin, hpd⟩ := hf
  have hq' : q = (C, T, N) := Option.some.inj (hq.symm.trans hc)
  subst hq'
  have he : (zws ad ca μ 0 lay)[c]? = some (ad c, .inr (ci, zfs ad μ c 0 ks)) := zws_at hl
  have hfl : f < (zfs ad μ c 0 ks).length := by rw [zfs_len]; exact (List.getElem?_eq_some_iff.mp hk).1
  have hw := zws_ref (ad := ad) (ca := ca) (μ := μ) (v := v) hl hk
  rcases hlk with h | ⟨host, h⟩
  · refine va_put (v := .ref (ad v)) G.1 G.2.1 G.2.2.2.2.2.2.1 hin ty0 hty hnm G.2.2.2.2.1 G.2.2.2.2.2.2.2.2.1 hP hD hS c he hc f hkN (G.2.2.2.2.2.2.1 _ h) (fun _ h9 => h9) hfin hpd (by obtain ⟨n, rfl⟩ := hty2; rfl) (by obtain ⟨n, rfl⟩ := hty2; rfl) hfl hd (fun H1 locs1 hP1 hD1 hS1 => ?_)
    rw [hw] at hP1 hD1
    exact k p l e s m args below meth c_ D ca ad A H1 locs1 ls G hP1 hD1 hS1 hL
  · refine va_putN (v := .ref (ad v)) G.1 G.2.1 G.2.2.2.2.2.2.1 hin ty0 hty hnm G.2.2.2.2.1 G.2.2.2.2.2.2.2.2.1 hP hD hS c he hc f hkN (va_Nw.use rfl (G.2.2.2.2.2.2.2.1 _ h)) (fun _ h9 => h9) hfin hpd (by obtain ⟨n, rfl⟩ := hty2; rfl) (by obtain ⟨n, rfl⟩ := hty2; rfl) hfl hd (fun H1 locs1 hP1 hD1 hS1 => ?_)
    rw [hw] at hP1 hD1
    exact k p l e s m args below meth c_ D ca ad A H1 locs1 ls G hP1 hD1 hS1 hL
theorem z_iald {c n j : Nat} {i : Int32} (hd : decode mt.2.1 pc = .ok (.iaload, 1)) (hl : lay[c]? = some (.inl (0, n))) (hi : i = nI j) (hj : j < n) (hn : n < 2 ^ 31) (k : ZW lay mt d Q (pc + 1) L (.int (μ.1 c j) :: st) μ) : ZW lay mt d Q pc L (.int i :: .ref c :: st) μ := by
  intro p l e s m args below meth c_ D ca ad A H locs ls G hP hD hS hL
  subst hi
  have he : (zws ad ca μ 0 lay)[c]? = some (ad c, .inl (ca 0, n, .inl (μ.1 c))) := zws_at hl
  refine va_iald G.1 G.2.1 G.2.2.2.2.2.2.2.2.1 hP c 0 he rfl (vp_in_nI hj hn) hd ?_
  rw [nI_clamp (by omega)]
  exact k p l e s m args below meth c_ D ca ad A H locs ls G hP hD hS hL
theorem z_bald {c n j : Nat} {i : Int32} (hd : decode mt.2.1 pc = .ok (.baload, 1)) (hl : lay[c]? = some (.inl (1, n))) (hi : i = nI j) (hj : j < n) (hn : n < 2 ^ 31) (k : ZW lay mt d Q (pc + 1) L (.int (μ.1 c j) :: st) μ) : ZW lay mt d Q pc L (.int i :: .ref c :: st) μ := by
  intro p l e s m args below meth c_ D ca ad A H locs ls G hP hD hS hL
  subst hi
  have he : (zws ad ca μ 0 lay)[c]? = some (ad c, .inl (ca 1, n, .inl (μ.1 c))) := zws_at hl
  refine va_bald G.1 G.2.1 G.2.2.2.2.2.2.2.2.1 hP c 1 he rfl (vp_in_nI hj hn) hd ?_
  rw [nI_clamp (by omega)]
  exact k p l e s m args below meth c_ D ca ad A H locs ls G hP hD hS hL
theorem z_zald {c n j : Nat} {i : Int32} (hd : decode mt.2.1 pc = .ok (.baload, 1)) (hl : lay[c]? = some (.inl (2, n))) (hi : i = nI j) (hj : j < n) (hn : n < 2 ^ 31) (k : ZW lay mt d Q (pc + 1) L (.int (μ.1 c j) :: st) μ) : ZW lay mt d Q pc L (.int i :: .ref c :: st) μ := by
  intro p l e s m args below meth c_ D ca ad A H locs ls G hP hD hS hL
  subst hi
  have he : (zws ad ca μ 0 lay)[c]? = some (ad c, .inl (ca 2, n, .inl (μ.1 c))) := zws_at hl
  refine va_zald G.1 G.2.1 G.2.2.2.2.2.2.2.2.1 hP c 2 he rfl (vp_in_nI hj hn) hd ?_
  rw [nI_clamp (by omega)]
  exact k p l e s m args below meth c_ D ca ad A H locs ls G hP hD hS hL
theorem z_iast {c n j : Nat} {i x : Int32} (hd : decode mt.2.1 pc = .ok (.iastore, 1)) (hl : lay[c]? = some (.inl (0, n))) (hi : i = nI j) (hj : j < n) (hn : n < 2 ^ 31) (k : ZW lay mt d Q (pc + 1) L st (zI μ c j (x))) : ZW lay mt d Q pc L (.int x :: .int i :: .ref c :: st) μ := by
  intro p l e s m args below meth c_ D ca ad A H locs ls G hP hD hS hL
  subst hi
  have he : (zws ad ca μ 0 lay)[c]? = some (ad c, .inl (ca 0, n, .inl (μ.1 c))) := zws_at hl
  refine va_iast G.1 G.2.1 G.2.2.2.2.2.2.2.2.1 hP hD hS c 0 he rfl (vp_in_nI hj hn) hd (fun H1 locs1 hP1 hD1 hS1 => ?_)
  rw [nI_clamp (by omega), zws_arr hl] at hP1 hD1
  exact k p l e s m args below meth c_ D ca ad A H1 locs1 ls G hP1 hD1 hS1 hL
theorem z_bast {c n j : Nat} {i x : Int32} (hd : decode mt.2.1 pc = .ok (.bastore, 1)) (hl : lay[c]? = some (.inl (1, n))) (hi : i = nI j) (hj : j < n) (hn : n < 2 ^ 31) (k : ZW lay mt d Q (pc + 1) L st (zI μ c j (vp_nar .byte x))) : ZW lay mt d Q pc L (.int x :: .int i :: .ref c :: st) μ := by
  intro p l e s m args below meth c_ D ca ad A H locs ls G hP hD hS hL
  subst hi
  have he : (zws ad ca μ 0 lay)[c]? = some (ad c, .inl (ca 1, n, .inl (μ.1 c))) := zws_at hl
  refine va_bast G.1 G.2.1 G.2.2.2.2.2.2.2.2.1 hP hD hS c 1 he rfl (vp_in_nI hj hn) hd (fun H1 locs1 hP1 hD1 hS1 => ?_)
  rw [nI_clamp (by omega), zws_arr hl] at hP1 hD1
  exact k p l e s m args below meth c_ D ca ad A H1 locs1 ls G hP1 hD1 hS1 hL
theorem z_zast {c n j : Nat} {i x : Int32} (hd : decode mt.2.1 pc = .ok (.bastore, 1)) (hl : lay[c]? = some (.inl (2, n))) (hi : i = nI j) (hj : j < n) (hn : n < 2 ^ 31) (k : ZW lay mt d Q (pc + 1) L st (zI μ c j (vp_nar .boolean x))) : ZW lay mt d Q pc L (.int x :: .int i :: .ref c :: st) μ := by
  intro p l e s m args below meth c_ D ca ad A H locs ls G hP hD hS hL
  subst hi
  have he : (zws ad ca μ 0 lay)[c]? = some (ad c, .inl (ca 2, n, .inl (μ.1 c))) := zws_at hl
  refine va_zast G.1 G.2.1 G.2.2.2.2.2.2.2.2.1 hP hD hS c 2 he rfl (vp_in_nI hj hn) hd (fun H1 locs1 hP1 hD1 hS1 => ?_)
  rw [nI_clamp (by omega), zws_arr hl] at hP1 hD1
  exact k p l e s m args below meth c_ D ca ad A H1 locs1 ls G hP1 hD1 hS1 hL
theorem z_iret {v : Int32} (hd : decode mt.2.1 pc = .ok (.ireturn, 1)) (hr : mt.2.2.2 = some .int) (hq : Q (some (.int v)) μ) : ZW lay mt d Q pc L [.int v] μ := by
  intro p l e s m args below meth c D ca ad A H locs ls G hP hD hS hL
  exact W.iret (v := v) G.1 G.2.1 (G.2.2.1.trans hr) (fun t ht hW => ⟨some (.int v), μ, hq, rfl, by rw [ht]; exact hP, hS.F ht⟩) hS.2.2 hd G.2.2.2.2.2.1
theorem z_zret {v : Int32} (hd : decode mt.2.1 pc = .ok (.ireturn, 1)) (hr : mt.2.2.2 = some .boolean) (hv : narrow .boolean (.int v) = .int v) (hq : Q (some (.int v)) μ) : ZW lay mt d Q pc L [.int v] μ := by
  intro p l e s m args below meth c D ca ad A H locs ls G hP hD hS hL
  exact W.zret (v := v) G.1 G.2.1 (G.2.2.1.trans hr) hv (fun t ht hW => ⟨some (.int v), μ, hq, rfl, by rw [ht]; exact hP, hS.F ht⟩) hS.2.2 hd G.2.2.2.2.2.1
theorem z_lret {v : Int64} (hd : decode mt.2.1 pc = .ok (.lreturn, 1)) (hr : mt.2.2.2 = some .long) (hq : Q (some (.long v)) μ) : ZW lay mt d Q pc L [.long v] μ := by
  intro p l e s m args below meth c D ca ad A H locs ls G hP hD hS hL
  exact W.lret (v := v) G.1 G.2.1 (G.2.2.1.trans hr) (fun t ht hW => ⟨some (.long v), μ, hq, rfl, by rw [ht]; exact hP, hS.F ht⟩) hS.2.2 hd G.2.2.2.2.2.1
theorem z_aret {v : Nat} {n : String} (hd : decode mt.2.1 pc = .ok (.areturn, 1)) (hr : mt.2.2.2 = some (.object n)) (hq : Q (some (.ref v)) μ) : ZW lay mt d Q pc L [.ref v] μ := by
  intro p l e s m args below meth c D ca ad A H locs ls G hP hD hS hL
  exact W.aret (v := .ref (ad v)) G.1 G.2.1 (G.2.2.1.trans hr) (Or.inl ⟨n, rfl⟩) (Or.inr ⟨_, rfl⟩) (fun t ht hW => ⟨some (.ref v), μ, hq, rfl, by rw [ht]; exact hP, hS.F ht⟩) hS.2.2 hd G.2.2.2.2.2.1
theorem z_vret (hd : decode mt.2.1 pc = .ok (.return_, 1)) (hr : mt.2.2.2 = none) (hq : Q none μ) : ZW lay mt d Q pc L [] μ := by
  intro p l e s m args below meth c D ca ad A H locs ls G hP hD hS hL
  exact W.vret G.1 G.2.1 (G.2.2.1.trans hr) (fun t ht hW => ⟨none, μ, hq, rfl, by rw [ht]; exact hP, hS.F ht⟩) hS.2.2 hd G.2.2.2.2.2.1
theorem zcats (ad : Nat → Nat) (st : List Value) : ((st.map (zmv ad)).map fun v => v.category).sum = (st.map fun v => v.category).sum := by
  rw [List.map_map]
  congr 1
  exact List.map_congr_left (fun v _ => zmv_cat ad v)
theorem z_copy {idx c0 c1 n0 n1 : Nat} {n : Nat} {x z0 z1 : Int32} (hd : decode mt.2.1 pc = .ok (.invokestatic idx, 3)) (hlk : Cond.methodLink mt.1.cls idx arraycopyName ∈ ztbl) (hl0 : lay[c0]? = some (.inl (0, n0))) (hl1 : lay[c1]? = some (.inl (0, n1))) (hz0 : z0 = 0) (hz1 : z1 = 0) (hx : x = nI n) (h0 : n ≤ n0) (h1 : n ≤ n1) (hn : n < 2 ^ 31) (hdp : 1 ≤ d) (hst : (st.map fun v => v.category).sum ≤ 8)
    (k : ZW lay mt d Q (pc + 3) L st (zrow μ c1 (va_cpy (μ.1 c0) (μ.1 c1) 0 0 n))) : ZW lay mt d Q pc L (.int x :: .int z1 :: .ref c1 :: .int z0 :: .ref c0 :: st) μ := by
  subst hx; subst hz0; subst hz1
  intro p l e s m args below meth c D ca ad A H locs ls G hP hD hS hL
  have hz := zcats ad st
  have e0 : (zws ad ca μ 0 lay)[c0]? = some (ad c0, .inl (ca 0, n0, .inl (μ.1 c0))) := zws_at hl0
  have e1 : (zws ad ca μ 0 lay)[c1]? = some (ad c1, .inl (ca 0, n1, .inl (μ.1 c1))) := zws_at hl1
  have hcl : (nI n).toNatClampNeg = n := nI_clamp hn
  refine va_copyi G.1 G.2.1 (by rw [hL.1.1]; exact G.2.2.2.1) G.2.2.2.2.1 (G.2.2.2.2.2.2.1 _ hlk) (G.2.2.2.2.2.2.1 _ zm_3_53) (G.2.2.2.2.2.2.1 _ zm_3_52) (G.2.2.2.2.2.2.1 _ zm_1_8) G.2.2.2.2.2.2.2.2.1 hP hD hS c0 c1 0 0 (ty := .int) e0 e1 rfl rfl rfl (by decide) (by decide) (nI_pos hn) (by rw [hcl, show (0 : Int32).toNatClampNeg = 0 by decide]; omega) (by rw [hcl, show (0 : Int32).toNatClampNeg = 0 by decide]; omega) (fun _ _ => rfl) hdp ?_ hd (fun H1 locs1 hP1 hD1 hS1 => ?_)
  · show _ + (nativeFrameWords "java/lang/System" "arraycopy" 5 + 11) ≤ d * 30
    rw [show nativeFrameWords "java/lang/System" "arraycopy" 5 = 7 by decide]
    omega
  · rw [hcl, show (0 : Int32).toNatClampNeg = 0 by decide, zws_row hl1] at hP1 hD1
    exact k p l e s m args below meth c D ca ad A H1 locs1 ls G hP1 hD1 hS1 hL
theorem zgood {y : ZM} (h : Cond.code y.1 y.2.1 y.2.2.1 y.2.2.2 ∈ ztbl) : GoodIn ztbl (.code y.1 y.2.1 y.2.2.1 y.2.2.2 :: ztbl) := by
  intro w hw
  rcases List.mem_cons.mp hw with rfl | hw
  · exact ⟨h, zall_good _ h⟩
  · exact ⟨hw, zall_good _ hw⟩
theorem znest_warm {s U : State} (hW : s.WarmedH U.vm) (h : ∀ w ∈ znest, va_Nw w s) : ∀ w ∈ znest, va_Nw w U := by
  intro w hw
  have hn := List.all_eq_true.mp znest_is w hw
  have h1 := h w hw
  cases w <;> first | exact va_Nw.warmF hW h1 | exact va_Nw.warmM hW h1 | (exact absurd hn (by decide)) | (simp [zisNest] at hn)
theorem znest_same {u U : State} (hv : u.vm = U.vm) (h : ∀ w ∈ znest, va_Nw w u) : ∀ w ∈ znest, va_Nw w U := by
  intro w hw
  have hn := List.all_eq_true.mp znest_is w hw
  have h1 := h w hw
  cases w <;> first | exact va_Nw.same rfl hv h1 | (exact absurd hn (by decide)) | (simp [zisNest] at hn)
theorem zdesc {y : MethodName} {n : Nat} (h : (parseMethodDescriptor y.desc).map (fun d => d.parameters.length) = some n) : ∀ sig, parseMethodDescriptor y.desc = some sig → n = sig.parameters.length := by
  intro sig hs
  rw [hs] at h
  exact (Option.some.inj h).symm
theorem zblind {lay : List ZE} {D : va_G} {ca : Nat → ClassId} {ad : Nat → Nat} {μ : ZMem} {sz : Nat} {av : List Value} : FrameBlind (va_Pc av (fun U => U.heap.size = sz ∧ va_P D vwCl (zws ad ca μ 0 lay) U.heap ∧ va_K D vwCl (ztys ca) U ∧ va_D (fun _ => True) (zws ad ca μ 0 lay) ∧ ∀ w ∈ znest, va_Nw w U)) := by
  intro a U g mk q
  obtain ⟨q0, q1, qP, qK, qD, qN⟩ := q
  exact ⟨q0, q1, qP, va_K.moved (u := U) (U := U.calling g mk a) (Vm.Alike.refl U.vm) qK, qD, znest_same (u := U) (U := U.calling g mk a) rfl qN⟩
/-- a call within the world: the callee's contract, then what follows -/
theorem z_run {y : ZM} {dy : Nat} {Qy : Option Value → ZMem → Prop} {rest : List Value}
    {p : Program} {l : Launch} {e : Env} {s : State} {m : MethodId} {args : Array Value} {below : List Frame} {meth : Method} {c : Code} {D : va_G} {ca : Nat → ClassId} {ad : Nat → Nat} {A : Nat → Prop} {H : Heap} {locs : List Loc} {ls : Array Slot} {st0 : List Value} {a : Array Value}
    (G : zG mt p s m args meth c D ca A) (hD : va_D A (zws ad ca μ 0 lay)) (hS : va_S A s.heap H locs) (hL : zL ad ls mt.2.2.1 L)
    (hr : va_Run p l e (zroom d) s m args below meth c H locs 0 0 0 0 (F0 m pc ls st0) (rest.map (zmv ad)) (zQ lay D ca ad (zA lay ad H.size) Qy a) (zA lay ad H.size))
    (k : ∀ r μ', Qy r μ' → ZW lay mt d Q (pc + 3) L (r.toList ++ rest) μ') : W p l e (zroom d) s m args below meth c H locs 0 0 (MQ below (zQ lay D ca ad A Q) args s 0 0 A) (F0 m pc ls st0) := by
  have hA : ∀ q, zA lay ad H.size q → A q := by
    rintro q (⟨j, hj, rfl⟩ | hq)
    · exact zws_DA hD j hj
    · exact G.2.2.2.2.2.2.2.2.2 q (Nat.le_trans hS.1 hq)
  intro T hT X
  obtain ⟨v, st₀, t, T', Ls, h0, X', hLs, e1, e2, ⟨r, μ', hq, hv, hP1, hz, hk⟩, stp⟩ := hr T hT X
  have hv' : v = r.map (zmv ad) := by cases hv; rfl
  subst hv'
  rw [h0] at hz hk
  obtain ⟨t2, a1, b1⟩ := k r μ' hq p l e s m args below meth c D ca ad A T'.heap (locs ++ Ls) ls G (by rw [e1]; exact hP1) (zws_D hD (zws_DA hD))
    ⟨Nat.le_trans hS.1 (by rw [e1]; exact hz), fun q h1 h2 => by rw [e1, hk q (Nat.lt_of_lt_of_le h1 hS.1) (fun z => h2 (hA q z))]; exact hS.2.1 q h1 h2, fun q hq => by
      rcases List.mem_append.mp hq with h | h
      · exact hS.2.2 q h
      · exact hA _ (hLs q h)⟩ hL T' rfl X'
  refine ⟨t2, stp t2 ?_, b1⟩
  have e5 : (r.toList ++ rest).map (zmv ad) = (r.map (zmv ad)).toList ++ rest.map (zmv ad) := by cases r <;> rfl
  rw [e5] at a1
  exact a1
theorem zroom_le {y : ZM} {dy : Nat} (hdp : dy + 1 ≤ d) (hy : y.2.2.1 ≤ 11) : (zroom dy).frames + 1 ≤ (zroom d).frames ∧ 8 + (y.2.2.1 + 11) + (zroom dy).locals ≤ (zroom d).locals := by
  refine ⟨hdp, ?_⟩
  show 8 + (y.2.2.1 + 11) + dy * 30 ≤ d * 30
  omega
theorem z_callV {y : ZM} {n b ci idx dy : Nat} {ks : List ZK} {As : List Value} {Qy : Option Value → ZMem → Prop} (hd : decode mt.2.1 pc = .ok (.invokevirtual idx, 3)) (hlk : zLk mt.1.cls idx y) (hy : zYv y n) (hl : lay[b]? = some (.inr (ci, ks))) (hc : (vwCl[ci]?).map (fun q => q.1) = some y.1.cls) (hn : As.length = n) (hdp : dy + 1 ≤ d) (hst : (st.map fun v => v.category).sum ≤ 8) (hs : Spec lay y dy (.ref b :: As) μ Qy)
    (k : ∀ r μ', Qy r μ' → ZW lay mt d Q (pc + 3) L (r.toList ++ st) μ') : ZW lay mt d Q pc L (As.reverse ++ .ref b :: st) μ := by
  intro p l e s m args below meth c D ca ad A H locs ls G hP hD hS hL
  obtain ⟨y1, y2, y3, y4, y5, y6, y7⟩ := hy
  have hts := G.2.2.2.2.2.2.1
  have he : (zws ad ca μ 0 lay)[b]? = some (ad b, .inr (ci, zfs ad μ b 0 ks)) := zws_at hl
  obtain ⟨qc, hqc, hcn⟩ := Option.map_eq_some_iff.mp hc
  have hrecv := va_recv G.2.2.2.2.2.2.2.2.1 hP hqc he
  rw [hcn] at hrecv
  have hM := hs l D ca ad H.size
  have hpre : PreV s H y.1.cls (ad b) (va_Pc ((Value.ref b :: As).map (zmv ad)) (fun U => U.heap.size = H.size ∧ va_P D vwCl (zws ad ca μ 0 lay) U.heap ∧ va_K D vwCl (ztys ca) U ∧ va_D (fun _ => True) (zws ad ca μ 0 lay) ∧ ∀ w ∈ znest, va_Nw w U)) (As.map (zmv ad)) :=
    ⟨zblind, hrecv, fun U hU hW => ⟨rfl, by rw [hU], by rw [hU]; exact hP, va_K.moved hW.alike G.2.2.2.2.2.2.2.2.1, hD.weaken (fun _ _ _ _ => trivial), znest_warm hW G.2.2.2.2.2.2.2.1⟩⟩
  have hstk : (As.reverse ++ Value.ref b :: st).map (zmv ad) = (As.map (zmv ad)).reverse ++ Value.ref (ad b) :: st.map (zmv ad) := by
    rw [List.map_append, List.map_reverse]; rfl
  rw [hstk]
  refine z_run (y := y) (dy := dy) (Qy := Qy) (rest := st) (a := (Value.ref (ad b) :: As.map (zmv ad)).toArray) G hD hS hL ?_ k
  rcases hlk with h | ⟨host, h⟩
  · exact va_runV ⟨G.1, G.2.1, G.2.2.2.1, G.2.2.2.2.1, hts⟩ hM ⟨⟨rfl, rfl, (zroom_le hdp y7).1, (zroom_le hdp y7).2, pay_in hts (zgood y1), List.mem_cons_self, hts _ y1, hts _ y2, y5, zdesc y6, hts _ h⟩, hts _ y3, hts _ y4⟩ hpre rfl (by rw [List.length_map]; exact hn) hL.1.1 rfl (by show 2 * 0 + _ ≤ 8; rw [zcats]; omega) hd ⟨Nat.le_refl _, Nat.le_refl _⟩
  · exact va_runVN ⟨G.1, G.2.1, G.2.2.2.1, G.2.2.2.2.1, hts⟩ hM ⟨⟨⟨rfl, rfl, (zroom_le hdp y7).1, (zroom_le hdp y7).2, pay_in hts (zgood y1), List.mem_cons_self⟩, hts _ y1, hts _ y2, y5, zdesc y6, va_Nw.use rfl (G.2.2.2.2.2.2.2.1 _ h)⟩, hts _ y3, hts _ y4⟩ hpre rfl (by rw [List.length_map]; exact hn) hL.1.1 rfl (by show 2 * 0 + _ ≤ 8; rw [zcats]; omega) hd ⟨Nat.le_refl _, Nat.le_refl _⟩
theorem z_callS {y : ZM} {n idx dy : Nat} {As : List Value} {Qy : Option Value → ZMem → Prop} (hd : decode mt.2.1 pc = .ok (.invokestatic idx, 3)) (hlk : zLk mt.1.cls idx y) (hy : zYs y n) (hn : As.length = n) (hdp : dy + 1 ≤ d) (hst : (st.map fun v => v.category).sum ≤ 8) (hs : Spec lay y dy As μ Qy)
    (k : ∀ r μ', Qy r μ' → ZW lay mt d Q (pc + 3) L (r.toList ++ st) μ') : ZW lay mt d Q pc L (As.reverse ++ st) μ := by
  intro p l e s m args below meth c D ca ad A H locs ls G hP hD hS hL
  obtain ⟨y1, y2, y3, y5, y6, y7⟩ := hy
  have hts := G.2.2.2.2.2.2.1
  have hM := hs l D ca ad H.size
  have hpre : PreS s H (va_Pc (As.map (zmv ad)) (fun U => U.heap.size = H.size ∧ va_P D vwCl (zws ad ca μ 0 lay) U.heap ∧ va_K D vwCl (ztys ca) U ∧ va_D (fun _ => True) (zws ad ca μ 0 lay) ∧ ∀ w ∈ znest, va_Nw w U)) (As.map (zmv ad)) :=
    ⟨zblind, fun U hU hW => ⟨rfl, by rw [hU], by rw [hU]; exact hP, va_K.moved hW.alike G.2.2.2.2.2.2.2.2.1, hD.weaken (fun _ _ _ _ => trivial), znest_warm hW G.2.2.2.2.2.2.2.1⟩⟩
  have hstk : (As.reverse ++ st).map (zmv ad) = (As.map (zmv ad)).reverse ++ st.map (zmv ad) := by
    rw [List.map_append, List.map_reverse]
  rw [hstk]
  refine z_run (y := y) (dy := dy) (Qy := Qy) (rest := st) (a := (As.map (zmv ad)).toArray) G hD hS hL ?_ k
  rcases hlk with h | ⟨host, h⟩
  · exact va_runS ⟨G.1, G.2.1, G.2.2.2.1, G.2.2.2.2.1, hts⟩ hM ⟨⟨rfl, rfl, (zroom_le hdp y7).1, (zroom_le hdp y7).2, pay_in hts (zgood y1), List.mem_cons_self, hts _ y1, hts _ y2, y5, zdesc y6, hts _ h⟩, hts _ y3⟩ hpre rfl (by rw [List.length_map]; exact hn) hL.1.1 rfl (by show 2 * 0 + _ ≤ 8; rw [zcats]; omega) hd ⟨Nat.le_refl _, Nat.le_refl _⟩
  · exact va_runSN ⟨G.1, G.2.1, G.2.2.2.1, G.2.2.2.2.1, hts⟩ hM ⟨⟨⟨rfl, rfl, (zroom_le hdp y7).1, (zroom_le hdp y7).2, pay_in hts (zgood y1), List.mem_cons_self⟩, hts _ y1, hts _ y2, y5, zdesc y6, va_Nw.use rfl (G.2.2.2.2.2.2.2.1 _ h)⟩, hts _ y3, trivial⟩ hpre rfl (by rw [List.length_map]; exact hn) hL.1.1 rfl (by show 2 * 0 + _ ≤ 8; rw [zcats]; omega) hd ⟨Nat.le_refl _, Nat.le_refl _⟩
/-- the contract that says the answer and the memory behind it -/
def Sp (lay : List ZE) (mt : ZM) (d : Nat) (as : List Value) (μ : ZMem) (v : Option Value) (μ' : ZMem) : Prop := Spec lay mt d as μ (fun r m => r = v ∧ m = μ')
theorem z_cV0r {y : ZM} {b ci idx dy : Nat} {ks : List ZK} {v : Value} {μ' : ZMem} (hd : decode mt.2.1 pc = .ok (.invokevirtual idx, 3)) (hlk : zLk mt.1.cls idx y) (hy : zYv y 0) (hl : lay[b]? = some (.inr (ci, ks))) (hc : (vwCl[ci]?).map (fun q => q.1) = some y.1.cls) (hdp : dy + 1 ≤ d) (hst : (st.map fun v => v.category).sum ≤ 8) (hs : Sp lay y dy (.ref b :: []) μ (some v) μ')
    (k : ZW lay mt d Q (pc + 3) L (v :: st) μ') : ZW lay mt d Q pc L (.ref b :: st) μ :=
  z_callV (As := []) hd hlk hy hl hc rfl hdp hst hs (fun r m h => by obtain ⟨rfl, rfl⟩ := h; exact k)
theorem z_cS0r {y : ZM} {idx dy : Nat} {v : Value} {μ' : ZMem} (hd : decode mt.2.1 pc = .ok (.invokestatic idx, 3)) (hlk : zLk mt.1.cls idx y) (hy : zYs y 0) (hdp : dy + 1 ≤ d) (hst : (st.map fun v => v.category).sum ≤ 8) (hs : Sp lay y dy [] μ (some v) μ')
    (k : ZW lay mt d Q (pc + 3) L (v :: st) μ') : ZW lay mt d Q pc L (st) μ :=
  z_callS (As := []) hd hlk hy rfl hdp hst hs (fun r m h => by obtain ⟨rfl, rfl⟩ := h; exact k)
theorem z_cV0v {y : ZM} {b ci idx dy : Nat} {ks : List ZK} {μ' : ZMem} (hd : decode mt.2.1 pc = .ok (.invokevirtual idx, 3)) (hlk : zLk mt.1.cls idx y) (hy : zYv y 0) (hl : lay[b]? = some (.inr (ci, ks))) (hc : (vwCl[ci]?).map (fun q => q.1) = some y.1.cls) (hdp : dy + 1 ≤ d) (hst : (st.map fun v => v.category).sum ≤ 8) (hs : Sp lay y dy (.ref b :: []) μ none μ')
    (k : ZW lay mt d Q (pc + 3) L (st) μ') : ZW lay mt d Q pc L (.ref b :: st) μ :=
  z_callV (As := []) hd hlk hy hl hc rfl hdp hst hs (fun r m h => by obtain ⟨rfl, rfl⟩ := h; exact k)
theorem z_cS0v {y : ZM} {idx dy : Nat} {μ' : ZMem} (hd : decode mt.2.1 pc = .ok (.invokestatic idx, 3)) (hlk : zLk mt.1.cls idx y) (hy : zYs y 0) (hdp : dy + 1 ≤ d) (hst : (st.map fun v => v.category).sum ≤ 8) (hs : Sp lay y dy [] μ none μ')
    (k : ZW lay mt d Q (pc + 3) L (st) μ') : ZW lay mt d Q pc L (st) μ :=
  z_callS (As := []) hd hlk hy rfl hdp hst hs (fun r m h => by obtain ⟨rfl, rfl⟩ := h; exact k)
theorem z_cV1r {y : ZM} {b ci idx dy : Nat} {ks : List ZK} {a1 : Value} {v : Value} {μ' : ZMem} (hd : decode mt.2.1 pc = .ok (.invokevirtual idx, 3)) (hlk : zLk mt.1.cls idx y) (hy : zYv y 1) (hl : lay[b]? = some (.inr (ci, ks))) (hc : (vwCl[ci]?).map (fun q => q.1) = some y.1.cls) (hdp : dy + 1 ≤ d) (hst : (st.map fun v => v.category).sum ≤ 8) (hs : Sp lay y dy (.ref b :: [a1]) μ (some v) μ')
    (k : ZW lay mt d Q (pc + 3) L (v :: st) μ') : ZW lay mt d Q pc L (a1 :: .ref b :: st) μ :=
  z_callV (As := [a1]) hd hlk hy hl hc rfl hdp hst hs (fun r m h => by obtain ⟨rfl, rfl⟩ := h; exact k)
theorem z_cS1r {y : ZM} {idx dy : Nat} {a1 : Value} {v : Value} {μ' : ZMem} (hd : decode mt.2.1 pc = .ok (.invokestatic idx, 3)) (hlk : zLk mt.1.cls idx y) (hy : zYs y 1) (hdp : dy + 1 ≤ d) (hst : (st.map fun v => v.category).sum ≤ 8) (hs : Sp lay y dy [a1] μ (some v) μ')
    (k : ZW lay mt d Q (pc + 3) L (v :: st) μ') : ZW lay mt d Q pc L (a1 :: st) μ :=
  z_callS (As := [a1]) hd hlk hy rfl hdp hst hs (fun r m h => by obtain ⟨rfl, rfl⟩ := h; exact k)
theorem z_cV1v {y : ZM} {b ci idx dy : Nat} {ks : List ZK} {a1 : Value} {μ' : ZMem} (hd : decode mt.2.1 pc = .ok (.invokevirtual idx, 3)) (hlk : zLk mt.1.cls idx y) (hy : zYv y 1) (hl : lay[b]? = some (.inr (ci, ks))) (hc : (vwCl[ci]?).map (fun q => q.1) = some y.1.cls) (hdp : dy + 1 ≤ d) (hst : (st.map fun v => v.category).sum ≤ 8) (hs : Sp lay y dy (.ref b :: [a1]) μ none μ')
    (k : ZW lay mt d Q (pc + 3) L (st) μ') : ZW lay mt d Q pc L (a1 :: .ref b :: st) μ :=
  z_callV (As := [a1]) hd hlk hy hl hc rfl hdp hst hs (fun r m h => by obtain ⟨rfl, rfl⟩ := h; exact k)
theorem z_cS1v {y : ZM} {idx dy : Nat} {a1 : Value} {μ' : ZMem} (hd : decode mt.2.1 pc = .ok (.invokestatic idx, 3)) (hlk : zLk mt.1.cls idx y) (hy : zYs y 1) (hdp : dy + 1 ≤ d) (hst : (st.map fun v => v.category).sum ≤ 8) (hs : Sp lay y dy [a1] μ none μ')
    (k : ZW lay mt d Q (pc + 3) L (st) μ') : ZW lay mt d Q pc L (a1 :: st) μ :=
  z_callS (As := [a1]) hd hlk hy rfl hdp hst hs (fun r m h => by obtain ⟨rfl, rfl⟩ := h; exact k)
theorem z_cV2r {y : ZM} {b ci idx dy : Nat} {ks : List ZK} {a1 a2 : Value} {v : Value} {μ' : ZMem} (hd : decode mt.2.1 pc = .ok (.invokevirtual idx, 3)) (hlk : zLk mt.1.cls idx y) (hy : zYv y 2) (hl : lay[b]? = some (.inr (ci, ks))) (hc : (vwCl[ci]?).map (fun q => q.1) = some y.1.cls) (hdp : dy + 1 ≤ d) (hst : (st.map fun v => v.category).sum ≤ 8) (hs : Sp lay y dy (.ref b :: [a1, a2]) μ (some v) μ')
    (k : ZW lay mt d Q (pc + 3) L (v :: st) μ') : ZW lay mt d Q pc L (a2 :: a1 :: .ref b :: st) μ :=
  z_callV (As := [a1, a2]) hd hlk hy hl hc rfl hdp hst hs (fun r m h => by obtain ⟨rfl, rfl⟩ := h; exact k)
theorem z_cS2r {y : ZM} {idx dy : Nat} {a1 a2 : Value} {v : Value} {μ' : ZMem} (hd : decode mt.2.1 pc = .ok (.invokestatic idx, 3)) (hlk : zLk mt.1.cls idx y) (hy : zYs y 2) (hdp : dy + 1 ≤ d) (hst : (st.map fun v => v.category).sum ≤ 8) (hs : Sp lay y dy [a1, a2] μ (some v) μ')
    (k : ZW lay mt d Q (pc + 3) L (v :: st) μ') : ZW lay mt d Q pc L (a2 :: a1 :: st) μ :=
  z_callS (As := [a1, a2]) hd hlk hy rfl hdp hst hs (fun r m h => by obtain ⟨rfl, rfl⟩ := h; exact k)
theorem z_cV2v {y : ZM} {b ci idx dy : Nat} {ks : List ZK} {a1 a2 : Value} {μ' : ZMem} (hd : decode mt.2.1 pc = .ok (.invokevirtual idx, 3)) (hlk : zLk mt.1.cls idx y) (hy : zYv y 2) (hl : lay[b]? = some (.inr (ci, ks))) (hc : (vwCl[ci]?).map (fun q => q.1) = some y.1.cls) (hdp : dy + 1 ≤ d) (hst : (st.map fun v => v.category).sum ≤ 8) (hs : Sp lay y dy (.ref b :: [a1, a2]) μ none μ')
    (k : ZW lay mt d Q (pc + 3) L (st) μ') : ZW lay mt d Q pc L (a2 :: a1 :: .ref b :: st) μ :=
  z_callV (As := [a1, a2]) hd hlk hy hl hc rfl hdp hst hs (fun r m h => by obtain ⟨rfl, rfl⟩ := h; exact k)
theorem z_cS2v {y : ZM} {idx dy : Nat} {a1 a2 : Value} {μ' : ZMem} (hd : decode mt.2.1 pc = .ok (.invokestatic idx, 3)) (hlk : zLk mt.1.cls idx y) (hy : zYs y 2) (hdp : dy + 1 ≤ d) (hst : (st.map fun v => v.category).sum ≤ 8) (hs : Sp lay y dy [a1, a2] μ none μ')
    (k : ZW lay mt d Q (pc + 3) L (st) μ') : ZW lay mt d Q pc L (a2 :: a1 :: st) μ :=
  z_callS (As := [a1, a2]) hd hlk hy rfl hdp hst hs (fun r m h => by obtain ⟨rfl, rfl⟩ := h; exact k)
theorem z_cV3r {y : ZM} {b ci idx dy : Nat} {ks : List ZK} {a1 a2 a3 : Value} {v : Value} {μ' : ZMem} (hd : decode mt.2.1 pc = .ok (.invokevirtual idx, 3)) (hlk : zLk mt.1.cls idx y) (hy : zYv y 3) (hl : lay[b]? = some (.inr (ci, ks))) (hc : (vwCl[ci]?).map (fun q => q.1) = some y.1.cls) (hdp : dy + 1 ≤ d) (hst : (st.map fun v => v.category).sum ≤ 8) (hs : Sp lay y dy (.ref b :: [a1, a2, a3]) μ (some v) μ')
    (k : ZW lay mt d Q (pc + 3) L (v :: st) μ') : ZW lay mt d Q pc L (a3 :: a2 :: a1 :: .ref b :: st) μ :=
  z_callV (As := [a1, a2, a3]) hd hlk hy hl hc rfl hdp hst hs (fun r m h => by obtain ⟨rfl, rfl⟩ := h; exact k)
theorem z_cS3r {y : ZM} {idx dy : Nat} {a1 a2 a3 : Value} {v : Value} {μ' : ZMem} (hd : decode mt.2.1 pc = .ok (.invokestatic idx, 3)) (hlk : zLk mt.1.cls idx y) (hy : zYs y 3) (hdp : dy + 1 ≤ d) (hst : (st.map fun v => v.category).sum ≤ 8) (hs : Sp lay y dy [a1, a2, a3] μ (some v) μ')
    (k : ZW lay mt d Q (pc + 3) L (v :: st) μ') : ZW lay mt d Q pc L (a3 :: a2 :: a1 :: st) μ :=
  z_callS (As := [a1, a2, a3]) hd hlk hy rfl hdp hst hs (fun r m h => by obtain ⟨rfl, rfl⟩ := h; exact k)
theorem z_cV3v {y : ZM} {b ci idx dy : Nat} {ks : List ZK} {a1 a2 a3 : Value} {μ' : ZMem} (hd : decode mt.2.1 pc = .ok (.invokevirtual idx, 3)) (hlk : zLk mt.1.cls idx y) (hy : zYv y 3) (hl : lay[b]? = some (.inr (ci, ks))) (hc : (vwCl[ci]?).map (fun q => q.1) = some y.1.cls) (hdp : dy + 1 ≤ d) (hst : (st.map fun v => v.category).sum ≤ 8) (hs : Sp lay y dy (.ref b :: [a1, a2, a3]) μ none μ')
    (k : ZW lay mt d Q (pc + 3) L (st) μ') : ZW lay mt d Q pc L (a3 :: a2 :: a1 :: .ref b :: st) μ :=
  z_callV (As := [a1, a2, a3]) hd hlk hy hl hc rfl hdp hst hs (fun r m h => by obtain ⟨rfl, rfl⟩ := h; exact k)
theorem z_cS3v {y : ZM} {idx dy : Nat} {a1 a2 a3 : Value} {μ' : ZMem} (hd : decode mt.2.1 pc = .ok (.invokestatic idx, 3)) (hlk : zLk mt.1.cls idx y) (hy : zYs y 3) (hdp : dy + 1 ≤ d) (hst : (st.map fun v => v.category).sum ≤ 8) (hs : Sp lay y dy [a1, a2, a3] μ none μ')
    (k : ZW lay mt d Q (pc + 3) L (st) μ') : ZW lay mt d Q pc L (a3 :: a2 :: a1 :: st) μ :=
  z_callS (As := [a1, a2, a3]) hd hlk hy rfl hdp hst hs (fun r m h => by obtain ⟨rfl, rfl⟩ := h; exact k)
end ZR
/-- a loop, from its end back -/
theorem zdown {P : Nat → Prop} (n : Nat) (he : P n) (hs : ∀ k, k < n → P (k + 1) → P k) : ∀ k, k ≤ n → P k := by
  intro k hk
  obtain ⟨j, rfl⟩ : ∃ j, n = k + j := ⟨n - k, by omega⟩
  induction j generalizing k with
  | zero => exact he
  | succ j ih => exact hs k (by omega) (ih (k + 1) (by rw [show k + 1 + j = k + (j + 1) by omega]; exact he) (fun i hi h => hs i (by omega) h) (by omega))
end
section
/-! ===== the two layouts, folds, and how a contract is begun ===== -/
def zkMo (b : Nat) : List ZK := [(2, b + 1), (2, b + 2), (2, b + 3), (2, b + 4), (2, b + 5), (2, b + 6), (0, 0), (0, 0), (0, 0), (0, 0), (0, 0)]
def zkDu (b : Nat) : List ZK := [(2, b + 1), (2, b + 2), (2, b + 3), (0, 0), (0, 0), (0, 0), (0, 0), (0, 0), (0, 0)]
def layC : List ZE := [
  .inr (3, [(2, 1), (3, 0), (3, 0), (2, 11), (2, 18), (2, 25), (2, 32), (0, 0), (2, 33), (2, 34), (1, 0)]),
  .inr (2, [(2, 2), (0, 0), (0, 0), (0, 0), (0, 0), (0, 0)]), .inl (0, 200),
  .inr (0, [(2, 4), (2, 5), (2, 6), (0, 0), (0, 0), (0, 0), (0, 0), (0, 0), (0, 0)]), .inl (0, 8), .inl (0, 8), .inl (0, 5),
  .inr (0, [(2, 8), (2, 9), (2, 10), (0, 0), (0, 0), (0, 0), (0, 0), (0, 0), (0, 0)]), .inl (0, 8), .inl (0, 8), .inl (0, 5),
  .inr (1, [(2, 12), (2, 13), (2, 14), (2, 15), (2, 16), (2, 17), (0, 0), (0, 0), (0, 0), (0, 0), (0, 0)]), .inl (0, 30), .inl (0, 30), .inl (0, 30), .inl (0, 30), .inl (0, 30), .inl (0, 30),
  .inr (1, [(2, 19), (2, 20), (2, 21), (2, 22), (2, 23), (2, 24), (0, 0), (0, 0), (0, 0), (0, 0), (0, 0)]), .inl (0, 30), .inl (0, 30), .inl (0, 30), .inl (0, 30), .inl (0, 30), .inl (0, 30),
  .inr (1, [(2, 26), (2, 27), (2, 28), (2, 29), (2, 30), (2, 31), (0, 0), (0, 0), (0, 0), (0, 0), (0, 0)]), .inl (0, 30), .inl (0, 30), .inl (0, 30), .inl (0, 30), .inl (0, 30), .inl (0, 30),
  .inl (0, 8), .inl (0, 8), .inl (0, 256)]
def layM : List ZE := [
  .inr (4, [(1, 0), (2, 1), (0, 0), (2, 2), (2, 3), (2, 4), (2, 5), (2, 6), (2, 7), (2, 8), (0, 0), (0, 0), (0, 0), (0, 0), (0, 0), (0, 0), (2, 9), (2, 10), (2, 11), (2, 12), (0, 0), (2, 13)]),
  .inl (1, 200), .inl (0, 2), .inl (0, 16), .inl (0, 16), .inl (0, 2), .inl (0, 2), .inl (0, 10), .inl (0, 2), .inl (0, 441), .inl (2, 2), .inl (0, 6), .inl (0, 6), .inl (0, 256)]
theorem Sp.mk {lay : List ZE} {mt : ZM} {d : Nat} {as : List Value} {μ μ' : ZMem} {v : Option Value} {L : List (Option Value)} (hL : zloc mt.2.2.1 as = L) (hpl : plainName mt.1.cls = true) (hc : (as.all fun v => v.category == 1) = true) (hn : Nat.ble as.length mt.2.2.1 = true)
    (h : ∀ Q : Option Value → ZMem → Prop, Q v μ' → ZW lay mt d Q 0 L [] μ) : Sp lay mt d as μ v μ' := by
  subst hL
  exact Spec.of hpl (fun v hv => by simpa using List.all_eq_true.mp hc v hv) (Nat.le_of_ble_eq_true hn) (h _ ⟨rfl, rfl⟩)
theorem Sp.eq {lay : List ZE} {mt : ZM} {d : Nat} {as : List Value} {μ μ' μ'' : ZMem} {v v' : Option Value} (h : Sp lay mt d as μ v μ') (hv : v = v') (hm : μ' = μ'') : Sp lay mt d as μ v' μ'' := by
  subst hv; subst hm; exact h
/-- the numbers 0 .. n - 1 gone through, one behind another -/
def zfold (g : Nat → Int32 → Int32) (a : Int32) : Nat → Int32
  | 0 => a
  | k + 1 => g k (zfold g a k)
theorem zfold_congr {g g' : Nat → Int32 → Int32} {a : Int32} : ∀ {n : Nat}, (∀ k, k < n → ∀ x, g k x = g' k x) → zfold g a n = zfold g' a n := by
  intro n
  induction n with
  | zero => intro _; rfl
  | succ n ih =>
    intro h
    show g n (zfold g a n) = g' n (zfold g' a n)
    rw [ih (fun k hk x => h k (by omega) x), h n (by omega)]
/-- the first of m numbers from k on that has p; -9: none -/
def zff (p : Nat → Bool) : Nat → Nat → Int32
  | _, 0 => -9
  | k, m + 1 => if p k = true then nI k else zff p (k + 1) m
theorem zff_congr {p p' : Nat → Bool} : ∀ {m k : Nat}, (∀ j, k ≤ j → j < k + m → p j = p' j) → zff p k m = zff p' k m := by
  intro m
  induction m with
  | zero => intro k _; rfl
  | succ m ih =>
    intro k h
    show (if p k = true then nI k else zff p (k + 1) m) = (if p' k = true then nI k else zff p' (k + 1) m)
    rw [h k (Nat.le_refl k) (by omega), ih (k := k + 1) (fun j h1 h2 => h j (by omega) (by omega))]
theorem zff_step {p : Nat → Bool} {n k : Nat} (hk : k < n) : zff p k (n - k) = if p k = true then nI k else zff p (k + 1) (n - (k + 1)) := by
  rw [show n - k = (n - (k + 1)) + 1 by omega]; rfl
theorem zff_end {p : Nat → Bool} {n : Nat} : zff p n (n - n) = -9 := by rw [Nat.sub_self]; rfl
/-- the last of the numbers below n that has p; -9: none -/
def zlf (p : Nat → Bool) : Nat → Int32
  | 0 => -9
  | m + 1 => if p m = true then nI m else zlf p m
theorem zlf_congr {p p' : Nat → Bool} : ∀ {n : Nat}, (∀ j, j < n → p j = p' j) → zlf p n = zlf p' n := by
  intro n
  induction n with
  | zero => intro _; rfl
  | succ n ih =>
    intro h
    show (if p n = true then nI n else zlf p n) = (if p' n = true then nI n else zlf p' n)
    rw [h n (by omega), ih (fun j hj => h j (by omega))]
theorem z_if_eqb {lay : List ZE} {mt : ZM} {d : Nat} {Q : Option Value → ZMem → Prop} {pc : Nat} {L : List (Option Value)} {st : List Value} {μ : ZMem} {c : Prop} [Decidable c] {off : Int} {tgt : Nat} (hd : decode mt.2.1 pc = .ok (.ifCond .eq off, 3)) (ht : (pc : Int) + off = (tgt : Int)) (kt : ¬ c → ZW lay mt d Q tgt L st μ) (kf : c → ZW lay mt d Q (pc + 3) L st μ) : ZW lay mt d Q pc L (.int (if c then 1 else 0) :: st) μ := by
  by_cases hc : c
  · rw [if_pos hc]; exact z_if_eq hd ht (fun h => absurd h (by decide)) (fun _ => kf hc)
  · rw [if_neg hc]; exact z_if_eq hd ht (fun _ => kt hc) (fun h => absurd rfl h)
theorem z_if_neb {lay : List ZE} {mt : ZM} {d : Nat} {Q : Option Value → ZMem → Prop} {pc : Nat} {L : List (Option Value)} {st : List Value} {μ : ZMem} {c : Prop} [Decidable c] {off : Int} {tgt : Nat} (hd : decode mt.2.1 pc = .ok (.ifCond .ne off, 3)) (ht : (pc : Int) + off = (tgt : Int)) (kt : c → ZW lay mt d Q tgt L st μ) (kf : ¬ c → ZW lay mt d Q (pc + 3) L st μ) : ZW lay mt d Q pc L (.int (if c then 1 else 0) :: st) μ := by
  by_cases hc : c
  · rw [if_pos hc]; exact z_if_ne hd ht (fun _ => kt hc) (fun h => absurd h (by decide))
  · rw [if_neg hc]; exact z_if_ne hd ht (fun h => absurd rfl h) (fun _ => kf hc)
theorem zsub1 (x : Int32) : x + (-1) = x - 1 := (Int32.sub_eq_add_neg x 1).symm
theorem z1ne : ¬ (1 : Int32) = 0 := by decide
theorem z0eq : (0 : Int32) = 0 := rfl
theorem z_min {lay : List ZE} {mt : ZM} {d : Nat} {Q : Option Value → ZMem → Prop} {pc : Nat} {L : List (Option Value)} {st : List Value} {μ : ZMem} {idx : Nat} {x y : Int32} (hd : decode mt.2.1 pc = .ok (.invokestatic idx, 3)) (hlk : Cond.methodLink mt.1.cls idx ⟨"java/lang/Math", "min", "(II)I"⟩ ∈ ztbl) (hdp : 1 ≤ d) (hst : (st.map fun v => v.category).sum ≤ 8) (k : ZW lay mt d Q (pc + 3) L (.int (if y < x then y else x) :: st) μ) : ZW lay mt d Q pc L (.int y :: .int x :: st) μ := by
  intro p l e s m args below meth c D ca ad A H locs ls G hP hD hS hL
  have hz := zcats ad st
  exact va_mmin G.1 G.2.1 (by rw [hL.1.1]; exact G.2.2.2.1) G.2.2.2.2.1 (G.2.2.2.2.2.2.1 _ hlk) (G.2.2.2.2.2.2.1 _ zm_1_219) (G.2.2.2.2.2.2.1 _ zm_1_6) (G.2.2.2.2.2.2.1 _ zm_1_220) hdp (by show _ + 13 ≤ d * 30; omega) (Nat.zero_le _) (Nat.zero_le _) hd (k p l e s m args below meth c D ca ad A H locs ls G hP hD hS hL)
end
section
/-! ===== AnswerSquare.Moment: the present one, at 11 ===== -/
/-- the present talk is n long -/
def zmN (μ : ZMem) (n : Nat) : Prop := μ.1 11 6 = nI n ∧ n ≤ 30
theorem sp_has_t {μ : ZMem} {n j : Nat} (h : zmN μ n) (hj : j < n) {i : Int32} (hi : i = nI j) : Sp layC mX1_has 0 [.ref 11, .int i] μ (some (.int 1)) μ := by
  obtain ⟨hn, h30⟩ := h
  subst hi
  refine Sp.mk (L := [some (.ref 11), some (.int (nI j))]) rfl (by decide +kernel) rfl rfl (fun Q hQ => ?_)
  refine z_iload_n dX1_has_0 rfl ?_
  refine z_if_lt (tgt := 22) dX1_has_1 (by decide) (fun hx_ => absurd hx_ (nI_pos (by omega))) (fun _ => ?_)
  refine z_iload_n dX1_has_4 rfl ?_
  refine z_aload_n dX1_has_5 rfl ?_
  refine z_getI dX1_has_6 zf_X1_30 (by first | rfl | assumption) rfl ?_
  refine z_icmp_ge (tgt := 22) dX1_has_9 (by decide) (fun hx_ => absurd hx_ (by rw [hn]; exact nI_ge hj (by omega))) (fun _ => ?_)
  refine z_iload_n dX1_has_12 rfl ?_
  refine z_bipush (v := 30) dX1_has_13 (by decide) ?_
  refine z_icmp_ge (tgt := 22) dX1_has_15 (by decide) (fun hx_ => absurd hx_ (nI_ge (b := 30) (by omega) (by decide))) (fun _ => ?_)
  refine z_iconst (v := 1) dX1_has_18 (by decide) ?_
  refine z_goto (tgt := 23) dX1_has_19 (by decide) ?_
  refine z_zret dX1_has_23 rfl (by decide) ?_
  exact hQ
theorem sp_has_f {μ : ZMem} {n : Nat} (h : zmN μ n) {i : Int32} (hi : i < 0 ∨ nI n ≤ i) : Sp layC mX1_has 0 [.ref 11, .int i] μ (some (.int 0)) μ := by
  obtain ⟨hn, h30⟩ := h
  refine Sp.mk (L := [some (.ref 11), some (.int i)]) rfl (by decide +kernel) rfl rfl (fun Q hQ => ?_)
  refine z_iload_n dX1_has_0 rfl ?_
  refine z_if_lt (tgt := 22) dX1_has_1 (by decide) (fun hb1 => ?_) (fun hb1 => ?_)
  · refine z_iconst (v := 0) dX1_has_22 (by decide) ?_
    refine z_zret dX1_has_23 rfl (by decide) ?_
    exact hQ
  · refine z_iload_n dX1_has_4 rfl ?_
    refine z_aload_n dX1_has_5 rfl ?_
    refine z_getI dX1_has_6 zf_X1_30 (by first | rfl | assumption) rfl ?_
    refine z_icmp_ge (tgt := 22) dX1_has_9 (by decide) (fun _ => ?_) (fun hx_ => absurd (by rw [hn]; exact hi.resolve_left hb1) hx_)
    refine z_iconst (v := 0) dX1_has_22 (by decide) ?_
    refine z_zret dX1_has_23 rfl (by decide) ?_
    exact hQ
theorem sp_timesIn {μ : ZMem} {n : Nat} (h : zmN μ n) (w : Int32) : Sp layC mX1_timesIn 0 [.ref 11, .int w] μ (some (.int (zfold (fun k a => if μ.1 12 k = w then a + 1 else a) 0 n))) μ := by
  obtain ⟨hn, h30⟩ := h
  refine Sp.mk (L := [some (.ref 11), some (.int w), none, none]) rfl (by decide +kernel) rfl rfl (fun Q hQ => ?_)
  refine z_iconst (v := 0) dX1_timesIn_0 (by decide) ?_
  refine z_istore_n (i := 2) dX1_timesIn_1 rfl (by decide) ?_
  refine z_iconst (v := 0) dX1_timesIn_2 (by decide) ?_
  refine z_istore_n (i := 3) dX1_timesIn_3 rfl (by decide) ?_
  refine zdown (P := fun k => ZW layC mX1_timesIn 0 Q 4 [some (.ref 11), some (.int w), some (.int (zfold (fun k a => if μ.1 12 k = w then a + 1 else a) 0 k)), some (.int (nI k))] [] μ) n ?_ ?_ 0 (Nat.zero_le n)
  · refine z_iload_n dX1_timesIn_4 rfl ?_
    refine z_aload_n dX1_timesIn_5 rfl ?_
    refine z_getI dX1_timesIn_6 zf_X1_30 (by first | rfl | assumption) rfl ?_
    refine z_icmp_ge (tgt := 31) dX1_timesIn_9 (by decide) (fun _ => ?_) (fun hx_ => absurd (by rw [hn]; exact Int32.le_refl _) hx_)
    refine z_iload_n dX1_timesIn_31 rfl ?_
    refine z_iret dX1_timesIn_32 rfl ?_
    exact hQ
  · intro k hk ih
    refine z_iload_n dX1_timesIn_4 rfl ?_
    refine z_aload_n dX1_timesIn_5 rfl ?_
    refine z_getI dX1_timesIn_6 zf_X1_30 (by first | rfl | assumption) rfl ?_
    refine z_icmp_ge (tgt := 31) dX1_timesIn_9 (by decide) (fun hx_ => absurd hx_ (by rw [hn]; exact nI_ge hk (by omega))) (fun _ => ?_)
    refine z_aload_n dX1_timesIn_12 rfl ?_
    refine z_getR dX1_timesIn_13 zf_X1_9 (by first | rfl | assumption) rfl ?_
    refine z_iload_n dX1_timesIn_16 rfl ?_
    refine z_iald dX1_timesIn_17 (by first | rfl | assumption) rfl (by first | assumption | omega | decide) (by decide) ?_
    refine z_iload_n dX1_timesIn_18 rfl ?_
    refine z_icmp_ne (tgt := 25) dX1_timesIn_19 (by decide) (fun hb19 => ?_) (fun hb19 => ?_)
    · refine z_iinc (v := 1) dX1_timesIn_25 rfl (by decide) (by decide) ?_
      refine z_goto (tgt := 4) dX1_timesIn_28 (by decide) ?_
      exact ZW.eq ih rfl (by simp [zfold, nI_succ, hb19])
    · refine z_iinc (v := 1) dX1_timesIn_22 rfl (by decide) (by decide) ?_
      refine z_iinc (v := 1) dX1_timesIn_25 rfl (by decide) (by decide) ?_
      refine z_goto (tgt := 4) dX1_timesIn_28 (by decide) ?_
      exact ZW.eq ih rfl (by simp [zfold, nI_succ, hb19])
theorem sp_timesBy {μ : ZMem} {n : Nat} (h : zmN μ n) (w : Int32) : Sp layC mX1_timesBy 0 [.ref 11, .int w] μ (some (.int (zfold (fun k a => if μ.1 14 k = w then a + 1 else a) 0 n))) μ := by
  obtain ⟨hn, h30⟩ := h
  refine Sp.mk (L := [some (.ref 11), some (.int w), none, none]) rfl (by decide +kernel) rfl rfl (fun Q hQ => ?_)
  refine z_iconst (v := 0) dX1_timesBy_0 (by decide) ?_
  refine z_istore_n (i := 2) dX1_timesBy_1 rfl (by decide) ?_
  refine z_iconst (v := 0) dX1_timesBy_2 (by decide) ?_
  refine z_istore_n (i := 3) dX1_timesBy_3 rfl (by decide) ?_
  refine zdown (P := fun k => ZW layC mX1_timesBy 0 Q 4 [some (.ref 11), some (.int w), some (.int (zfold (fun k a => if μ.1 14 k = w then a + 1 else a) 0 k)), some (.int (nI k))] [] μ) n ?_ ?_ 0 (Nat.zero_le n)
  · refine z_iload_n dX1_timesBy_4 rfl ?_
    refine z_aload_n dX1_timesBy_5 rfl ?_
    refine z_getI dX1_timesBy_6 zf_X1_30 (by first | rfl | assumption) rfl ?_
    refine z_icmp_ge (tgt := 31) dX1_timesBy_9 (by decide) (fun _ => ?_) (fun hx_ => absurd (by rw [hn]; exact Int32.le_refl _) hx_)
    refine z_iload_n dX1_timesBy_31 rfl ?_
    refine z_iret dX1_timesBy_32 rfl ?_
    exact hQ
  · intro k hk ih
    refine z_iload_n dX1_timesBy_4 rfl ?_
    refine z_aload_n dX1_timesBy_5 rfl ?_
    refine z_getI dX1_timesBy_6 zf_X1_30 (by first | rfl | assumption) rfl ?_
    refine z_icmp_ge (tgt := 31) dX1_timesBy_9 (by decide) (fun hx_ => absurd hx_ (by rw [hn]; exact nI_ge hk (by omega))) (fun _ => ?_)
    refine z_aload_n dX1_timesBy_12 rfl ?_
    refine z_getR dX1_timesBy_13 zf_X1_18 (by first | rfl | assumption) rfl ?_
    refine z_iload_n dX1_timesBy_16 rfl ?_
    refine z_iald dX1_timesBy_17 (by first | rfl | assumption) rfl (by first | assumption | omega | decide) (by decide) ?_
    refine z_iload_n dX1_timesBy_18 rfl ?_
    refine z_icmp_ne (tgt := 25) dX1_timesBy_19 (by decide) (fun hb19 => ?_) (fun hb19 => ?_)
    · refine z_iinc (v := 1) dX1_timesBy_25 rfl (by decide) (by decide) ?_
      refine z_goto (tgt := 4) dX1_timesBy_28 (by decide) ?_
      exact ZW.eq ih rfl (by simp [zfold, nI_succ, hb19])
    · refine z_iinc (v := 1) dX1_timesBy_22 rfl (by decide) (by decide) ?_
      refine z_iinc (v := 1) dX1_timesBy_25 rfl (by decide) (by decide) ?_
      refine z_goto (tgt := 4) dX1_timesBy_28 (by decide) ?_
      exact ZW.eq ih rfl (by simp [zfold, nI_succ, hb19])
/-- the first in talk that answers what i says; -9: none -/
def zfa (t : Nat → Int32) (n : Nat) (i : Int32) : Int32 := zff (fun k => decide (t k = i)) 0 n
theorem sp_firstAnswerTo {μ : ZMem} {n : Nat} (h : zmN μ n) (i : Int32) : Sp layC mX1_firstAnswerTo 0 [.ref 11, .int i] μ (some (.int (zfa (μ.1 15) n i))) μ := by
  obtain ⟨hn, h30⟩ := h
  refine Sp.mk (L := [some (.ref 11), some (.int i), none]) rfl (by decide +kernel) rfl rfl (fun Q hQ => ?_)
  refine z_iconst (v := 0) dX1_firstAnswerTo_0 (by decide) ?_
  refine z_istore_n (i := 2) dX1_firstAnswerTo_1 rfl (by decide) ?_
  unfold zfa at hQ
  generalize hp : (fun k => decide (μ.1 15 k = i)) = p at hQ
  refine zdown (P := fun k => zff p 0 n = zff p k (n - k) → ZW layC mX1_firstAnswerTo 0 Q 2 [some (.ref 11), some (.int i), some (.int (nI k))] [] μ) n ?_ ?_ 0 (Nat.zero_le n) rfl
  · intro e
    refine z_iload_n dX1_firstAnswerTo_2 rfl ?_
    refine z_aload_n dX1_firstAnswerTo_3 rfl ?_
    refine z_getI dX1_firstAnswerTo_4 zf_X1_30 (by first | rfl | assumption) rfl ?_
    refine z_icmp_ge (tgt := 28) dX1_firstAnswerTo_7 (by decide) (fun _ => ?_) (fun hx_ => absurd (by rw [hn]; exact Int32.le_refl _) hx_)
    refine z_bipush (v := -9) dX1_firstAnswerTo_28 (by decide) ?_
    refine z_iret dX1_firstAnswerTo_30 rfl ?_
    rw [e, zff_end] at hQ
    exact hQ
  · intro k hk ih e
    rw [zff_step hk] at e
    refine z_iload_n dX1_firstAnswerTo_2 rfl ?_
    refine z_aload_n dX1_firstAnswerTo_3 rfl ?_
    refine z_getI dX1_firstAnswerTo_4 zf_X1_30 (by first | rfl | assumption) rfl ?_
    refine z_icmp_ge (tgt := 28) dX1_firstAnswerTo_7 (by decide) (fun hx_ => absurd hx_ (by rw [hn]; exact nI_ge hk (by omega))) (fun _ => ?_)
    refine z_aload_n dX1_firstAnswerTo_10 rfl ?_
    refine z_getR dX1_firstAnswerTo_11 zf_X1_21 (by first | rfl | assumption) rfl ?_
    refine z_iload_n dX1_firstAnswerTo_14 rfl ?_
    refine z_iald dX1_firstAnswerTo_15 (by first | rfl | assumption) rfl (by first | assumption | omega | decide) (by decide) ?_
    refine z_iload_n dX1_firstAnswerTo_16 rfl ?_
    refine z_icmp_ne (tgt := 22) dX1_firstAnswerTo_17 (by decide) (fun hb17 => ?_) (fun hb17 => ?_)
    · refine z_iinc (v := 1) dX1_firstAnswerTo_22 rfl (by decide) (by decide) ?_
      refine z_goto (tgt := 2) dX1_firstAnswerTo_25 (by decide) ?_
      exact ZW.eq (ih (by rw [e, if_neg (by rw [← hp]; simp [hb17])])) rfl (by simp [nI_succ])
    · refine z_iload_n dX1_firstAnswerTo_20 rfl ?_
      refine z_iret dX1_firstAnswerTo_21 rfl ?_
      rw [e, if_pos (by rw [← hp]; simp [hb17])] at hQ
      exact hQ
theorem sp_isOpen {μ : ZMem} {n : Nat} (h : zmN μ n) (i : Int32) : Sp layC mX1_isOpen 1 [.ref 11, .int i] μ (some (.int (if zfa (μ.1 15) n i = -9 then 1 else 0))) μ := by
  refine Sp.mk (L := [some (.ref 11), some (.int i)]) rfl (by decide +kernel) rfl rfl (fun Q hQ => ?_)
  refine z_aload_n dX1_isOpen_0 rfl ?_
  refine z_iload_n dX1_isOpen_1 rfl ?_
  refine z_cV1r (dy := 0) dX1_isOpen_2 zl_X1_63 zy_X1_firstAnswerTo (by first | rfl | assumption) rfl (by decide) (Nat.le_of_ble_eq_true rfl) (sp_firstAnswerTo h i) ?_
  refine z_bipush (v := -9) dX1_isOpen_5 (by decide) ?_
  refine z_icmp_ne (tgt := 14) dX1_isOpen_7 (by decide) (fun hb7 => ?_) (fun hb7 => ?_)
  · refine z_iconst (v := 0) dX1_isOpen_14 (by decide) ?_
    refine z_zret dX1_isOpen_15 rfl (by decide) ?_
    first | (rw [if_pos hb7] at hQ; exact hQ) | (rw [if_neg hb7] at hQ; exact hQ)
  · refine z_iconst (v := 1) dX1_isOpen_10 (by decide) ?_
    refine z_goto (tgt := 15) dX1_isOpen_11 (by decide) ?_
    refine z_zret dX1_isOpen_15 rfl (by decide) ?_
    first | (rw [if_pos hb7] at hQ; exact hQ) | (rw [if_neg hb7] at hQ; exact hQ)
theorem sp_isThere {μ : ZMem} {n k : Nat} (h : zmN μ n) (hk : k < n) (ho old : Int32) : Sp layC mX1_isThere 1 [.ref 11, .int (nI k), .int ho, .int old] μ (some (.int (if μ.1 11 7 + ho - μ.1 13 k ≤ old then 1 else 0))) μ := by
  refine Sp.mk (L := [some (.ref 11), some (.int (nI k)), some (.int ho), some (.int old)]) rfl (by decide +kernel) rfl rfl (fun Q hQ => ?_)
  have h30 := h.2
  refine z_aload_n dX1_isThere_0 rfl ?_
  refine z_iload_n dX1_isThere_1 rfl ?_
  refine z_cV1r (dy := 0) dX1_isThere_2 zl_X1_49 zy_X1_has (by first | rfl | assumption) rfl (by decide) (Nat.le_of_ble_eq_true rfl) (sp_has_t h hk rfl) ?_
  refine z_if_eq (tgt := 29) dX1_isThere_5 (by decide) (fun hx_ => absurd hx_ (by decide)) (fun _ => ?_)
  refine z_aload_n dX1_isThere_8 rfl ?_
  refine z_getI dX1_isThere_9 zf_X1_34 (by first | rfl | assumption) rfl ?_
  refine z_iload_n dX1_isThere_12 rfl ?_
  refine z_iadd dX1_isThere_13 ?_
  refine z_aload_n dX1_isThere_14 rfl ?_
  refine z_getR dX1_isThere_15 zf_X1_15 (by first | rfl | assumption) rfl ?_
  refine z_iload_n dX1_isThere_18 rfl ?_
  refine z_iald dX1_isThere_19 (by first | rfl | assumption) rfl (by first | assumption | omega | decide) (by decide) ?_
  refine z_isub dX1_isThere_20 ?_
  refine z_iload_n dX1_isThere_21 rfl ?_
  refine z_icmp_gt (tgt := 29) dX1_isThere_22 (by decide) (fun hb22 => ?_) (fun hb22 => ?_)
  · refine z_iconst (v := 0) dX1_isThere_29 (by decide) ?_
    refine z_zret dX1_isThere_30 rfl (by decide) ?_
    first | (rw [if_neg (Int32.not_le.mpr hb22)] at hQ; exact hQ) | (rw [if_pos (Int32.not_lt.mp hb22)] at hQ; exact hQ)
  · refine z_iconst (v := 1) dX1_isThere_25 (by decide) ?_
    refine z_goto (tgt := 30) dX1_isThere_26 (by decide) ?_
    refine z_zret dX1_isThere_30 rfl (by decide) ?_
    first | (rw [if_neg (Int32.not_le.mpr hb22)] at hQ; exact hQ) | (rw [if_pos (Int32.not_lt.mp hb22)] at hQ; exact hQ)
/-- what is there (bits): of the first n in talk, said or heard not more than 'old' hours ahead of 'hr' -/
def zthere (wh at_ : Nat → Int32) (hr old : Int32) (n : Nat) : Int32 := zfold (fun k a => if hr - at_ k ≤ old then a ||| (1 <<< (wh k &&& 31)) else a) 0 n
theorem sp_there {μ : ZMem} {n : Nat} (h : zmN μ n) (ho old : Int32) : Sp layC mX1_there 2 [.ref 11, .int ho, .int old] μ (some (.int (zthere (μ.1 12) (μ.1 13) (μ.1 11 7 + ho) old n))) μ := by
  have hn := h.1
  have h30 := h.2
  refine Sp.mk (L := [some (.ref 11), some (.int ho), some (.int old), none, none]) rfl (by decide +kernel) rfl rfl (fun Q hQ => ?_)
  refine z_iconst (v := 0) dX1_there_0 (by decide) ?_
  refine z_istore_n (i := 3) dX1_there_1 rfl (by decide) ?_
  refine z_iconst (v := 0) dX1_there_2 (by decide) ?_
  refine z_istore dX1_there_3 (by decide) ?_
  refine zdown (P := fun k => ZW layC mX1_there 2 Q 5 [some (.ref 11), some (.int ho), some (.int old), some (.int (zthere (μ.1 12) (μ.1 13) (μ.1 11 7 + ho) old k)), some (.int (nI k))] [] μ) n ?_ ?_ 0 (Nat.zero_le n)
  · refine z_iload dX1_there_5 rfl ?_
    refine z_aload_n dX1_there_7 rfl ?_
    refine z_getI dX1_there_8 zf_X1_30 (by first | rfl | assumption) rfl ?_
    refine z_icmp_ge (tgt := 43) dX1_there_11 (by decide) (fun _ => ?_) (fun hx_ => absurd (by rw [hn]; exact Int32.le_refl _) hx_)
    refine z_iload_n dX1_there_43 rfl ?_
    refine z_iret dX1_there_44 rfl ?_
    exact hQ
  · intro k hk ih
    refine z_iload dX1_there_5 rfl ?_
    refine z_aload_n dX1_there_7 rfl ?_
    refine z_getI dX1_there_8 zf_X1_30 (by first | rfl | assumption) rfl ?_
    refine z_icmp_ge (tgt := 43) dX1_there_11 (by decide) (fun hx_ => absurd hx_ (by rw [hn]; exact nI_ge hk (by omega))) (fun _ => ?_)
    refine z_aload_n dX1_there_14 rfl ?_
    refine z_iload dX1_there_15 rfl ?_
    refine z_iload_n dX1_there_17 rfl ?_
    refine z_iload_n dX1_there_18 rfl ?_
    refine z_cV3r (dy := 1) dX1_there_19 zl_X1_67 zy_X1_isThere (by first | rfl | assumption) rfl (by decide) (Nat.le_of_ble_eq_true rfl) (sp_isThere h hk ho old) ?_
    refine z_if_eqb (tgt := 37) dX1_there_22 (by decide) (fun hb22 => ?_) (fun hb22 => ?_)
    · refine z_iinc (v := 1) dX1_there_37 rfl (by decide) (by decide) ?_
      refine z_goto (tgt := 5) dX1_there_40 (by decide) ?_
      exact ZW.eq ih rfl (by simp [zthere, zfold, nI_succ, hb22])
    · refine z_iload_n dX1_there_25 rfl ?_
      refine z_iconst (v := 1) dX1_there_26 (by decide) ?_
      refine z_aload_n dX1_there_27 rfl ?_
      refine z_getR dX1_there_28 zf_X1_9 (by first | rfl | assumption) rfl ?_
      refine z_iload dX1_there_31 rfl ?_
      refine z_iald dX1_there_33 (by first | rfl | assumption) rfl (by first | assumption | omega | decide) (by decide) ?_
      refine z_ishl dX1_there_34 ?_
      refine z_ior dX1_there_35 ?_
      refine z_istore_n (i := 3) dX1_there_36 rfl (by decide) ?_
      refine z_iinc (v := 1) dX1_there_37 rfl (by decide) (by decide) ?_
      refine z_goto (tgt := 5) dX1_there_40 (by decide) ?_
      exact ZW.eq ih rfl (by simp [zthere, zfold, nI_succ, hb22])
theorem sp_latestOf {μ : ZMem} {n : Nat} (h : zmN μ n) (set old : Int32) : Sp layC mX1_latestOf 2 [.ref 11, .int set, .int old] μ (some (.int (zlf (fun k => !decide (set &&& (1 <<< (μ.1 12 k &&& 31)) = 0) && decide (μ.1 11 7 + 0 - μ.1 13 k ≤ old)) n))) μ := by
  have hn := h.1
  have h30 := h.2
  refine Sp.mk (L := [some (.ref 11), some (.int set), some (.int old), none]) rfl (by decide +kernel) rfl rfl (fun Q hQ => ?_)
  refine z_aload_n dX1_latestOf_0 rfl ?_
  refine z_getI dX1_latestOf_1 zf_X1_30 (by first | rfl | assumption) rfl ?_
  refine z_iconst (v := 1) dX1_latestOf_4 (by decide) ?_
  refine z_isub dX1_latestOf_5 ?_
  refine z_istore_n (i := 3) dX1_latestOf_6 rfl (by decide) ?_
  generalize hp : (fun k => !decide (set &&& (1 <<< (μ.1 12 k &&& 31)) = 0) && decide (μ.1 11 7 + 0 - μ.1 13 k ≤ old)) = p at hQ
  have key : ∀ m, m ≤ n → zlf p n = zlf p m → ZW layC mX1_latestOf 2 Q 7 [some (.ref 11), some (.int set), some (.int old), some (.int (nI m - 1))] [] μ := by
    intro m
    induction m with
    | zero =>
      intro _ e
      refine z_iload_n dX1_latestOf_7 rfl ?_
      refine z_if_lt (tgt := 42) dX1_latestOf_8 (by decide) (fun _ => ?_) (fun hx_ => absurd (by decide) hx_)
      refine z_bipush (v := -9) dX1_latestOf_42 (by decide) ?_
      refine z_iret dX1_latestOf_44 rfl ?_
      rw [e] at hQ
      exact hQ
    | succ m ih =>
      intro hm e
      rw [nI_pred]
      have e' : zlf p n = if p m = true then nI m else zlf p m := e
      refine z_iload_n dX1_latestOf_7 rfl ?_
      refine z_if_lt (tgt := 42) dX1_latestOf_8 (by decide) (fun hx_ => absurd hx_ (nI_pos (by omega))) (fun _ => ?_)
      refine z_iload_n dX1_latestOf_11 rfl ?_
      refine z_iconst (v := 1) dX1_latestOf_12 (by decide) ?_
      refine z_aload_n dX1_latestOf_13 rfl ?_
      refine z_getR dX1_latestOf_14 zf_X1_9 (by first | rfl | assumption) rfl ?_
      refine z_iload_n dX1_latestOf_17 rfl ?_
      refine z_iald dX1_latestOf_18 (by first | rfl | assumption) rfl (show m < 30 by omega) (by decide) ?_
      refine z_ishl dX1_latestOf_19 ?_
      refine z_iand dX1_latestOf_20 ?_
      refine z_if_eq (tgt := 36) dX1_latestOf_21 (by decide) (fun hb21 => ?_) (fun hb21 => ?_)
      · refine z_iinc (v := -1) dX1_latestOf_36 rfl (by decide) (by decide) ?_
        refine z_goto (tgt := 7) dX1_latestOf_39 (by decide) ?_
        exact ZW.eq (ih (by omega) (by rw [e', if_neg (by rw [← hp]; first | (simp only [hb21, hb31]; decide) | (simp [hb21, hb31]; done) | (simp [hb21]; done))])) rfl (by simp only [zsub1]; rfl)
      · refine z_aload_n dX1_latestOf_24 rfl ?_
        refine z_iload_n dX1_latestOf_25 rfl ?_
        refine z_iconst (v := 0) dX1_latestOf_26 (by decide) ?_
        refine z_iload_n dX1_latestOf_27 rfl ?_
        refine z_cV3r (dy := 1) dX1_latestOf_28 zl_X1_67 zy_X1_isThere (by first | rfl | assumption) rfl (by decide) (Nat.le_of_ble_eq_true rfl) (sp_isThere h (by omega) 0 old) ?_
        refine z_if_eqb (tgt := 36) dX1_latestOf_31 (by decide) (fun hb31 => ?_) (fun hb31 => ?_)
        · refine z_iinc (v := -1) dX1_latestOf_36 rfl (by decide) (by decide) ?_
          refine z_goto (tgt := 7) dX1_latestOf_39 (by decide) ?_
          exact ZW.eq (ih (by omega) (by rw [e', if_neg (by rw [← hp]; first | (simp only [hb21, hb31]; decide) | (simp [hb21, hb31]; done) | (simp [hb21]; done))])) rfl (by simp only [zsub1]; rfl)
        · refine z_iload_n dX1_latestOf_34 rfl ?_
          refine z_iret dX1_latestOf_35 rfl ?_
          rw [e', if_pos (by rw [← hp]; simp only [hb21, hb31]; decide)] at hQ
          exact hQ
  exact ZW.eq (key n (Nat.le_refl n) rfl) rfl (by rw [← hn]; rfl)
theorem zff_cases (p : Nat → Bool) : ∀ (m k : Nat), zff p k m = -9 ∨ ∃ j, k ≤ j ∧ j < k + m ∧ zff p k m = nI j ∧ p j = true := by
  intro m
  induction m with
  | zero => intro k; exact Or.inl rfl
  | succ m ih =>
    intro k
    have e : zff p k (m + 1) = if p k = true then nI k else zff p (k + 1) m := rfl
    by_cases hp : p k = true
    · rw [e, if_pos hp]
      exact Or.inr ⟨k, Nat.le_refl k, by omega, rfl, hp⟩
    · rw [e, if_neg hp]
      rcases ih (k + 1) with h | ⟨j, h1, h2, h3, h4⟩
      · exact Or.inl h
      · exact Or.inr ⟨j, by omega, by omega, h3, h4⟩
theorem zfa_cases (t : Nat → Int32) (n : Nat) (i : Int32) : zfa t n i = -9 ∨ ∃ j, j < n ∧ zfa t n i = nI j ∧ t j = i := by
  rcases zff_cases (fun k => decide (t k = i)) n 0 with h | ⟨j, h1, h2, h3, h4⟩
  · exact Or.inl h
  · exact Or.inr ⟨j, by omega, h3, by simpa using h4⟩
theorem nI_ne9 {j : Nat} (h : j < 2 ^ 31) : ¬ nI j = -9 := by
  intro e
  have h1 := nI_toInt h
  rw [e] at h1
  have : (-9 : Int32).toInt = -9 := by decide
  omega
theorem sp_openOnes {μ : ZMem} {n : Nat} (h : zmN μ n) : Sp layC mX1_openOnes 2 [.ref 11] μ (some (.int (zfold (fun k a => if zfa (μ.1 15) n (nI k) = -9 then a + 1 else a) 0 n))) μ := by
  have hn := h.1
  have h30 := h.2
  refine Sp.mk (L := [some (.ref 11), none, none]) rfl (by decide +kernel) rfl rfl (fun Q hQ => ?_)
  refine z_iconst (v := 0) dX1_openOnes_0 (by decide) ?_
  refine z_istore_n (i := 1) dX1_openOnes_1 rfl (by decide) ?_
  refine z_iconst (v := 0) dX1_openOnes_2 (by decide) ?_
  refine z_istore_n (i := 2) dX1_openOnes_3 rfl (by decide) ?_
  refine zdown (P := fun k => ZW layC mX1_openOnes 2 Q 4 [some (.ref 11), some (.int (zfold (fun k a => if zfa (μ.1 15) n (nI k) = -9 then a + 1 else a) 0 k)), some (.int (nI k))] [] μ) n ?_ ?_ 0 (Nat.zero_le n)
  · refine z_iload_n dX1_openOnes_4 rfl ?_
    refine z_aload_n dX1_openOnes_5 rfl ?_
    refine z_getI dX1_openOnes_6 zf_X1_30 (by first | rfl | assumption) rfl ?_
    refine z_icmp_ge (tgt := 29) dX1_openOnes_9 (by decide) (fun _ => ?_) (fun hx_ => absurd (by rw [hn]; exact Int32.le_refl _) hx_)
    refine z_iload_n dX1_openOnes_29 rfl ?_
    refine z_iret dX1_openOnes_30 rfl ?_
    exact hQ
  · intro k hk ih
    refine z_iload_n dX1_openOnes_4 rfl ?_
    refine z_aload_n dX1_openOnes_5 rfl ?_
    refine z_getI dX1_openOnes_6 zf_X1_30 (by first | rfl | assumption) rfl ?_
    refine z_icmp_ge (tgt := 29) dX1_openOnes_9 (by decide) (fun hx_ => absurd hx_ (by rw [hn]; exact nI_ge hk (by omega))) (fun _ => ?_)
    refine z_aload_n dX1_openOnes_12 rfl ?_
    refine z_iload_n dX1_openOnes_13 rfl ?_
    refine z_cV1r (dy := 1) dX1_openOnes_14 zl_X1_71 zy_X1_isOpen (by first | rfl | assumption) rfl (by decide) (Nat.le_of_ble_eq_true rfl) (sp_isOpen h (nI k)) ?_
    refine z_if_eqb (tgt := 23) dX1_openOnes_17 (by decide) (fun hb17 => ?_) (fun hb17 => ?_)
    · refine z_iinc (v := 1) dX1_openOnes_23 rfl (by decide) (by decide) ?_
      refine z_goto (tgt := 4) dX1_openOnes_26 (by decide) ?_
      exact ZW.eq ih rfl (by simp [zfold, nI_succ, hb17])
    · refine z_iinc (v := 1) dX1_openOnes_20 rfl (by decide) (by decide) ?_
      refine z_iinc (v := 1) dX1_openOnes_23 rfl (by decide) (by decide) ?_
      refine z_goto (tgt := 4) dX1_openOnes_26 (by decide) ?_
      exact ZW.eq ih rfl (by simp [zfold, nI_succ, hb17])
theorem sp_lastOpen {μ : ZMem} {n : Nat} (h : zmN μ n) : Sp layC mX1_lastOpen 2 [.ref 11] μ (some (.int (zlf (fun k => decide (zfa (μ.1 15) n (nI k) = -9)) n))) μ := by
  have hn := h.1
  have h30 := h.2
  refine Sp.mk (L := [some (.ref 11), none]) rfl (by decide +kernel) rfl rfl (fun Q hQ => ?_)
  refine z_aload_n dX1_lastOpen_0 rfl ?_
  refine z_getI dX1_lastOpen_1 zf_X1_30 (by first | rfl | assumption) rfl ?_
  refine z_iconst (v := 1) dX1_lastOpen_4 (by decide) ?_
  refine z_isub dX1_lastOpen_5 ?_
  refine z_istore_n (i := 1) dX1_lastOpen_6 rfl (by decide) ?_
  generalize hp : (fun k => decide (zfa (μ.1 15) n (nI k) = -9)) = p at hQ
  have key : ∀ m, m ≤ n → zlf p n = zlf p m → ZW layC mX1_lastOpen 2 Q 7 [some (.ref 11), some (.int (nI m - 1))] [] μ := by
    intro m
    induction m with
    | zero =>
      intro _ e
      refine z_iload_n dX1_lastOpen_7 rfl ?_
      refine z_if_lt (tgt := 27) dX1_lastOpen_8 (by decide) (fun _ => ?_) (fun hx_ => absurd (by decide) hx_)
      refine z_bipush (v := -9) dX1_lastOpen_27 (by decide) ?_
      refine z_iret dX1_lastOpen_29 rfl ?_
      rw [e] at hQ
      exact hQ
    | succ m ih =>
      intro hm e
      rw [nI_pred]
      have e' : zlf p n = if p m = true then nI m else zlf p m := e
      refine z_iload_n dX1_lastOpen_7 rfl ?_
      refine z_if_lt (tgt := 27) dX1_lastOpen_8 (by decide) (fun hx_ => absurd hx_ (nI_pos (by omega))) (fun _ => ?_)
      refine z_aload_n dX1_lastOpen_11 rfl ?_
      refine z_iload_n dX1_lastOpen_12 rfl ?_
      refine z_cV1r (dy := 1) dX1_lastOpen_13 zl_X1_71 zy_X1_isOpen (by first | rfl | assumption) rfl (by decide) (Nat.le_of_ble_eq_true rfl) (sp_isOpen h (nI m)) ?_
      refine z_if_eqb (tgt := 21) dX1_lastOpen_16 (by decide) (fun hb16 => ?_) (fun hb16 => ?_)
      · refine z_iinc (v := -1) dX1_lastOpen_21 rfl (by decide) (by decide) ?_
        refine z_goto (tgt := 7) dX1_lastOpen_24 (by decide) ?_
        exact ZW.eq (ih (by omega) (by rw [e', if_neg (by rw [← hp]; simpa using hb16)])) rfl (by simp only [zsub1]; rfl)
      · refine z_iload_n dX1_lastOpen_19 rfl ?_
        refine z_iret dX1_lastOpen_20 rfl ?_
        rw [e', if_pos (by rw [← hp]; simpa using hb16)] at hQ
        exact hQ
  exact ZW.eq (key n (Nat.le_refl n) rfl) rfl (by rw [← hn]; rfl)
/-- which of the first k is farthest, the first of several -/
def zbst (f : Nat → Int32) : Nat → Nat
  | 0 => 0
  | k + 1 => if k = 0 then 0 else if f (zbst f k) < f k then k else zbst f k
theorem zbst_lt (f : Nat → Int32) : ∀ k, 0 < k → zbst f k < k := by
  intro k
  induction k with
  | zero => intro h; omega
  | succ k ih =>
    intro _
    show (if k = 0 then 0 else if f (zbst f k) < f k then k else zbst f k) < k + 1
    by_cases h0 : k = 0
    · rw [if_pos h0]; omega
    · rw [if_neg h0]
      have := ih (by omega)
      split <;> omega
theorem zbst_congr {f g : Nat → Int32} : ∀ {n : Nat}, (∀ k, k < n → f k = g k) → zbst f n = zbst g n := by
  intro n
  induction n with
  | zero => intro _; rfl
  | succ n ih =>
    intro h
    show (if n = 0 then 0 else if f (zbst f n) < f n then n else zbst f n) = (if n = 0 then 0 else if g (zbst g n) < g n then n else zbst g n)
    rw [ih (fun k hk => h k (by omega)), h n (by omega)]
    by_cases h0 : n = 0
    · rw [if_pos h0, if_pos h0]
    · rw [if_neg h0, if_neg h0, h _ (by have := zbst_lt g n (by omega); omega)]
theorem sp_farthest {μ : ZMem} {n : Nat} (h : zmN μ n) : Sp layC mX1_farthest 1 [.ref 11] μ (some (.int (if n = 0 then -9 else nI (zbst (μ.1 17) n)))) μ := by
  have hn := h.1
  have h30 := h.2
  refine Sp.mk (L := [some (.ref 11), none, none]) rfl (by decide +kernel) rfl rfl (fun Q hQ => ?_)
  refine z_bipush (v := -9) dX1_farthest_0 (by decide) ?_
  refine z_istore_n (i := 1) dX1_farthest_2 rfl (by decide) ?_
  refine z_iconst (v := 0) dX1_farthest_3 (by decide) ?_
  refine z_istore_n (i := 2) dX1_farthest_4 rfl (by decide) ?_
  refine zdown (P := fun k => ZW layC mX1_farthest 1 Q 5 [some (.ref 11), some (.int (if k = 0 then -9 else nI (zbst (μ.1 17) k))), some (.int (nI k))] [] μ) n ?_ ?_ 0 (Nat.zero_le n)
  · refine z_iload_n dX1_farthest_5 rfl ?_
    refine z_aload_n dX1_farthest_6 rfl ?_
    refine z_getI dX1_farthest_7 zf_X1_30 (by first | rfl | assumption) rfl ?_
    refine z_icmp_ge (tgt := 44) dX1_farthest_10 (by decide) (fun _ => ?_) (fun hx_ => absurd (by rw [hn]; exact Int32.le_refl _) hx_)
    refine z_iload_n dX1_farthest_44 rfl ?_
    refine z_iret dX1_farthest_45 rfl ?_
    exact hQ
  · intro k hk ih
    by_cases h0 : k = 0
    · subst h0
      refine z_iload_n dX1_farthest_5 rfl ?_
      refine z_aload_n dX1_farthest_6 rfl ?_
      refine z_getI dX1_farthest_7 zf_X1_30 (by first | rfl | assumption) rfl ?_
      refine z_icmp_ge (tgt := 44) dX1_farthest_10 (by decide) (fun hx_ => absurd hx_ (by rw [hn]; exact nI_ge hk (by omega))) (fun _ => ?_)
      refine z_aload_n dX1_farthest_13 rfl ?_
      refine z_iload_n dX1_farthest_14 rfl ?_
      refine z_cV1r (dy := 0) dX1_farthest_15 zl_X1_49 zy_X1_has (by first | rfl | assumption) rfl (by decide) (Nat.le_of_ble_eq_true rfl) (sp_has_f h (Or.inl (show (-9 : Int32) < 0 by decide))) ?_
      refine z_if_eq (tgt := 36) dX1_farthest_18 (by decide) (fun _ => ?_) (fun hx_ => absurd (rfl) hx_)
      refine z_iload_n dX1_farthest_36 rfl ?_
      refine z_istore_n (i := 1) dX1_farthest_37 rfl (by decide) ?_
      refine z_iinc (v := 1) dX1_farthest_38 rfl (by decide) (by decide) ?_
      refine z_goto (tgt := 5) dX1_farthest_41 (by decide) ?_
      exact ZW.eq ih rfl (by simp [zbst, nI_succ])
    · rw [if_neg h0]
      have hb := zbst_lt (μ.1 17) k (by omega)
      refine z_iload_n dX1_farthest_5 rfl ?_
      refine z_aload_n dX1_farthest_6 rfl ?_
      refine z_getI dX1_farthest_7 zf_X1_30 (by first | rfl | assumption) rfl ?_
      refine z_icmp_ge (tgt := 44) dX1_farthest_10 (by decide) (fun hx_ => absurd hx_ (by rw [hn]; exact nI_ge hk (by omega))) (fun _ => ?_)
      refine z_aload_n dX1_farthest_13 rfl ?_
      refine z_iload_n dX1_farthest_14 rfl ?_
      refine z_cV1r (dy := 0) dX1_farthest_15 zl_X1_49 zy_X1_has (by first | rfl | assumption) rfl (by decide) (Nat.le_of_ble_eq_true rfl) (sp_has_t h (show zbst (μ.1 17) k < n by omega) rfl) ?_
      refine z_if_eq (tgt := 36) dX1_farthest_18 (by decide) (fun hx_ => absurd hx_ (by decide)) (fun _ => ?_)
      refine z_aload_n dX1_farthest_21 rfl ?_
      refine z_getR dX1_farthest_22 zf_X1_27 (by first | rfl | assumption) rfl ?_
      refine z_iload_n dX1_farthest_25 rfl ?_
      refine z_iald dX1_farthest_26 (by first | rfl | assumption) rfl (by first | assumption | omega | decide) (by decide) ?_
      refine z_aload_n dX1_farthest_27 rfl ?_
      refine z_getR dX1_farthest_28 zf_X1_27 (by first | rfl | assumption) rfl ?_
      refine z_iload_n dX1_farthest_31 rfl ?_
      refine z_iald dX1_farthest_32 (by first | rfl | assumption) rfl (show zbst (μ.1 17) k < 30 by omega) (by decide) ?_
      refine z_icmp_le (tgt := 38) dX1_farthest_33 (by decide) (fun hb33 => ?_) (fun hb33 => ?_)
      · refine z_iinc (v := 1) dX1_farthest_38 rfl (by decide) (by decide) ?_
        refine z_goto (tgt := 5) dX1_farthest_41 (by decide) ?_
        exact ZW.eq ih rfl (by
          rw [if_neg (show ¬ k + 1 = 0 by omega), nI_succ]
          have e0 : zbst (μ.1 17) (k + 1) = if k = 0 then 0 else if μ.1 17 (zbst (μ.1 17) k) < μ.1 17 k then k else zbst (μ.1 17) k := rfl
          rw [e0, if_neg h0]
          first | (rw [if_neg (Int32.not_lt.mpr hb33)]; rfl) | (rw [if_pos (Int32.not_le.mp hb33)]; rfl))
      · refine z_iload_n dX1_farthest_36 rfl ?_
        refine z_istore_n (i := 1) dX1_farthest_37 rfl (by decide) ?_
        refine z_iinc (v := 1) dX1_farthest_38 rfl (by decide) (by decide) ?_
        refine z_goto (tgt := 5) dX1_farthest_41 (by decide) ?_
        exact ZW.eq ih rfl (by
          rw [if_neg (show ¬ k + 1 = 0 by omega), nI_succ]
          have e0 : zbst (μ.1 17) (k + 1) = if k = 0 then 0 else if μ.1 17 (zbst (μ.1 17) k) < μ.1 17 k then k else zbst (μ.1 17) k := rfl
          rw [e0, if_neg h0]
          first | (rw [if_neg (Int32.not_lt.mpr hb33)]; rfl) | (rw [if_pos (Int32.not_le.mp hb33)]; rfl))
/-- who said first what answers a sound, of each sound that is answered (bits) -/
def zfas (ro to_ by_ : Nat → Int32) (n : Nat) (m : Nat) : Int32 := zfold (fun k a => if ro k = nI k ∧ ¬ zfa to_ n (nI k) = -9 then a ||| (1 <<< (by_ (zfa to_ n (nI k)).toNatClampNeg &&& 31)) else a) 0 m
theorem sp_firstAnswerers {μ : ZMem} {n : Nat} (h : zmN μ n) : Sp layC mX1_firstAnswerers 1 [.ref 11] μ (some (.int (zfas (μ.1 16) (μ.1 15) (μ.1 14) n n))) μ := by
  have hn := h.1
  have h30 := h.2
  refine Sp.mk (L := [some (.ref 11), none, none, none]) rfl (by decide +kernel) rfl rfl (fun Q hQ => ?_)
  refine z_iconst (v := 0) dX1_firstAnswerers_0 (by decide) ?_
  refine z_istore_n (i := 1) dX1_firstAnswerers_1 rfl (by decide) ?_
  refine z_iconst (v := 0) dX1_firstAnswerers_2 (by decide) ?_
  refine z_istore_n (i := 2) dX1_firstAnswerers_3 rfl (by decide) ?_
  have key : ∀ k, k ≤ n → ∀ z, ZW layC mX1_firstAnswerers 1 Q 4 [some (.ref 11), some (.int (zfas (μ.1 16) (μ.1 15) (μ.1 14) n k)), some (.int (nI k)), z] [] μ := by
    refine zdown n ?_ ?_
    · intro z
      refine z_iload_n dX1_firstAnswerers_4 rfl ?_
      refine z_aload_n dX1_firstAnswerers_5 rfl ?_
      refine z_getI dX1_firstAnswerers_6 zf_X1_30 (by first | rfl | assumption) rfl ?_
      refine z_icmp_ge (tgt := 58) dX1_firstAnswerers_9 (by decide) (fun _ => ?_) (fun hx_ => absurd (by rw [hn]; exact Int32.le_refl _) hx_)
      refine z_iload_n dX1_firstAnswerers_58 rfl ?_
      refine z_iret dX1_firstAnswerers_59 rfl ?_
      exact hQ
    · intro k hk ih z
      refine z_iload_n dX1_firstAnswerers_4 rfl ?_
      refine z_aload_n dX1_firstAnswerers_5 rfl ?_
      refine z_getI dX1_firstAnswerers_6 zf_X1_30 (by first | rfl | assumption) rfl ?_
      refine z_icmp_ge (tgt := 58) dX1_firstAnswerers_9 (by decide) (fun hx_ => absurd hx_ (by rw [hn]; exact nI_ge hk (by omega))) (fun _ => ?_)
      refine z_aload_n dX1_firstAnswerers_12 rfl ?_
      refine z_getR dX1_firstAnswerers_13 zf_X1_24 (by first | rfl | assumption) rfl ?_
      refine z_iload_n dX1_firstAnswerers_16 rfl ?_
      refine z_iald dX1_firstAnswerers_17 (by first | rfl | assumption) rfl (by first | assumption | omega | decide) (by decide) ?_
      refine z_iload_n dX1_firstAnswerers_18 rfl ?_
      refine z_icmp_ne (tgt := 30) dX1_firstAnswerers_19 (by decide) (fun hb19 => ?_) (fun hb19 => ?_)
      · refine z_bipush (v := -9) dX1_firstAnswerers_30 (by decide) ?_
        refine z_istore_n (i := 3) dX1_firstAnswerers_32 rfl (by decide) ?_
        refine z_aload_n dX1_firstAnswerers_33 rfl ?_
        refine z_iload_n dX1_firstAnswerers_34 rfl ?_
        refine z_cV1r (dy := 0) dX1_firstAnswerers_35 zl_X1_49 zy_X1_has (by first | rfl | assumption) rfl (by decide) (Nat.le_of_ble_eq_true rfl) (sp_has_f h (Or.inl (by decide))) ?_
        refine z_if_eq (tgt := 52) dX1_firstAnswerers_38 (by decide) (fun _ => ?_) (fun hx_ => absurd (rfl) hx_)
        refine z_iinc (v := 1) dX1_firstAnswerers_52 rfl (by decide) (by decide) ?_
        refine z_goto (tgt := 4) dX1_firstAnswerers_55 (by decide) ?_
        exact ZW.eq (ih _) rfl (by simp [zfas, zfold, nI_succ, hb19]; rfl)
      · refine z_aload_n dX1_firstAnswerers_22 rfl ?_
        refine z_iload_n dX1_firstAnswerers_23 rfl ?_
        refine z_cV1r (dy := 0) dX1_firstAnswerers_24 zl_X1_63 zy_X1_firstAnswerTo (by first | rfl | assumption) rfl (by decide) (Nat.le_of_ble_eq_true rfl) (sp_firstAnswerTo h (nI k)) ?_
        refine z_goto (tgt := 32) dX1_firstAnswerers_27 (by decide) ?_
        rcases zfa_cases (μ.1 15) n (nI k) with e | ⟨j, hj, e, -⟩
        · rw [e]
          refine z_istore_n (i := 3) dX1_firstAnswerers_32 rfl (by decide) ?_
          refine z_aload_n dX1_firstAnswerers_33 rfl ?_
          refine z_iload_n dX1_firstAnswerers_34 rfl ?_
          refine z_cV1r (dy := 0) dX1_firstAnswerers_35 zl_X1_49 zy_X1_has (by first | rfl | assumption) rfl (by decide) (Nat.le_of_ble_eq_true rfl) (sp_has_f h (Or.inl (by decide))) ?_
          refine z_if_eq (tgt := 52) dX1_firstAnswerers_38 (by decide) (fun _ => ?_) (fun hx_ => absurd (rfl) hx_)
          refine z_iinc (v := 1) dX1_firstAnswerers_52 rfl (by decide) (by decide) ?_
          refine z_goto (tgt := 4) dX1_firstAnswerers_55 (by decide) ?_
          exact ZW.eq (ih _) rfl (by simp [zfas, zfold, nI_succ, e]; rfl)
        · rw [e]
          refine z_istore_n (i := 3) dX1_firstAnswerers_32 rfl (by decide) ?_
          refine z_aload_n dX1_firstAnswerers_33 rfl ?_
          refine z_iload_n dX1_firstAnswerers_34 rfl ?_
          refine z_cV1r (dy := 0) dX1_firstAnswerers_35 zl_X1_49 zy_X1_has (by first | rfl | assumption) rfl (by decide) (Nat.le_of_ble_eq_true rfl) (sp_has_t h hj rfl) ?_
          refine z_if_eq (tgt := 52) dX1_firstAnswerers_38 (by decide) (fun hx_ => absurd hx_ (by decide)) (fun _ => ?_)
          refine z_iload_n dX1_firstAnswerers_41 rfl ?_
          refine z_iconst (v := 1) dX1_firstAnswerers_42 (by decide) ?_
          refine z_aload_n dX1_firstAnswerers_43 rfl ?_
          refine z_getR dX1_firstAnswerers_44 zf_X1_18 (by first | rfl | assumption) rfl ?_
          refine z_iload_n dX1_firstAnswerers_47 rfl ?_
          refine z_iald dX1_firstAnswerers_48 (by first | rfl | assumption) rfl (by first | assumption | omega | decide) (by decide) ?_
          refine z_ishl dX1_firstAnswerers_49 ?_
          refine z_ior dX1_firstAnswerers_50 ?_
          refine z_istore_n (i := 1) dX1_firstAnswerers_51 rfl (by decide) ?_
          refine z_iinc (v := 1) dX1_firstAnswerers_52 rfl (by decide) (by decide) ?_
          refine z_goto (tgt := 4) dX1_firstAnswerers_55 (by decide) ?_
          exact ZW.eq (ih _) rfl (by simp [zfas, zfold, nI_succ, e, hb19, nI_ne9 (show j < 2 ^ 31 by omega), nI_clamp (show j < 2 ^ 31 by omega)]; rfl)
  exact key 0 (Nat.zero_le n) none
/-- what is in talk ahead of the first w (bits); 0: w never is -/
def zah (f : Nat → Int32) (w : Int32) : Nat → Nat → Int32 → Int32
  | _, 0, _ => 0
  | k, m + 1, a => if f k = w then a else zah f w (k + 1) m (a ||| (1 <<< (f k &&& 31)))
theorem sp_aheadOf {μ : ZMem} {n : Nat} (h : zmN μ n) (w : Int32) : Sp layC mX1_aheadOf 0 [.ref 11, .int w] μ (some (.int (zah (μ.1 12) w 0 n 0))) μ := by
  have hn := h.1
  have h30 := h.2
  refine Sp.mk (L := [some (.ref 11), some (.int w), none, none]) rfl (by decide +kernel) rfl rfl (fun Q hQ => ?_)
  refine z_iconst (v := 0) dX1_aheadOf_0 (by decide) ?_
  refine z_istore_n (i := 2) dX1_aheadOf_1 rfl (by decide) ?_
  refine z_iconst (v := 0) dX1_aheadOf_2 (by decide) ?_
  refine z_istore_n (i := 3) dX1_aheadOf_3 rfl (by decide) ?_
  have key : ∀ k, k ≤ n → ∀ a, zah (μ.1 12) w 0 n 0 = zah (μ.1 12) w k (n - k) a → ZW layC mX1_aheadOf 0 Q 4 [some (.ref 11), some (.int w), some (.int a), some (.int (nI k))] [] μ := by
    refine zdown n ?_ ?_
    · intro a e
      refine z_iload_n dX1_aheadOf_4 rfl ?_
      refine z_aload_n dX1_aheadOf_5 rfl ?_
      refine z_getI dX1_aheadOf_6 zf_X1_30 (by first | rfl | assumption) rfl ?_
      refine z_icmp_ge (tgt := 41) dX1_aheadOf_9 (by decide) (fun _ => ?_) (fun hx_ => absurd (by rw [hn]; exact Int32.le_refl _) hx_)
      refine z_iconst (v := 0) dX1_aheadOf_41 (by decide) ?_
      refine z_iret dX1_aheadOf_42 rfl ?_
      rw [e, Nat.sub_self] at hQ
      exact hQ
    · intro k hk ih a e
      rw [show n - k = (n - (k + 1)) + 1 by omega] at e
      refine z_iload_n dX1_aheadOf_4 rfl ?_
      refine z_aload_n dX1_aheadOf_5 rfl ?_
      refine z_getI dX1_aheadOf_6 zf_X1_30 (by first | rfl | assumption) rfl ?_
      refine z_icmp_ge (tgt := 41) dX1_aheadOf_9 (by decide) (fun hx_ => absurd hx_ (by rw [hn]; exact nI_ge hk (by omega))) (fun _ => ?_)
      refine z_aload_n dX1_aheadOf_12 rfl ?_
      refine z_getR dX1_aheadOf_13 zf_X1_9 (by first | rfl | assumption) rfl ?_
      refine z_iload_n dX1_aheadOf_16 rfl ?_
      refine z_iald dX1_aheadOf_17 (by first | rfl | assumption) rfl (by first | assumption | omega | decide) (by decide) ?_
      refine z_iload_n dX1_aheadOf_18 rfl ?_
      refine z_icmp_ne (tgt := 24) dX1_aheadOf_19 (by decide) (fun hb19 => ?_) (fun hb19 => ?_)
      · refine z_iload_n dX1_aheadOf_24 rfl ?_
        refine z_iconst (v := 1) dX1_aheadOf_25 (by decide) ?_
        refine z_aload_n dX1_aheadOf_26 rfl ?_
        refine z_getR dX1_aheadOf_27 zf_X1_9 (by first | rfl | assumption) rfl ?_
        refine z_iload_n dX1_aheadOf_30 rfl ?_
        refine z_iald dX1_aheadOf_31 (by first | rfl | assumption) rfl (by first | assumption | omega | decide) (by decide) ?_
        refine z_ishl dX1_aheadOf_32 ?_
        refine z_ior dX1_aheadOf_33 ?_
        refine z_istore_n (i := 2) dX1_aheadOf_34 rfl (by decide) ?_
        refine z_iinc (v := 1) dX1_aheadOf_35 rfl (by decide) (by decide) ?_
        refine z_goto (tgt := 4) dX1_aheadOf_38 (by decide) ?_
        exact ZW.eq (ih (a ||| (1 <<< (μ.1 12 k &&& 31))) (by rw [e]; simp only [zah, if_neg hb19])) rfl (by simp [nI_succ])
      · refine z_iload_n dX1_aheadOf_22 rfl ?_
        refine z_iret dX1_aheadOf_23 rfl ?_
        rw [e] at hQ
        simp only [zah, if_pos hb19] at hQ
        exact hQ
  exact key 0 (Nat.zero_le n) 0 rfl
theorem sp_reset {μ : ZMem} : Sp layC mX1_reset 0 [.ref 11] μ none (zI (zI (zI (zI μ 11 6 0) 11 7 0) 11 8 0) 11 9 0) := by
  refine Sp.mk (L := [some (.ref 11)]) rfl (by decide +kernel) rfl rfl (fun Q hQ => ?_)
  refine z_aload_n dX1_reset_0 rfl ?_
  refine z_iconst (v := 0) dX1_reset_1 (by decide) ?_
  refine z_putI dX1_reset_2 zf_X1_30p (by first | rfl | assumption) rfl rfl rfl ?_
  refine z_aload_n dX1_reset_5 rfl ?_
  refine z_iconst (v := 0) dX1_reset_6 (by decide) ?_
  refine z_putI dX1_reset_7 zf_X1_34p (by first | rfl | assumption) rfl rfl rfl ?_
  refine z_aload_n dX1_reset_10 rfl ?_
  refine z_iconst (v := 0) dX1_reset_11 (by decide) ?_
  refine z_putI dX1_reset_12 zf_X1_37p (by first | rfl | assumption) rfl rfl rfl ?_
  refine z_aload_n dX1_reset_15 rfl ?_
  refine z_iconst (v := 0) dX1_reset_16 (by decide) ?_
  refine z_putI dX1_reset_17 zf_X1_40p (by first | rfl | assumption) rfl rfl rfl ?_
  refine z_vret dX1_reset_20 rfl ?_
  exact hQ
def zrem (μ : ZMem) (b : Int32) : ZMem := zI (zI μ 11 9 (((μ.1 11 9 <<< ((1 : Int32) &&& 31)) ||| b) &&& 4095)) 11 8 (if μ.1 11 8 + 1 < 12 then μ.1 11 8 + 1 else 12)
theorem sp_remember {μ : ZMem} (b : Int32) : Sp layC mX1_remember 1 [.ref 11, .int b] μ none (zrem μ b) := by
  refine Sp.mk (L := [some (.ref 11), some (.int b)]) rfl (by decide +kernel) rfl rfl (fun Q hQ => ?_)
  refine z_aload_n dX1_remember_0 rfl ?_
  refine z_aload_n dX1_remember_1 rfl ?_
  refine z_getI dX1_remember_2 zf_X1_40 (by first | rfl | assumption) rfl ?_
  refine z_iconst (v := 1) dX1_remember_5 (by decide) ?_
  refine z_ishl dX1_remember_6 ?_
  refine z_iload_n dX1_remember_7 rfl ?_
  refine z_ior dX1_remember_8 ?_
  refine z_sipush (v := 4095) dX1_remember_9 (by decide) ?_
  refine z_iand dX1_remember_12 ?_
  refine z_putI dX1_remember_13 zf_X1_40p (by first | rfl | assumption) rfl rfl rfl ?_
  refine z_aload_n dX1_remember_16 rfl ?_
  refine z_bipush (v := 12) dX1_remember_17 (by decide) ?_
  refine z_aload_n dX1_remember_19 rfl ?_
  refine z_getI dX1_remember_20 zf_X1_37 (by first | rfl | assumption) rfl ?_
  refine z_iconst (v := 1) dX1_remember_23 (by decide) ?_
  refine z_iadd dX1_remember_24 ?_
  refine z_min dX1_remember_25 zm_2_96 (by decide) (Nat.le_of_ble_eq_true rfl) ?_
  refine z_putI dX1_remember_28 zf_X1_37p (by first | rfl | assumption) rfl rfl rfl ?_
  refine z_vret dX1_remember_31 rfl ?_
  exact hQ
theorem sp_passHour_f {μ : ZMem} (h : (99 : Int32) ≤ μ.1 11 7) : Sp layC mX1_passHour 2 [.ref 11] μ (some (.int 0)) μ := by
  refine Sp.mk (L := [some (.ref 11)]) rfl (by decide +kernel) rfl rfl (fun Q hQ => ?_)
  refine z_aload_n dX1_passHour_0 rfl ?_
  refine z_getI dX1_passHour_1 zf_X1_34 (by first | rfl | assumption) rfl ?_
  refine z_bipush (v := 99) dX1_passHour_4 (by decide) ?_
  refine z_icmp_lt (tgt := 11) dX1_passHour_6 (by decide) (fun hx_ => absurd hx_ (Int32.not_lt.mpr h)) (fun _ => ?_)
  refine z_iconst (v := 0) dX1_passHour_9 (by decide) ?_
  refine z_zret dX1_passHour_10 rfl (by decide) ?_
  exact hQ
theorem sp_passHour_t {μ : ZMem} (h : μ.1 11 7 < 99) : Sp layC mX1_passHour 2 [.ref 11] μ (some (.int 1)) (zrem (zI μ 11 7 (μ.1 11 7 + 1)) 1) := by
  refine Sp.mk (L := [some (.ref 11)]) rfl (by decide +kernel) rfl rfl (fun Q hQ => ?_)
  refine z_aload_n dX1_passHour_0 rfl ?_
  refine z_getI dX1_passHour_1 zf_X1_34 (by first | rfl | assumption) rfl ?_
  refine z_bipush (v := 99) dX1_passHour_4 (by decide) ?_
  refine z_icmp_lt (tgt := 11) dX1_passHour_6 (by decide) (fun _ => ?_) (fun hx_ => absurd h hx_)
  refine z_aload_n dX1_passHour_11 rfl ?_
  refine z_dup dX1_passHour_12 rfl ?_
  refine z_getI dX1_passHour_13 zf_X1_34 (by first | rfl | assumption) rfl ?_
  refine z_iconst (v := 1) dX1_passHour_16 (by decide) ?_
  refine z_iadd dX1_passHour_17 ?_
  refine z_putI dX1_passHour_18 zf_X1_34p (by first | rfl | assumption) rfl rfl rfl ?_
  refine z_aload_n dX1_passHour_21 rfl ?_
  refine z_iconst (v := 1) dX1_passHour_22 (by decide) ?_
  refine z_cV1v (dy := 1) dX1_passHour_23 zl_X1_53 zy_X1_remember (by first | rfl | assumption) rfl (by decide) (Nat.le_of_ble_eq_true rfl) (sp_remember 1) ?_
  refine z_iconst (v := 1) dX1_passHour_26 (by decide) ?_
  refine z_zret dX1_passHour_27 rfl (by decide) ?_
  exact hQ
theorem sp_takeBack_f {μ : ZMem} (h : μ.1 11 8 = 0) : Sp layC mX1_takeBack 0 [.ref 11] μ (some (.int 0)) μ := by
  refine Sp.mk (L := [some (.ref 11)]) rfl (by decide +kernel) rfl rfl (fun Q hQ => ?_)
  refine z_aload_n dX1_takeBack_0 rfl ?_
  refine z_getI dX1_takeBack_1 zf_X1_37 (by first | rfl | assumption) rfl ?_
  refine z_if_gt (tgt := 9) dX1_takeBack_4 (by decide) (fun hx_ => absurd hx_ (by have e : μ.1 11 8 = 0 := h; show ¬ (0 : Int32) < μ.1 11 8; rw [e]; decide)) (fun _ => ?_)
  refine z_iconst (v := 0) dX1_takeBack_7 (by decide) ?_
  refine z_zret dX1_takeBack_8 rfl (by decide) ?_
  exact hQ
def ztb (μ : ZMem) : ZMem := zI (zI μ 11 9 (μ.1 11 9 >>> ((1 : Int32) &&& 31))) 11 8 (μ.1 11 8 - 1)
theorem sp_takeBack_h {μ : ZMem} (h : 0 < μ.1 11 8) (hb : ¬ μ.1 11 9 &&& 1 = 0) : Sp layC mX1_takeBack 0 [.ref 11] μ (some (.int 1)) (ztb (zI μ 11 7 (μ.1 11 7 - 1))) := by
  refine Sp.mk (L := [some (.ref 11)]) rfl (by decide +kernel) rfl rfl (fun Q hQ => ?_)
  refine z_aload_n dX1_takeBack_0 rfl ?_
  refine z_getI dX1_takeBack_1 zf_X1_37 (by first | rfl | assumption) rfl ?_
  refine z_if_gt (tgt := 9) dX1_takeBack_4 (by decide) (fun _ => ?_) (fun hx_ => absurd h hx_)
  refine z_aload_n dX1_takeBack_9 rfl ?_
  refine z_getI dX1_takeBack_10 zf_X1_40 (by first | rfl | assumption) rfl ?_
  refine z_iconst (v := 1) dX1_takeBack_13 (by decide) ?_
  refine z_iand dX1_takeBack_14 ?_
  refine z_if_eq (tgt := 31) dX1_takeBack_15 (by decide) (fun hx_ => absurd hx_ hb) (fun _ => ?_)
  refine z_aload_n dX1_takeBack_18 rfl ?_
  refine z_dup dX1_takeBack_19 rfl ?_
  refine z_getI dX1_takeBack_20 zf_X1_34 (by first | rfl | assumption) rfl ?_
  refine z_iconst (v := 1) dX1_takeBack_23 (by decide) ?_
  refine z_isub dX1_takeBack_24 ?_
  refine z_putI dX1_takeBack_25 zf_X1_34p (by first | rfl | assumption) rfl rfl rfl ?_
  refine z_goto (tgt := 41) dX1_takeBack_28 (by decide) ?_
  refine z_aload_n dX1_takeBack_41 rfl ?_
  refine z_dup dX1_takeBack_42 rfl ?_
  refine z_getI dX1_takeBack_43 zf_X1_40 (by first | rfl | assumption) rfl ?_
  refine z_iconst (v := 1) dX1_takeBack_46 (by decide) ?_
  refine z_ishr dX1_takeBack_47 ?_
  refine z_putI dX1_takeBack_48 zf_X1_40p (by first | rfl | assumption) rfl rfl rfl ?_
  refine z_aload_n dX1_takeBack_51 rfl ?_
  refine z_dup dX1_takeBack_52 rfl ?_
  refine z_getI dX1_takeBack_53 zf_X1_37 (by first | rfl | assumption) rfl ?_
  refine z_iconst (v := 1) dX1_takeBack_56 (by decide) ?_
  refine z_isub dX1_takeBack_57 ?_
  refine z_putI dX1_takeBack_58 zf_X1_37p (by first | rfl | assumption) rfl rfl rfl ?_
  refine z_iconst (v := 1) dX1_takeBack_61 (by decide) ?_
  refine z_zret dX1_takeBack_62 rfl (by decide) ?_
  exact hQ
theorem sp_takeBack_s {μ : ZMem} (h : 0 < μ.1 11 8) (hb : μ.1 11 9 &&& 1 = 0) : Sp layC mX1_takeBack 0 [.ref 11] μ (some (.int 1)) (ztb (zI μ 11 6 (μ.1 11 6 - 1))) := by
  refine Sp.mk (L := [some (.ref 11)]) rfl (by decide +kernel) rfl rfl (fun Q hQ => ?_)
  refine z_aload_n dX1_takeBack_0 rfl ?_
  refine z_getI dX1_takeBack_1 zf_X1_37 (by first | rfl | assumption) rfl ?_
  refine z_if_gt (tgt := 9) dX1_takeBack_4 (by decide) (fun _ => ?_) (fun hx_ => absurd h hx_)
  refine z_aload_n dX1_takeBack_9 rfl ?_
  refine z_getI dX1_takeBack_10 zf_X1_40 (by first | rfl | assumption) rfl ?_
  refine z_iconst (v := 1) dX1_takeBack_13 (by decide) ?_
  refine z_iand dX1_takeBack_14 ?_
  refine z_if_eq (tgt := 31) dX1_takeBack_15 (by decide) (fun _ => ?_) (fun hx_ => absurd hb hx_)
  refine z_aload_n dX1_takeBack_31 rfl ?_
  refine z_dup dX1_takeBack_32 rfl ?_
  refine z_getI dX1_takeBack_33 zf_X1_30 (by first | rfl | assumption) rfl ?_
  refine z_iconst (v := 1) dX1_takeBack_36 (by decide) ?_
  refine z_isub dX1_takeBack_37 ?_
  refine z_putI dX1_takeBack_38 zf_X1_30p (by first | rfl | assumption) rfl rfl rfl ?_
  refine z_aload_n dX1_takeBack_41 rfl ?_
  refine z_dup dX1_takeBack_42 rfl ?_
  refine z_getI dX1_takeBack_43 zf_X1_40 (by first | rfl | assumption) rfl ?_
  refine z_iconst (v := 1) dX1_takeBack_46 (by decide) ?_
  refine z_ishr dX1_takeBack_47 ?_
  refine z_putI dX1_takeBack_48 zf_X1_40p (by first | rfl | assumption) rfl rfl rfl ?_
  refine z_aload_n dX1_takeBack_51 rfl ?_
  refine z_dup dX1_takeBack_52 rfl ?_
  refine z_getI dX1_takeBack_53 zf_X1_37 (by first | rfl | assumption) rfl ?_
  refine z_iconst (v := 1) dX1_takeBack_56 (by decide) ?_
  refine z_isub dX1_takeBack_57 ?_
  refine z_putI dX1_takeBack_58 zf_X1_37p (by first | rfl | assumption) rfl rfl rfl ?_
  refine z_iconst (v := 1) dX1_takeBack_61 (by decide) ?_
  refine z_zret dX1_takeBack_62 rfl (by decide) ?_
  exact hQ
theorem sp_add_f {μ : ZMem} (h : zmN μ 30) (w p a : Int32) : Sp layC mX1_add 2 [.ref 11, .int w, .int p, .int a] μ (some (.int 0)) μ := by
  have hn := h.1
  refine Sp.mk (L := [some (.ref 11), some (.int w), some (.int p), some (.int a)]) rfl (by decide +kernel) rfl rfl (fun Q hQ => ?_)
  refine z_aload_n dX1_add_0 rfl ?_
  refine z_getI dX1_add_1 zf_X1_30 (by first | rfl | assumption) rfl ?_
  refine z_if_lt (tgt := 16) dX1_add_4 (by decide) (fun hx_ => absurd hx_ (by rw [hn]; decide)) (fun _ => ?_)
  refine z_aload_n dX1_add_7 rfl ?_
  refine z_getI dX1_add_8 zf_X1_30 (by first | rfl | assumption) rfl ?_
  refine z_bipush (v := 30) dX1_add_11 (by decide) ?_
  refine z_icmp_lt (tgt := 18) dX1_add_13 (by decide) (fun hx_ => absurd hx_ (by rw [hn]; decide)) (fun _ => ?_)
  refine z_iconst (v := 0) dX1_add_16 (by decide) ?_
  refine z_zret dX1_add_17 rfl (by decide) ?_
  exact hQ
/-- one more in talk: what it is, by whom, what it answers, its root, how far -/
def zadd (μ : ZMem) (n : Nat) (w p a ro fa : Int32) : ZMem := zrem (zI (zI (zI (zI (zI (zI (zI μ 12 n w) 13 n (μ.1 11 7)) 14 n p) 15 n a) 16 n ro) 17 n fa) 11 6 (μ.1 11 6 + 1)) 0
theorem sp_add_s {μ : ZMem} {n : Nat} (h : zmN μ n) (hlt : n < 30) (w p : Int32) : Sp layC mX1_add 2 [.ref 11, .int w, .int p, .int (-9)] μ (some (.int 1)) (zadd μ n w p (-9) (μ.1 11 6) 0) := by
  have hn := h.1
  have h30 := h.2
  refine Sp.mk (L := [some (.ref 11), some (.int w), some (.int p), some (.int (-9))]) rfl (by decide +kernel) rfl rfl (fun Q hQ => ?_)
  refine z_aload_n dX1_add_0 rfl ?_
  refine z_getI dX1_add_1 zf_X1_30 (by first | rfl | assumption) rfl ?_
  refine z_if_lt (tgt := 16) dX1_add_4 (by decide) (fun hx_ => absurd hx_ (by rw [hn]; exact nI_pos (by omega))) (fun _ => ?_)
  refine z_aload_n dX1_add_7 rfl ?_
  refine z_getI dX1_add_8 zf_X1_30 (by first | rfl | assumption) rfl ?_
  refine z_bipush (v := 30) dX1_add_11 (by decide) ?_
  refine z_icmp_lt (tgt := 18) dX1_add_13 (by decide) (fun _ => ?_) (fun hx_ => absurd (by rw [hn]; exact nI_lt (b := 30) hlt (by decide)) hx_)
  refine z_aload_n dX1_add_18 rfl ?_
  refine z_getR dX1_add_19 zf_X1_9 (by first | rfl | assumption) rfl ?_
  refine z_aload_n dX1_add_22 rfl ?_
  refine z_getI dX1_add_23 zf_X1_30 (by first | rfl | assumption) rfl ?_
  refine z_iload_n dX1_add_26 rfl ?_
  refine z_iast dX1_add_27 (by first | rfl | assumption) hn (by omega) (by decide) ?_
  refine z_aload_n dX1_add_28 rfl ?_
  refine z_getR dX1_add_29 zf_X1_15 (by first | rfl | assumption) rfl ?_
  refine z_aload_n dX1_add_32 rfl ?_
  refine z_getI dX1_add_33 zf_X1_30 (by first | rfl | assumption) rfl ?_
  refine z_aload_n dX1_add_36 rfl ?_
  refine z_getI dX1_add_37 zf_X1_34 (by first | rfl | assumption) rfl ?_
  refine z_iast dX1_add_40 (by first | rfl | assumption) hn (by omega) (by decide) ?_
  refine z_aload_n dX1_add_41 rfl ?_
  refine z_getR dX1_add_42 zf_X1_18 (by first | rfl | assumption) rfl ?_
  refine z_aload_n dX1_add_45 rfl ?_
  refine z_getI dX1_add_46 zf_X1_30 (by first | rfl | assumption) rfl ?_
  refine z_iload_n dX1_add_49 rfl ?_
  refine z_iast dX1_add_50 (by first | rfl | assumption) hn (by omega) (by decide) ?_
  refine z_aload_n dX1_add_51 rfl ?_
  refine z_getR dX1_add_52 zf_X1_21 (by first | rfl | assumption) rfl ?_
  refine z_aload_n dX1_add_55 rfl ?_
  refine z_getI dX1_add_56 zf_X1_30 (by first | rfl | assumption) rfl ?_
  refine z_iload_n dX1_add_59 rfl ?_
  refine z_iast dX1_add_60 (by first | rfl | assumption) hn (by omega) (by decide) ?_
  refine z_aload_n dX1_add_61 rfl ?_
  refine z_getR dX1_add_62 zf_X1_24 (by first | rfl | assumption) rfl ?_
  refine z_aload_n dX1_add_65 rfl ?_
  refine z_getI dX1_add_66 zf_X1_30 (by first | rfl | assumption) rfl ?_
  refine z_aload_n dX1_add_69 rfl ?_
  refine z_iload_n dX1_add_70 rfl ?_
  refine z_cV1r (dy := 0) dX1_add_71 zl_X1_49 zy_X1_has (by first | rfl | assumption) rfl (by decide) (Nat.le_of_ble_eq_true rfl) (by refine sp_has_f (n := n) ?_ (Or.inl (show (-9 : Int32) < 0 by decide)); exact ⟨hn, h30⟩) ?_
  refine z_if_eq (tgt := 86) dX1_add_74 (by decide) (fun _ => ?_) (fun hx_ => absurd (rfl) hx_)
  refine z_aload_n dX1_add_86 rfl ?_
  refine z_getI dX1_add_87 zf_X1_30 (by first | rfl | assumption) rfl ?_
  refine z_iast dX1_add_90 (by first | rfl | assumption) hn (by omega) (by decide) ?_
  refine z_aload_n dX1_add_91 rfl ?_
  refine z_getR dX1_add_92 zf_X1_27 (by first | rfl | assumption) rfl ?_
  refine z_aload_n dX1_add_95 rfl ?_
  refine z_getI dX1_add_96 zf_X1_30 (by first | rfl | assumption) rfl ?_
  refine z_aload_n dX1_add_99 rfl ?_
  refine z_iload_n dX1_add_100 rfl ?_
  refine z_cV1r (dy := 0) dX1_add_101 zl_X1_49 zy_X1_has (by first | rfl | assumption) rfl (by decide) (Nat.le_of_ble_eq_true rfl) (by refine sp_has_f (n := n) ?_ (Or.inl (show (-9 : Int32) < 0 by decide)); exact ⟨hn, h30⟩) ?_
  refine z_if_eq (tgt := 118) dX1_add_104 (by decide) (fun _ => ?_) (fun hx_ => absurd (rfl) hx_)
  refine z_iconst (v := 0) dX1_add_118 (by decide) ?_
  refine z_iast dX1_add_119 (by first | rfl | assumption) hn (by omega) (by decide) ?_
  refine z_aload_n dX1_add_120 rfl ?_
  refine z_dup dX1_add_121 rfl ?_
  refine z_getI dX1_add_122 zf_X1_30 (by first | rfl | assumption) rfl ?_
  refine z_iconst (v := 1) dX1_add_125 (by decide) ?_
  refine z_iadd dX1_add_126 ?_
  refine z_putI dX1_add_127 zf_X1_30p (by first | rfl | assumption) rfl rfl rfl ?_
  refine z_aload_n dX1_add_130 rfl ?_
  refine z_iconst (v := 0) dX1_add_131 (by decide) ?_
  refine z_cV1v (dy := 1) dX1_add_132 zl_X1_53 zy_X1_remember (by first | rfl | assumption) rfl (by decide) (Nat.le_of_ble_eq_true rfl) (sp_remember 0) ?_
  refine z_iconst (v := 1) dX1_add_135 (by decide) ?_
  refine z_zret dX1_add_136 rfl (by decide) ?_
  exact hQ
theorem sp_add_a {μ : ZMem} {n j : Nat} (h : zmN μ n) (hlt : n < 30) (hj : j < n) (w p : Int32) : Sp layC mX1_add 2 [.ref 11, .int w, .int p, .int (nI j)] μ (some (.int 1)) (zadd μ n w p (nI j) (μ.1 16 j) (μ.1 17 j + 1)) := by
  have hn := h.1
  have h30 := h.2
  refine Sp.mk (L := [some (.ref 11), some (.int w), some (.int p), some (.int (nI j))]) rfl (by decide +kernel) rfl rfl (fun Q hQ => ?_)
  refine z_aload_n dX1_add_0 rfl ?_
  refine z_getI dX1_add_1 zf_X1_30 (by first | rfl | assumption) rfl ?_
  refine z_if_lt (tgt := 16) dX1_add_4 (by decide) (fun hx_ => absurd hx_ (by rw [hn]; exact nI_pos (by omega))) (fun _ => ?_)
  refine z_aload_n dX1_add_7 rfl ?_
  refine z_getI dX1_add_8 zf_X1_30 (by first | rfl | assumption) rfl ?_
  refine z_bipush (v := 30) dX1_add_11 (by decide) ?_
  refine z_icmp_lt (tgt := 18) dX1_add_13 (by decide) (fun _ => ?_) (fun hx_ => absurd (by rw [hn]; exact nI_lt (b := 30) hlt (by decide)) hx_)
  refine z_aload_n dX1_add_18 rfl ?_
  refine z_getR dX1_add_19 zf_X1_9 (by first | rfl | assumption) rfl ?_
  refine z_aload_n dX1_add_22 rfl ?_
  refine z_getI dX1_add_23 zf_X1_30 (by first | rfl | assumption) rfl ?_
  refine z_iload_n dX1_add_26 rfl ?_
  refine z_iast dX1_add_27 (by first | rfl | assumption) hn (by omega) (by decide) ?_
  refine z_aload_n dX1_add_28 rfl ?_
  refine z_getR dX1_add_29 zf_X1_15 (by first | rfl | assumption) rfl ?_
  refine z_aload_n dX1_add_32 rfl ?_
  refine z_getI dX1_add_33 zf_X1_30 (by first | rfl | assumption) rfl ?_
  refine z_aload_n dX1_add_36 rfl ?_
  refine z_getI dX1_add_37 zf_X1_34 (by first | rfl | assumption) rfl ?_
  refine z_iast dX1_add_40 (by first | rfl | assumption) hn (by omega) (by decide) ?_
  refine z_aload_n dX1_add_41 rfl ?_
  refine z_getR dX1_add_42 zf_X1_18 (by first | rfl | assumption) rfl ?_
  refine z_aload_n dX1_add_45 rfl ?_
  refine z_getI dX1_add_46 zf_X1_30 (by first | rfl | assumption) rfl ?_
  refine z_iload_n dX1_add_49 rfl ?_
  refine z_iast dX1_add_50 (by first | rfl | assumption) hn (by omega) (by decide) ?_
  refine z_aload_n dX1_add_51 rfl ?_
  refine z_getR dX1_add_52 zf_X1_21 (by first | rfl | assumption) rfl ?_
  refine z_aload_n dX1_add_55 rfl ?_
  refine z_getI dX1_add_56 zf_X1_30 (by first | rfl | assumption) rfl ?_
  refine z_iload_n dX1_add_59 rfl ?_
  refine z_iast dX1_add_60 (by first | rfl | assumption) hn (by omega) (by decide) ?_
  refine z_aload_n dX1_add_61 rfl ?_
  refine z_getR dX1_add_62 zf_X1_24 (by first | rfl | assumption) rfl ?_
  refine z_aload_n dX1_add_65 rfl ?_
  refine z_getI dX1_add_66 zf_X1_30 (by first | rfl | assumption) rfl ?_
  refine z_aload_n dX1_add_69 rfl ?_
  refine z_iload_n dX1_add_70 rfl ?_
  refine z_cV1r (dy := 0) dX1_add_71 zl_X1_49 zy_X1_has (by first | rfl | assumption) rfl (by decide) (Nat.le_of_ble_eq_true rfl) (by refine sp_has_t (n := n) ?_ hj rfl; exact ⟨hn, h30⟩) ?_
  refine z_if_eq (tgt := 86) dX1_add_74 (by decide) (fun hx_ => absurd hx_ (by decide)) (fun _ => ?_)
  refine z_aload_n dX1_add_77 rfl ?_
  refine z_getR dX1_add_78 zf_X1_24 (by first | rfl | assumption) rfl ?_
  refine z_iload_n dX1_add_81 rfl ?_
  refine z_iald dX1_add_82 (by first | rfl | assumption) rfl (show j < 30 by omega) (by decide) ?_
  refine z_goto (tgt := 90) dX1_add_83 (by decide) ?_
  refine z_iast dX1_add_90 (by first | rfl | assumption) hn (by omega) (by decide) ?_
  refine z_aload_n dX1_add_91 rfl ?_
  refine z_getR dX1_add_92 zf_X1_27 (by first | rfl | assumption) rfl ?_
  refine z_aload_n dX1_add_95 rfl ?_
  refine z_getI dX1_add_96 zf_X1_30 (by first | rfl | assumption) rfl ?_
  refine z_aload_n dX1_add_99 rfl ?_
  refine z_iload_n dX1_add_100 rfl ?_
  refine z_cV1r (dy := 0) dX1_add_101 zl_X1_49 zy_X1_has (by first | rfl | assumption) rfl (by decide) (Nat.le_of_ble_eq_true rfl) (by refine sp_has_t (n := n) ?_ hj rfl; exact ⟨hn, h30⟩) ?_
  refine z_if_eq (tgt := 118) dX1_add_104 (by decide) (fun hx_ => absurd hx_ (by decide)) (fun _ => ?_)
  refine z_aload_n dX1_add_107 rfl ?_
  refine z_getR dX1_add_108 zf_X1_27 (by first | rfl | assumption) rfl ?_
  refine z_iload_n dX1_add_111 rfl ?_
  refine z_iald dX1_add_112 (by first | rfl | assumption) rfl (show j < 30 by omega) (by decide) ?_
  refine z_iconst (v := 1) dX1_add_113 (by decide) ?_
  refine z_iadd dX1_add_114 ?_
  refine z_goto (tgt := 119) dX1_add_115 (by decide) ?_
  refine z_iast dX1_add_119 (by first | rfl | assumption) hn (by omega) (by decide) ?_
  refine z_aload_n dX1_add_120 rfl ?_
  refine z_dup dX1_add_121 rfl ?_
  refine z_getI dX1_add_122 zf_X1_30 (by first | rfl | assumption) rfl ?_
  refine z_iconst (v := 1) dX1_add_125 (by decide) ?_
  refine z_iadd dX1_add_126 ?_
  refine z_putI dX1_add_127 zf_X1_30p (by first | rfl | assumption) rfl rfl rfl ?_
  refine z_aload_n dX1_add_130 rfl ?_
  refine z_iconst (v := 0) dX1_add_131 (by decide) ?_
  refine z_cV1v (dy := 1) dX1_add_132 zl_X1_53 zy_X1_remember (by first | rfl | assumption) rfl (by decide) (Nat.le_of_ble_eq_true rfl) (sp_remember 0) ?_
  refine z_iconst (v := 1) dX1_add_135 (by decide) ?_
  refine z_zret dX1_add_136 rfl (by decide) ?_
  exact hQ
end
section
theorem zz_last : True := trivial
end
