-- ===== PART A: goes FIRST, ahead of the names: the tables' words, and 'selects' of the private methods out of them =====
/-- a private method of a class that the tables say can be made, by its rows of tables_1 -/
def lw_okq (q : MethodName × Nat) : Prop := (q.1.cls ≠ "java/lang/invoke/MethodHandle" ∧ q.1.cls ≠ "java/lang/invoke/VarHandle") ∧ Cond.instantiable q.1.cls q.2 ∈ tables_1 ∧ Cond.privateMethod q.1 ∈ tables_1 ∧ Cond.instanceMethod q.1 ∈ tables_1
set_option maxRecDepth 100000 in
theorem lw_p0 : lw_okq (⟨"FacingFields$Text", "nextToken", "()I"⟩, 5) := ⟨⟨by decide +kernel, by decide +kernel⟩, List.mem_of_getElem? (i := 18) rfl, List.mem_of_getElem? (i := 212) rfl, List.mem_of_getElem? (i := 213) rfl⟩
set_option maxRecDepth 100000 in
theorem lw_p1 : lw_okq (⟨"FacingFields$Text", "numberToken", "()I"⟩, 5) := ⟨⟨by decide +kernel, by decide +kernel⟩, List.mem_of_getElem? (i := 18) rfl, List.mem_of_getElem? (i := 219) rfl, List.mem_of_getElem? (i := 220) rfl⟩
set_option maxRecDepth 100000 in
theorem lw_p2 : lw_okq (⟨"FacingFields$Text", "readCrop", "(LFacingFields$Told;)Z"⟩, 5) := ⟨⟨by decide +kernel, by decide +kernel⟩, List.mem_of_getElem? (i := 18) rfl, List.mem_of_getElem? (i := 226) rfl, List.mem_of_getElem? (i := 227) rfl⟩
set_option maxRecDepth 100000 in
theorem lw_p3 : lw_okq (⟨"FacingFields$Text", "readNumber", "(II)Z"⟩, 5) := ⟨⟨by decide +kernel, by decide +kernel⟩, List.mem_of_getElem? (i := 18) rfl, List.mem_of_getElem? (i := 230) rfl, List.mem_of_getElem? (i := 231) rfl⟩
set_option maxRecDepth 100000 in
theorem lw_p4 : lw_okq (⟨"FacingFields$Text", "readMan", "(LFacingFields$Told;)Z"⟩, 5) := ⟨⟨by decide +kernel, by decide +kernel⟩, List.mem_of_getElem? (i := 18) rfl, List.mem_of_getElem? (i := 234) rfl, List.mem_of_getElem? (i := 235) rfl⟩
set_option maxRecDepth 100000 in
theorem lw_p5 : lw_okq (⟨"FacingFields", "isMan", "(I)Z"⟩, 15) := ⟨⟨by decide +kernel, by decide +kernel⟩, List.mem_of_getElem? (i := 10) rfl, List.mem_of_getElem? (i := 242) rfl, List.mem_of_getElem? (i := 243) rfl⟩
set_option maxRecDepth 100000 in
theorem lw_p6 : lw_okq (⟨"FacingFields", "isCrop", "(I)Z"⟩, 15) := ⟨⟨by decide +kernel, by decide +kernel⟩, List.mem_of_getElem? (i := 10) rfl, List.mem_of_getElem? (i := 253) rfl, List.mem_of_getElem? (i := 254) rfl⟩
set_option maxRecDepth 100000 in
theorem lw_p7 : lw_okq (⟨"FacingFields", "carriedBy", "(LFacingFields$Moment;II)I"⟩, 15) := ⟨⟨by decide +kernel, by decide +kernel⟩, List.mem_of_getElem? (i := 10) rfl, List.mem_of_getElem? (i := 261) rfl, List.mem_of_getElem? (i := 262) rfl⟩
set_option maxRecDepth 100000 in
theorem lw_p8 : lw_okq (⟨"FacingFields", "takenBy", "(LFacingFields$Moment;I)I"⟩, 15) := ⟨⟨by decide +kernel, by decide +kernel⟩, List.mem_of_getElem? (i := 10) rfl, List.mem_of_getElem? (i := 270) rfl, List.mem_of_getElem? (i := 271) rfl⟩
set_option maxRecDepth 100000 in
theorem lw_p9 : lw_okq (⟨"FacingFields", "takenIf", "(LFacingFields$Moment;II)I"⟩, 15) := ⟨⟨by decide +kernel, by decide +kernel⟩, List.mem_of_getElem? (i := 10) rfl, List.mem_of_getElem? (i := 274) rfl, List.mem_of_getElem? (i := 275) rfl⟩
set_option maxRecDepth 100000 in
theorem lw_p10 : lw_okq (⟨"FacingFields", "keptBy", "(LFacingFields$Moment;I)I"⟩, 15) := ⟨⟨by decide +kernel, by decide +kernel⟩, List.mem_of_getElem? (i := 10) rfl, List.mem_of_getElem? (i := 279) rfl, List.mem_of_getElem? (i := 280) rfl⟩
set_option maxRecDepth 100000 in
theorem lw_p11 : lw_okq (⟨"FacingFields", "wealthOf", "(LFacingFields$Moment;I)I"⟩, 15) := ⟨⟨by decide +kernel, by decide +kernel⟩, List.mem_of_getElem? (i := 10) rfl, List.mem_of_getElem? (i := 283) rfl, List.mem_of_getElem? (i := 284) rfl⟩
set_option maxRecDepth 100000 in
theorem lw_p12 : lw_okq (⟨"FacingFields", "ropesOfAll", "()I"⟩, 15) := ⟨⟨by decide +kernel, by decide +kernel⟩, List.mem_of_getElem? (i := 10) rfl, List.mem_of_getElem? (i := 291) rfl, List.mem_of_getElem? (i := 292) rfl⟩
set_option maxRecDepth 100000 in
theorem lw_p13 : lw_okq (⟨"FacingFields", "hungryBits", "()I"⟩, 15) := ⟨⟨by decide +kernel, by decide +kernel⟩, List.mem_of_getElem? (i := 10) rfl, List.mem_of_getElem? (i := 295) rfl, List.mem_of_getElem? (i := 296) rfl⟩
set_option maxRecDepth 100000 in
theorem lw_p14 : lw_okq (⟨"FacingFields", "isHungry", "(I)Z"⟩, 15) := ⟨⟨by decide +kernel, by decide +kernel⟩, List.mem_of_getElem? (i := 10) rfl, List.mem_of_getElem? (i := 299) rfl, List.mem_of_getElem? (i := 300) rfl⟩
set_option maxRecDepth 100000 in
theorem lw_p15 : lw_okq (⟨"FacingFields", "mostBySowing", "(I)I"⟩, 15) := ⟨⟨by decide +kernel, by decide +kernel⟩, List.mem_of_getElem? (i := 10) rfl, List.mem_of_getElem? (i := 310) rfl, List.mem_of_getElem? (i := 311) rfl⟩
def lw_privs_1 : List (MethodName × Nat) := [(⟨"FacingFields$Text", "nextToken", "()I"⟩, 5), (⟨"FacingFields$Text", "numberToken", "()I"⟩, 5), (⟨"FacingFields$Text", "readCrop", "(LFacingFields$Told;)Z"⟩, 5), (⟨"FacingFields$Text", "readNumber", "(II)Z"⟩, 5), (⟨"FacingFields$Text", "readMan", "(LFacingFields$Told;)Z"⟩, 5), (⟨"FacingFields", "isMan", "(I)Z"⟩, 15), (⟨"FacingFields", "isCrop", "(I)Z"⟩, 15), (⟨"FacingFields", "carriedBy", "(LFacingFields$Moment;II)I"⟩, 15), (⟨"FacingFields", "takenBy", "(LFacingFields$Moment;I)I"⟩, 15), (⟨"FacingFields", "takenIf", "(LFacingFields$Moment;II)I"⟩, 15), (⟨"FacingFields", "keptBy", "(LFacingFields$Moment;I)I"⟩, 15), (⟨"FacingFields", "wealthOf", "(LFacingFields$Moment;I)I"⟩, 15), (⟨"FacingFields", "ropesOfAll", "()I"⟩, 15), (⟨"FacingFields", "hungryBits", "()I"⟩, 15), (⟨"FacingFields", "isHungry", "(I)Z"⟩, 15), (⟨"FacingFields", "mostBySowing", "(I)I"⟩, 15)]
theorem lw_r1 : ∀ q ∈ lw_privs_1, lw_okq q := List.forall_mem_cons.mpr ⟨lw_p0, List.forall_mem_cons.mpr ⟨lw_p1, List.forall_mem_cons.mpr ⟨lw_p2, List.forall_mem_cons.mpr ⟨lw_p3, List.forall_mem_cons.mpr ⟨lw_p4, List.forall_mem_cons.mpr ⟨lw_p5, List.forall_mem_cons.mpr ⟨lw_p6, List.forall_mem_cons.mpr ⟨lw_p7, List.forall_mem_cons.mpr ⟨lw_p8, List.forall_mem_cons.mpr ⟨lw_p9, List.forall_mem_cons.mpr ⟨lw_p10, List.forall_mem_cons.mpr ⟨lw_p11, List.forall_mem_cons.mpr ⟨lw_p12, List.forall_mem_cons.mpr ⟨lw_p13, List.forall_mem_cons.mpr ⟨lw_p14, List.forall_mem_cons.mpr ⟨lw_p15, fun _ h => absurd h List.not_mem_nil⟩⟩⟩⟩⟩⟩⟩⟩⟩⟩⟩⟩⟩⟩⟩⟩
set_option maxRecDepth 100000 in
theorem lw_p16 : lw_okq (⟨"FacingFields", "wealthOfAll", "()I"⟩, 15) := ⟨⟨by decide +kernel, by decide +kernel⟩, List.mem_of_getElem? (i := 10) rfl, List.mem_of_getElem? (i := 317) rfl, List.mem_of_getElem? (i := 318) rfl⟩
set_option maxRecDepth 100000 in
theorem lw_p17 : lw_okq (⟨"FacingFields", "exchange", "(II)V"⟩, 15) := ⟨⟨by decide +kernel, by decide +kernel⟩, List.mem_of_getElem? (i := 10) rfl, List.mem_of_getElem? (i := 347) rfl, List.mem_of_getElem? (i := 348) rfl⟩
set_option maxRecDepth 100000 in
theorem lw_p18 : lw_okq (⟨"FacingFields", "gainOf", "(LFacingFields$Moment;I)I"⟩, 15) := ⟨⟨by decide +kernel, by decide +kernel⟩, List.mem_of_getElem? (i := 10) rfl, List.mem_of_getElem? (i := 355) rfl, List.mem_of_getElem? (i := 356) rfl⟩
set_option maxRecDepth 100000 in
theorem lw_p19 : lw_okq (⟨"FacingFields", "isContent", "(I)Z"⟩, 15) := ⟨⟨by decide +kernel, by decide +kernel⟩, List.mem_of_getElem? (i := 10) rfl, List.mem_of_getElem? (i := 378) rfl, List.mem_of_getElem? (i := 379) rfl⟩
set_option maxRecDepth 100000 in
theorem lw_p20 : lw_okq (⟨"FacingFields", "tryFacing", "(IZ)V"⟩, 15) := ⟨⟨by decide +kernel, by decide +kernel⟩, List.mem_of_getElem? (i := 10) rfl, List.mem_of_getElem? (i := 390) rfl, List.mem_of_getElem? (i := 391) rfl⟩
set_option maxRecDepth 100000 in
theorem lw_p21 : lw_okq (⟨"FacingFields", "firstUnchosen", "()I"⟩, 15) := ⟨⟨by decide +kernel, by decide +kernel⟩, List.mem_of_getElem? (i := 10) rfl, List.mem_of_getElem? (i := 394) rfl, List.mem_of_getElem? (i := 395) rfl⟩
set_option maxRecDepth 100000 in
theorem lw_p22 : lw_okq (⟨"FacingFields", "weighFacing", "()V"⟩, 15) := ⟨⟨by decide +kernel, by decide +kernel⟩, List.mem_of_getElem? (i := 10) rfl, List.mem_of_getElem? (i := 398) rfl, List.mem_of_getElem? (i := 399) rfl⟩
set_option maxRecDepth 100000 in
theorem lw_p23 : lw_okq (⟨"FacingFields", "tryRopes", "()I"⟩, 15) := ⟨⟨by decide +kernel, by decide +kernel⟩, List.mem_of_getElem? (i := 10) rfl, List.mem_of_getElem? (i := 407) rfl, List.mem_of_getElem? (i := 408) rfl⟩
set_option maxRecDepth 100000 in
theorem lw_p24 : lw_okq (⟨"FacingFields", "ropesAlone", "(I)I"⟩, 15) := ⟨⟨by decide +kernel, by decide +kernel⟩, List.mem_of_getElem? (i := 10) rfl, List.mem_of_getElem? (i := 411) rfl, List.mem_of_getElem? (i := 412) rfl⟩
set_option maxRecDepth 100000 in
theorem lw_p25 : lw_okq (⟨"FacingFields", "ropesOfTwo", "(II)I"⟩, 15) := ⟨⟨by decide +kernel, by decide +kernel⟩, List.mem_of_getElem? (i := 10) rfl, List.mem_of_getElem? (i := 415) rfl, List.mem_of_getElem? (i := 416) rfl⟩
set_option maxRecDepth 100000 in
theorem lw_p26 : lw_okq (⟨"FacingFields", "fitsStubble", "(II)Z"⟩, 15) := ⟨⟨by decide +kernel, by decide +kernel⟩, List.mem_of_getElem? (i := 10) rfl, List.mem_of_getElem? (i := 431) rfl, List.mem_of_getElem? (i := 432) rfl⟩
set_option maxRecDepth 100000 in
theorem lw_p27 : lw_okq (⟨"FacingFields", "chancesOf", "(IIII)I"⟩, 15) := ⟨⟨by decide +kernel, by decide +kernel⟩, List.mem_of_getElem? (i := 10) rfl, List.mem_of_getElem? (i := 442) rfl, List.mem_of_getElem? (i := 443) rfl⟩
set_option maxRecDepth 100000 in
theorem lw_p28 : lw_okq (⟨"FacingFields", "yearsTillPoor", "(I)I"⟩, 15) := ⟨⟨by decide +kernel, by decide +kernel⟩, List.mem_of_getElem? (i := 10) rfl, List.mem_of_getElem? (i := 457) rfl, List.mem_of_getElem? (i := 458) rfl⟩
set_option maxRecDepth 100000 in
theorem lw_p29 : lw_okq (⟨"FacingFields", "rateMan", "(I)I"⟩, 15) := ⟨⟨by decide +kernel, by decide +kernel⟩, List.mem_of_getElem? (i := 10) rfl, List.mem_of_getElem? (i := 469) rfl, List.mem_of_getElem? (i := 470) rfl⟩
set_option maxRecDepth 100000 in
theorem lw_p30 : lw_okq (⟨"FacingFields", "rateGiant", "(I)I"⟩, 15) := ⟨⟨by decide +kernel, by decide +kernel⟩, List.mem_of_getElem? (i := 10) rfl, List.mem_of_getElem? (i := 473) rfl, List.mem_of_getElem? (i := 474) rfl⟩
set_option maxRecDepth 100000 in
theorem lw_p31 : lw_okq (⟨"FacingFields", "rateWidow", "(I)I"⟩, 15) := ⟨⟨by decide +kernel, by decide +kernel⟩, List.mem_of_getElem? (i := 10) rfl, List.mem_of_getElem? (i := 478) rfl, List.mem_of_getElem? (i := 479) rfl⟩
def lw_privs_2 : List (MethodName × Nat) := [(⟨"FacingFields", "wealthOfAll", "()I"⟩, 15), (⟨"FacingFields", "exchange", "(II)V"⟩, 15), (⟨"FacingFields", "gainOf", "(LFacingFields$Moment;I)I"⟩, 15), (⟨"FacingFields", "isContent", "(I)Z"⟩, 15), (⟨"FacingFields", "tryFacing", "(IZ)V"⟩, 15), (⟨"FacingFields", "firstUnchosen", "()I"⟩, 15), (⟨"FacingFields", "weighFacing", "()V"⟩, 15), (⟨"FacingFields", "tryRopes", "()I"⟩, 15), (⟨"FacingFields", "ropesAlone", "(I)I"⟩, 15), (⟨"FacingFields", "ropesOfTwo", "(II)I"⟩, 15), (⟨"FacingFields", "fitsStubble", "(II)Z"⟩, 15), (⟨"FacingFields", "chancesOf", "(IIII)I"⟩, 15), (⟨"FacingFields", "yearsTillPoor", "(I)I"⟩, 15), (⟨"FacingFields", "rateMan", "(I)I"⟩, 15), (⟨"FacingFields", "rateGiant", "(I)I"⟩, 15), (⟨"FacingFields", "rateWidow", "(I)I"⟩, 15)]
theorem lw_r2 : ∀ q ∈ lw_privs_2, lw_okq q := List.forall_mem_cons.mpr ⟨lw_p16, List.forall_mem_cons.mpr ⟨lw_p17, List.forall_mem_cons.mpr ⟨lw_p18, List.forall_mem_cons.mpr ⟨lw_p19, List.forall_mem_cons.mpr ⟨lw_p20, List.forall_mem_cons.mpr ⟨lw_p21, List.forall_mem_cons.mpr ⟨lw_p22, List.forall_mem_cons.mpr ⟨lw_p23, List.forall_mem_cons.mpr ⟨lw_p24, List.forall_mem_cons.mpr ⟨lw_p25, List.forall_mem_cons.mpr ⟨lw_p26, List.forall_mem_cons.mpr ⟨lw_p27, List.forall_mem_cons.mpr ⟨lw_p28, List.forall_mem_cons.mpr ⟨lw_p29, List.forall_mem_cons.mpr ⟨lw_p30, List.forall_mem_cons.mpr ⟨lw_p31, fun _ h => absurd h List.not_mem_nil⟩⟩⟩⟩⟩⟩⟩⟩⟩⟩⟩⟩⟩⟩⟩⟩
set_option maxRecDepth 100000 in
theorem lw_p32 : lw_okq (⟨"FacingFields", "rateBrother", "(I)I"⟩, 15) := ⟨⟨by decide +kernel, by decide +kernel⟩, List.mem_of_getElem? (i := 10) rfl, List.mem_of_getElem? (i := 483) rfl, List.mem_of_getElem? (i := 484) rfl⟩
set_option maxRecDepth 100000 in
theorem lw_p33 : lw_okq (⟨"FacingFields", "rateGleaner", "(I)I"⟩, 15) := ⟨⟨by decide +kernel, by decide +kernel⟩, List.mem_of_getElem? (i := 10) rfl, List.mem_of_getElem? (i := 488) rfl, List.mem_of_getElem? (i := 489) rfl⟩
set_option maxRecDepth 100000 in
theorem lw_p34 : lw_okq (⟨"FacingFields", "rateGuest", "(I)I"⟩, 15) := ⟨⟨by decide +kernel, by decide +kernel⟩, List.mem_of_getElem? (i := 10) rfl, List.mem_of_getElem? (i := 493) rfl, List.mem_of_getElem? (i := 494) rfl⟩
set_option maxRecDepth 100000 in
theorem lw_p35 : lw_okq (⟨"FacingFieldsModel", "advances", "()V"⟩, 27) := ⟨⟨by decide +kernel, by decide +kernel⟩, List.mem_of_getElem? (i := 514) rfl, List.mem_of_getElem? (i := 617) rfl, List.mem_of_getElem? (i := 618) rfl⟩
set_option maxRecDepth 100000 in
theorem lw_p36 : lw_okq (⟨"FacingFieldsModel", "letterAt", "(I)I"⟩, 27) := ⟨⟨by decide +kernel, by decide +kernel⟩, List.mem_of_getElem? (i := 514) rfl, List.mem_of_getElem? (i := 621) rfl, List.mem_of_getElem? (i := 622) rfl⟩
set_option maxRecDepth 100000 in
theorem lw_p37 : lw_okq (⟨"FacingFieldsModel", "isWell", "()Z"⟩, 27) := ⟨⟨by decide +kernel, by decide +kernel⟩, List.mem_of_getElem? (i := 514) rfl, List.mem_of_getElem? (i := 625) rfl, List.mem_of_getElem? (i := 626) rfl⟩
set_option maxRecDepth 100000 in
theorem lw_p38 : lw_okq (⟨"FacingFieldsModel", "takesToken", "(Z)I"⟩, 27) := ⟨⟨by decide +kernel, by decide +kernel⟩, List.mem_of_getElem? (i := 514) rfl, List.mem_of_getElem? (i := 629) rfl, List.mem_of_getElem? (i := 630) rfl⟩
set_option maxRecDepth 100000 in
theorem lw_p39 : lw_okq (⟨"FacingFieldsModel", "readsItem", "(I)V"⟩, 27) := ⟨⟨by decide +kernel, by decide +kernel⟩, List.mem_of_getElem? (i := 514) rfl, List.mem_of_getElem? (i := 633) rfl, List.mem_of_getElem? (i := 634) rfl⟩
set_option maxRecDepth 100000 in
theorem lw_p40 : lw_okq (⟨"FacingFieldsModel", "number", "(II)I"⟩, 27) := ⟨⟨by decide +kernel, by decide +kernel⟩, List.mem_of_getElem? (i := 514) rfl, List.mem_of_getElem? (i := 637) rfl, List.mem_of_getElem? (i := 638) rfl⟩
set_option maxRecDepth 100000 in
theorem lw_p41 : lw_okq (⟨"FacingFieldsModel", "settles", "()V"⟩, 27) := ⟨⟨by decide +kernel, by decide +kernel⟩, List.mem_of_getElem? (i := 514) rfl, List.mem_of_getElem? (i := 641) rfl, List.mem_of_getElem? (i := 642) rfl⟩
set_option maxRecDepth 100000 in
theorem lw_p42 : lw_okq (⟨"FacingFieldsModel", "isMan", "(I)Z"⟩, 27) := ⟨⟨by decide +kernel, by decide +kernel⟩, List.mem_of_getElem? (i := 514) rfl, List.mem_of_getElem? (i := 649) rfl, List.mem_of_getElem? (i := 650) rfl⟩
set_option maxRecDepth 100000 in
theorem lw_p43 : lw_okq (⟨"FacingFieldsModel", "isCrop", "(I)Z"⟩, 27) := ⟨⟨by decide +kernel, by decide +kernel⟩, List.mem_of_getElem? (i := 514) rfl, List.mem_of_getElem? (i := 657) rfl, List.mem_of_getElem? (i := 658) rfl⟩
set_option maxRecDepth 100000 in
theorem lw_p44 : lw_okq (⟨"FacingFieldsModel", "carriesBy", "([III)I"⟩, 27) := ⟨⟨by decide +kernel, by decide +kernel⟩, List.mem_of_getElem? (i := 514) rfl, List.mem_of_getElem? (i := 665) rfl, List.mem_of_getElem? (i := 666) rfl⟩
set_option maxRecDepth 100000 in
theorem lw_p45 : lw_okq (⟨"FacingFieldsModel", "takesBy", "([II)I"⟩, 27) := ⟨⟨by decide +kernel, by decide +kernel⟩, List.mem_of_getElem? (i := 514) rfl, List.mem_of_getElem? (i := 674) rfl, List.mem_of_getElem? (i := 675) rfl⟩
set_option maxRecDepth 100000 in
theorem lw_p46 : lw_okq (⟨"FacingFieldsModel", "keptBy", "([II)I"⟩, 27) := ⟨⟨by decide +kernel, by decide +kernel⟩, List.mem_of_getElem? (i := 514) rfl, List.mem_of_getElem? (i := 678) rfl, List.mem_of_getElem? (i := 679) rfl⟩
set_option maxRecDepth 100000 in
theorem lw_p47 : lw_okq (⟨"FacingFieldsModel", "hasBy", "([II)I"⟩, 27) := ⟨⟨by decide +kernel, by decide +kernel⟩, List.mem_of_getElem? (i := 514) rfl, List.mem_of_getElem? (i := 682) rfl, List.mem_of_getElem? (i := 683) rfl⟩
def lw_privs_3 : List (MethodName × Nat) := [(⟨"FacingFields", "rateBrother", "(I)I"⟩, 15), (⟨"FacingFields", "rateGleaner", "(I)I"⟩, 15), (⟨"FacingFields", "rateGuest", "(I)I"⟩, 15), (⟨"FacingFieldsModel", "advances", "()V"⟩, 27), (⟨"FacingFieldsModel", "letterAt", "(I)I"⟩, 27), (⟨"FacingFieldsModel", "isWell", "()Z"⟩, 27), (⟨"FacingFieldsModel", "takesToken", "(Z)I"⟩, 27), (⟨"FacingFieldsModel", "readsItem", "(I)V"⟩, 27), (⟨"FacingFieldsModel", "number", "(II)I"⟩, 27), (⟨"FacingFieldsModel", "settles", "()V"⟩, 27), (⟨"FacingFieldsModel", "isMan", "(I)Z"⟩, 27), (⟨"FacingFieldsModel", "isCrop", "(I)Z"⟩, 27), (⟨"FacingFieldsModel", "carriesBy", "([III)I"⟩, 27), (⟨"FacingFieldsModel", "takesBy", "([II)I"⟩, 27), (⟨"FacingFieldsModel", "keptBy", "([II)I"⟩, 27), (⟨"FacingFieldsModel", "hasBy", "([II)I"⟩, 27)]
theorem lw_r3 : ∀ q ∈ lw_privs_3, lw_okq q := List.forall_mem_cons.mpr ⟨lw_p32, List.forall_mem_cons.mpr ⟨lw_p33, List.forall_mem_cons.mpr ⟨lw_p34, List.forall_mem_cons.mpr ⟨lw_p35, List.forall_mem_cons.mpr ⟨lw_p36, List.forall_mem_cons.mpr ⟨lw_p37, List.forall_mem_cons.mpr ⟨lw_p38, List.forall_mem_cons.mpr ⟨lw_p39, List.forall_mem_cons.mpr ⟨lw_p40, List.forall_mem_cons.mpr ⟨lw_p41, List.forall_mem_cons.mpr ⟨lw_p42, List.forall_mem_cons.mpr ⟨lw_p43, List.forall_mem_cons.mpr ⟨lw_p44, List.forall_mem_cons.mpr ⟨lw_p45, List.forall_mem_cons.mpr ⟨lw_p46, List.forall_mem_cons.mpr ⟨lw_p47, fun _ h => absurd h List.not_mem_nil⟩⟩⟩⟩⟩⟩⟩⟩⟩⟩⟩⟩⟩⟩⟩⟩
set_option maxRecDepth 100000 in
theorem lw_p48 : lw_okq (⟨"FacingFieldsModel", "takenWorth", "([II)I"⟩, 27) := ⟨⟨by decide +kernel, by decide +kernel⟩, List.mem_of_getElem? (i := 514) rfl, List.mem_of_getElem? (i := 686) rfl, List.mem_of_getElem? (i := 687) rfl⟩
set_option maxRecDepth 100000 in
theorem lw_p49 : lw_okq (⟨"FacingFieldsModel", "hungries", "()I"⟩, 27) := ⟨⟨by decide +kernel, by decide +kernel⟩, List.mem_of_getElem? (i := 514) rfl, List.mem_of_getElem? (i := 694) rfl, List.mem_of_getElem? (i := 695) rfl⟩
set_option maxRecDepth 100000 in
theorem lw_p50 : lw_okq (⟨"FacingFieldsModel", "isHungry", "(I)Z"⟩, 27) := ⟨⟨by decide +kernel, by decide +kernel⟩, List.mem_of_getElem? (i := 514) rfl, List.mem_of_getElem? (i := 698) rfl, List.mem_of_getElem? (i := 699) rfl⟩
set_option maxRecDepth 100000 in
theorem lw_p51 : lw_okq (⟨"FacingFieldsModel", "asNow", "()V"⟩, 27) := ⟨⟨by decide +kernel, by decide +kernel⟩, List.mem_of_getElem? (i := 514) rfl, List.mem_of_getElem? (i := 702) rfl, List.mem_of_getElem? (i := 703) rfl⟩
set_option maxRecDepth 100000 in
theorem lw_p52 : lw_okq (⟨"FacingFieldsModel", "hasAll", "()I"⟩, 27) := ⟨⟨by decide +kernel, by decide +kernel⟩, List.mem_of_getElem? (i := 514) rfl, List.mem_of_getElem? (i := 706) rfl, List.mem_of_getElem? (i := 707) rfl⟩
set_option maxRecDepth 100000 in
theorem lw_p53 : lw_okq (⟨"FacingFieldsModel", "becomes", "(II)I"⟩, 27) := ⟨⟨by decide +kernel, by decide +kernel⟩, List.mem_of_getElem? (i := 514) rfl, List.mem_of_getElem? (i := 714) rfl, List.mem_of_getElem? (i := 715) rfl⟩
set_option maxRecDepth 100000 in
theorem lw_p54 : lw_okq (⟨"FacingFieldsModel", "notes", "()V"⟩, 27) := ⟨⟨by decide +kernel, by decide +kernel⟩, List.mem_of_getElem? (i := 514) rfl, List.mem_of_getElem? (i := 718) rfl, List.mem_of_getElem? (i := 719) rfl⟩
set_option maxRecDepth 100000 in
theorem lw_p55 : lw_okq (⟨"FacingFieldsModel", "puts", "([III)V"⟩, 27) := ⟨⟨by decide +kernel, by decide +kernel⟩, List.mem_of_getElem? (i := 514) rfl, List.mem_of_getElem? (i := 738) rfl, List.mem_of_getElem? (i := 739) rfl⟩
set_option maxRecDepth 100000 in
theorem lw_p56 : lw_okq (⟨"FacingFieldsModel", "goes", "([I)I"⟩, 27) := ⟨⟨by decide +kernel, by decide +kernel⟩, List.mem_of_getElem? (i := 514) rfl, List.mem_of_getElem? (i := 746) rfl, List.mem_of_getElem? (i := 747) rfl⟩
set_option maxRecDepth 100000 in
theorem lw_p57 : lw_okq (⟨"FacingFieldsModel", "isRest", "(IIII)Z"⟩, 27) := ⟨⟨by decide +kernel, by decide +kernel⟩, List.mem_of_getElem? (i := 514) rfl, List.mem_of_getElem? (i := 762) rfl, List.mem_of_getElem? (i := 763) rfl⟩
set_option maxRecDepth 100000 in
theorem lw_p58 : lw_okq (⟨"FacingFieldsModel", "hasWith", "(IIII)I"⟩, 27) := ⟨⟨by decide +kernel, by decide +kernel⟩, List.mem_of_getElem? (i := 514) rfl, List.mem_of_getElem? (i := 766) rfl, List.mem_of_getElem? (i := 767) rfl⟩
set_option maxRecDepth 100000 in
theorem lw_p59 : lw_okq (⟨"FacingFieldsModel", "isRow", "(I)Z"⟩, 27) := ⟨⟨by decide +kernel, by decide +kernel⟩, List.mem_of_getElem? (i := 514) rfl, List.mem_of_getElem? (i := 778) rfl, List.mem_of_getElem? (i := 779) rfl⟩
set_option maxRecDepth 100000 in
theorem lw_p60 : lw_okq (⟨"FacingFieldsModel", "leastBy", "()I"⟩, 27) := ⟨⟨by decide +kernel, by decide +kernel⟩, List.mem_of_getElem? (i := 514) rfl, List.mem_of_getElem? (i := 782) rfl, List.mem_of_getElem? (i := 783) rfl⟩
def lw_privs_4 : List (MethodName × Nat) := [(⟨"FacingFieldsModel", "takenWorth", "([II)I"⟩, 27), (⟨"FacingFieldsModel", "hungries", "()I"⟩, 27), (⟨"FacingFieldsModel", "isHungry", "(I)Z"⟩, 27), (⟨"FacingFieldsModel", "asNow", "()V"⟩, 27), (⟨"FacingFieldsModel", "hasAll", "()I"⟩, 27), (⟨"FacingFieldsModel", "becomes", "(II)I"⟩, 27), (⟨"FacingFieldsModel", "notes", "()V"⟩, 27), (⟨"FacingFieldsModel", "puts", "([III)V"⟩, 27), (⟨"FacingFieldsModel", "goes", "([I)I"⟩, 27), (⟨"FacingFieldsModel", "isRest", "(IIII)Z"⟩, 27), (⟨"FacingFieldsModel", "hasWith", "(IIII)I"⟩, 27), (⟨"FacingFieldsModel", "isRow", "(I)Z"⟩, 27), (⟨"FacingFieldsModel", "leastBy", "()I"⟩, 27)]
theorem lw_r4 : ∀ q ∈ lw_privs_4, lw_okq q := List.forall_mem_cons.mpr ⟨lw_p48, List.forall_mem_cons.mpr ⟨lw_p49, List.forall_mem_cons.mpr ⟨lw_p50, List.forall_mem_cons.mpr ⟨lw_p51, List.forall_mem_cons.mpr ⟨lw_p52, List.forall_mem_cons.mpr ⟨lw_p53, List.forall_mem_cons.mpr ⟨lw_p54, List.forall_mem_cons.mpr ⟨lw_p55, List.forall_mem_cons.mpr ⟨lw_p56, List.forall_mem_cons.mpr ⟨lw_p57, List.forall_mem_cons.mpr ⟨lw_p58, List.forall_mem_cons.mpr ⟨lw_p59, List.forall_mem_cons.mpr ⟨lw_p60, fun _ h => absurd h List.not_mem_nil⟩⟩⟩⟩⟩⟩⟩⟩⟩⟩⟩⟩⟩
def lw_privs : List (MethodName × Nat) := lw_privs_1 ++ (lw_privs_2 ++ (lw_privs_3 ++ (lw_privs_4)))
def lw_tbl : List Cond := k2_sels lw_privs ++ tables_1
theorem lw_privs_ok : ∀ q ∈ lw_privs, lw_okq q := by
  show ∀ q ∈ lw_privs_1 ++ (lw_privs_2 ++ (lw_privs_3 ++ (lw_privs_4))), lw_okq q
  exact List.forall_mem_append.mpr ⟨lw_r1, List.forall_mem_append.mpr ⟨lw_r2, List.forall_mem_append.mpr ⟨lw_r3, lw_r4⟩⟩⟩
-- ===== end of PART A; then your names; then what follows =====
