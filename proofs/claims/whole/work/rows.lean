section
-- ===== PART A: goes FIRST, ahead of the names: the tables' words, and 'selects' of the private methods out of them =====
/-- a private method of a class that the tables say can be made, by its rows of tables_1 -/
def lw_okq (q : MethodName × Nat) : Prop := (q.1.cls ≠ "java/lang/invoke/MethodHandle" ∧ q.1.cls ≠ "java/lang/invoke/VarHandle") ∧ Cond.instantiable q.1.cls q.2 ∈ tables_1 ∧ Cond.privateMethod q.1 ∈ tables_1 ∧ Cond.instanceMethod q.1 ∈ tables_1
set_option maxRecDepth 100000 in
theorem lw_p0 : lw_okq (⟨"FacingFields$Text", "nextToken", "()I"⟩, 5) := ⟨⟨by decide +kernel, by decide +kernel⟩, List.mem_of_getElem? (i := 18) rfl, List.mem_of_getElem? (i := 212) rfl, List.mem_of_getElem? (i := 213) rfl⟩
set_option maxRecDepth 100000 in
theorem lw_p1 : lw_okq (⟨"FacingFields$Text", "numberToken", "()I"⟩, 5) := ⟨⟨by decide +kernel, by decide +kernel⟩, List.mem_of_getElem? (i := 18) rfl, List.mem_of_getElem? (i := 219) rfl, List.mem_of_getElem? (i := 220) rfl⟩
set_option maxRecDepth 100000 in
theorem lw_p2 : lw_okq (⟨"FacingFields$Text", "readItem", "(ILFacingFields$Told;)Z"⟩, 5) := ⟨⟨by decide +kernel, by decide +kernel⟩, List.mem_of_getElem? (i := 18) rfl, List.mem_of_getElem? (i := 226) rfl, List.mem_of_getElem? (i := 227) rfl⟩
set_option maxRecDepth 100000 in
theorem lw_p3 : lw_okq (⟨"FacingFields$Text", "readCrop", "(LFacingFields$Told;)Z"⟩, 5) := ⟨⟨by decide +kernel, by decide +kernel⟩, List.mem_of_getElem? (i := 18) rfl, List.mem_of_getElem? (i := 230) rfl, List.mem_of_getElem? (i := 231) rfl⟩
set_option maxRecDepth 100000 in
theorem lw_p4 : lw_okq (⟨"FacingFields$Text", "readNumber", "(II)Z"⟩, 5) := ⟨⟨by decide +kernel, by decide +kernel⟩, List.mem_of_getElem? (i := 18) rfl, List.mem_of_getElem? (i := 234) rfl, List.mem_of_getElem? (i := 235) rfl⟩
set_option maxRecDepth 100000 in
theorem lw_p5 : lw_okq (⟨"FacingFields$Text", "readMan", "(LFacingFields$Told;)Z"⟩, 5) := ⟨⟨by decide +kernel, by decide +kernel⟩, List.mem_of_getElem? (i := 18) rfl, List.mem_of_getElem? (i := 238) rfl, List.mem_of_getElem? (i := 239) rfl⟩
set_option maxRecDepth 100000 in
theorem lw_p6 : lw_okq (⟨"FacingFields", "isMan", "(I)Z"⟩, 15) := ⟨⟨by decide +kernel, by decide +kernel⟩, List.mem_of_getElem? (i := 10) rfl, List.mem_of_getElem? (i := 246) rfl, List.mem_of_getElem? (i := 247) rfl⟩
set_option maxRecDepth 100000 in
theorem lw_p7 : lw_okq (⟨"FacingFields", "isCrop", "(I)Z"⟩, 15) := ⟨⟨by decide +kernel, by decide +kernel⟩, List.mem_of_getElem? (i := 10) rfl, List.mem_of_getElem? (i := 257) rfl, List.mem_of_getElem? (i := 258) rfl⟩
set_option maxRecDepth 100000 in
theorem lw_p8 : lw_okq (⟨"FacingFields", "carriedBy", "(LFacingFields$Moment;II)I"⟩, 15) := ⟨⟨by decide +kernel, by decide +kernel⟩, List.mem_of_getElem? (i := 10) rfl, List.mem_of_getElem? (i := 265) rfl, List.mem_of_getElem? (i := 266) rfl⟩
set_option maxRecDepth 100000 in
theorem lw_p9 : lw_okq (⟨"FacingFields", "takenBy", "(LFacingFields$Moment;I)I"⟩, 15) := ⟨⟨by decide +kernel, by decide +kernel⟩, List.mem_of_getElem? (i := 10) rfl, List.mem_of_getElem? (i := 274) rfl, List.mem_of_getElem? (i := 275) rfl⟩
set_option maxRecDepth 100000 in
theorem lw_p10 : lw_okq (⟨"FacingFields", "takenIf", "(LFacingFields$Moment;II)I"⟩, 15) := ⟨⟨by decide +kernel, by decide +kernel⟩, List.mem_of_getElem? (i := 10) rfl, List.mem_of_getElem? (i := 278) rfl, List.mem_of_getElem? (i := 279) rfl⟩
set_option maxRecDepth 100000 in
theorem lw_p11 : lw_okq (⟨"FacingFields", "keptBy", "(LFacingFields$Moment;I)I"⟩, 15) := ⟨⟨by decide +kernel, by decide +kernel⟩, List.mem_of_getElem? (i := 10) rfl, List.mem_of_getElem? (i := 283) rfl, List.mem_of_getElem? (i := 284) rfl⟩
set_option maxRecDepth 100000 in
theorem lw_p12 : lw_okq (⟨"FacingFields", "wealthOf", "(LFacingFields$Moment;I)I"⟩, 15) := ⟨⟨by decide +kernel, by decide +kernel⟩, List.mem_of_getElem? (i := 10) rfl, List.mem_of_getElem? (i := 287) rfl, List.mem_of_getElem? (i := 288) rfl⟩
set_option maxRecDepth 100000 in
theorem lw_p13 : lw_okq (⟨"FacingFields", "ropesOfAll", "()I"⟩, 15) := ⟨⟨by decide +kernel, by decide +kernel⟩, List.mem_of_getElem? (i := 10) rfl, List.mem_of_getElem? (i := 295) rfl, List.mem_of_getElem? (i := 296) rfl⟩
set_option maxRecDepth 100000 in
theorem lw_p14 : lw_okq (⟨"FacingFields", "hungryBits", "()I"⟩, 15) := ⟨⟨by decide +kernel, by decide +kernel⟩, List.mem_of_getElem? (i := 10) rfl, List.mem_of_getElem? (i := 299) rfl, List.mem_of_getElem? (i := 300) rfl⟩
set_option maxRecDepth 100000 in
theorem lw_p15 : lw_okq (⟨"FacingFields", "isHungry", "(I)Z"⟩, 15) := ⟨⟨by decide +kernel, by decide +kernel⟩, List.mem_of_getElem? (i := 10) rfl, List.mem_of_getElem? (i := 303) rfl, List.mem_of_getElem? (i := 304) rfl⟩
def lw_privs_1 : List (MethodName × Nat) := [(⟨"FacingFields$Text", "nextToken", "()I"⟩, 5), (⟨"FacingFields$Text", "numberToken", "()I"⟩, 5), (⟨"FacingFields$Text", "readItem", "(ILFacingFields$Told;)Z"⟩, 5), (⟨"FacingFields$Text", "readCrop", "(LFacingFields$Told;)Z"⟩, 5), (⟨"FacingFields$Text", "readNumber", "(II)Z"⟩, 5), (⟨"FacingFields$Text", "readMan", "(LFacingFields$Told;)Z"⟩, 5), (⟨"FacingFields", "isMan", "(I)Z"⟩, 15), (⟨"FacingFields", "isCrop", "(I)Z"⟩, 15), (⟨"FacingFields", "carriedBy", "(LFacingFields$Moment;II)I"⟩, 15), (⟨"FacingFields", "takenBy", "(LFacingFields$Moment;I)I"⟩, 15), (⟨"FacingFields", "takenIf", "(LFacingFields$Moment;II)I"⟩, 15), (⟨"FacingFields", "keptBy", "(LFacingFields$Moment;I)I"⟩, 15), (⟨"FacingFields", "wealthOf", "(LFacingFields$Moment;I)I"⟩, 15), (⟨"FacingFields", "ropesOfAll", "()I"⟩, 15), (⟨"FacingFields", "hungryBits", "()I"⟩, 15), (⟨"FacingFields", "isHungry", "(I)Z"⟩, 15)]
theorem lw_r1 : ∀ q ∈ lw_privs_1, lw_okq q := List.forall_mem_cons.mpr ⟨lw_p0, List.forall_mem_cons.mpr ⟨lw_p1, List.forall_mem_cons.mpr ⟨lw_p2, List.forall_mem_cons.mpr ⟨lw_p3, List.forall_mem_cons.mpr ⟨lw_p4, List.forall_mem_cons.mpr ⟨lw_p5, List.forall_mem_cons.mpr ⟨lw_p6, List.forall_mem_cons.mpr ⟨lw_p7, List.forall_mem_cons.mpr ⟨lw_p8, List.forall_mem_cons.mpr ⟨lw_p9, List.forall_mem_cons.mpr ⟨lw_p10, List.forall_mem_cons.mpr ⟨lw_p11, List.forall_mem_cons.mpr ⟨lw_p12, List.forall_mem_cons.mpr ⟨lw_p13, List.forall_mem_cons.mpr ⟨lw_p14, List.forall_mem_cons.mpr ⟨lw_p15, fun _ h => absurd h List.not_mem_nil⟩⟩⟩⟩⟩⟩⟩⟩⟩⟩⟩⟩⟩⟩⟩⟩
set_option maxRecDepth 100000 in
theorem lw_p16 : lw_okq (⟨"FacingFields", "mostBySowing", "(I)I"⟩, 15) := ⟨⟨by decide +kernel, by decide +kernel⟩, List.mem_of_getElem? (i := 10) rfl, List.mem_of_getElem? (i := 314) rfl, List.mem_of_getElem? (i := 315) rfl⟩
set_option maxRecDepth 100000 in
theorem lw_p17 : lw_okq (⟨"FacingFields", "wealthOfAll", "()I"⟩, 15) := ⟨⟨by decide +kernel, by decide +kernel⟩, List.mem_of_getElem? (i := 10) rfl, List.mem_of_getElem? (i := 321) rfl, List.mem_of_getElem? (i := 322) rfl⟩
set_option maxRecDepth 100000 in
theorem lw_p18 : lw_okq (⟨"FacingFields", "exchange", "(II)V"⟩, 15) := ⟨⟨by decide +kernel, by decide +kernel⟩, List.mem_of_getElem? (i := 10) rfl, List.mem_of_getElem? (i := 351) rfl, List.mem_of_getElem? (i := 352) rfl⟩
set_option maxRecDepth 100000 in
theorem lw_p19 : lw_okq (⟨"FacingFields", "gainOf", "(LFacingFields$Moment;I)I"⟩, 15) := ⟨⟨by decide +kernel, by decide +kernel⟩, List.mem_of_getElem? (i := 10) rfl, List.mem_of_getElem? (i := 359) rfl, List.mem_of_getElem? (i := 360) rfl⟩
set_option maxRecDepth 100000 in
theorem lw_p20 : lw_okq (⟨"FacingFields", "isContent", "(I)Z"⟩, 15) := ⟨⟨by decide +kernel, by decide +kernel⟩, List.mem_of_getElem? (i := 10) rfl, List.mem_of_getElem? (i := 382) rfl, List.mem_of_getElem? (i := 383) rfl⟩
set_option maxRecDepth 100000 in
theorem lw_p21 : lw_okq (⟨"FacingFields", "tryFacing", "(IZ)V"⟩, 15) := ⟨⟨by decide +kernel, by decide +kernel⟩, List.mem_of_getElem? (i := 10) rfl, List.mem_of_getElem? (i := 394) rfl, List.mem_of_getElem? (i := 395) rfl⟩
set_option maxRecDepth 100000 in
theorem lw_p22 : lw_okq (⟨"FacingFields", "firstUnchosen", "()I"⟩, 15) := ⟨⟨by decide +kernel, by decide +kernel⟩, List.mem_of_getElem? (i := 10) rfl, List.mem_of_getElem? (i := 398) rfl, List.mem_of_getElem? (i := 399) rfl⟩
set_option maxRecDepth 100000 in
theorem lw_p23 : lw_okq (⟨"FacingFields", "weighFacing", "()V"⟩, 15) := ⟨⟨by decide +kernel, by decide +kernel⟩, List.mem_of_getElem? (i := 10) rfl, List.mem_of_getElem? (i := 402) rfl, List.mem_of_getElem? (i := 403) rfl⟩
set_option maxRecDepth 100000 in
theorem lw_p24 : lw_okq (⟨"FacingFields", "tryRopes", "()I"⟩, 15) := ⟨⟨by decide +kernel, by decide +kernel⟩, List.mem_of_getElem? (i := 10) rfl, List.mem_of_getElem? (i := 411) rfl, List.mem_of_getElem? (i := 412) rfl⟩
set_option maxRecDepth 100000 in
theorem lw_p25 : lw_okq (⟨"FacingFields", "ropesAlone", "(I)I"⟩, 15) := ⟨⟨by decide +kernel, by decide +kernel⟩, List.mem_of_getElem? (i := 10) rfl, List.mem_of_getElem? (i := 415) rfl, List.mem_of_getElem? (i := 416) rfl⟩
set_option maxRecDepth 100000 in
theorem lw_p26 : lw_okq (⟨"FacingFields", "ropesOfTwo", "(II)I"⟩, 15) := ⟨⟨by decide +kernel, by decide +kernel⟩, List.mem_of_getElem? (i := 10) rfl, List.mem_of_getElem? (i := 419) rfl, List.mem_of_getElem? (i := 420) rfl⟩
set_option maxRecDepth 100000 in
theorem lw_p27 : lw_okq (⟨"FacingFields", "fitsStubble", "(II)Z"⟩, 15) := ⟨⟨by decide +kernel, by decide +kernel⟩, List.mem_of_getElem? (i := 10) rfl, List.mem_of_getElem? (i := 435) rfl, List.mem_of_getElem? (i := 436) rfl⟩
set_option maxRecDepth 100000 in
theorem lw_p28 : lw_okq (⟨"FacingFields", "chancesOf", "(IIII)I"⟩, 15) := ⟨⟨by decide +kernel, by decide +kernel⟩, List.mem_of_getElem? (i := 10) rfl, List.mem_of_getElem? (i := 446) rfl, List.mem_of_getElem? (i := 447) rfl⟩
set_option maxRecDepth 100000 in
theorem lw_p29 : lw_okq (⟨"FacingFields", "yearsTillPoor", "(I)I"⟩, 15) := ⟨⟨by decide +kernel, by decide +kernel⟩, List.mem_of_getElem? (i := 10) rfl, List.mem_of_getElem? (i := 461) rfl, List.mem_of_getElem? (i := 462) rfl⟩
set_option maxRecDepth 100000 in
theorem lw_p30 : lw_okq (⟨"FacingFields", "rateMan", "(I)I"⟩, 15) := ⟨⟨by decide +kernel, by decide +kernel⟩, List.mem_of_getElem? (i := 10) rfl, List.mem_of_getElem? (i := 473) rfl, List.mem_of_getElem? (i := 474) rfl⟩
set_option maxRecDepth 100000 in
theorem lw_p31 : lw_okq (⟨"FacingFields", "rateGiant", "(I)I"⟩, 15) := ⟨⟨by decide +kernel, by decide +kernel⟩, List.mem_of_getElem? (i := 10) rfl, List.mem_of_getElem? (i := 477) rfl, List.mem_of_getElem? (i := 478) rfl⟩
def lw_privs_2 : List (MethodName × Nat) := [(⟨"FacingFields", "mostBySowing", "(I)I"⟩, 15), (⟨"FacingFields", "wealthOfAll", "()I"⟩, 15), (⟨"FacingFields", "exchange", "(II)V"⟩, 15), (⟨"FacingFields", "gainOf", "(LFacingFields$Moment;I)I"⟩, 15), (⟨"FacingFields", "isContent", "(I)Z"⟩, 15), (⟨"FacingFields", "tryFacing", "(IZ)V"⟩, 15), (⟨"FacingFields", "firstUnchosen", "()I"⟩, 15), (⟨"FacingFields", "weighFacing", "()V"⟩, 15), (⟨"FacingFields", "tryRopes", "()I"⟩, 15), (⟨"FacingFields", "ropesAlone", "(I)I"⟩, 15), (⟨"FacingFields", "ropesOfTwo", "(II)I"⟩, 15), (⟨"FacingFields", "fitsStubble", "(II)Z"⟩, 15), (⟨"FacingFields", "chancesOf", "(IIII)I"⟩, 15), (⟨"FacingFields", "yearsTillPoor", "(I)I"⟩, 15), (⟨"FacingFields", "rateMan", "(I)I"⟩, 15), (⟨"FacingFields", "rateGiant", "(I)I"⟩, 15)]
theorem lw_r2 : ∀ q ∈ lw_privs_2, lw_okq q := List.forall_mem_cons.mpr ⟨lw_p16, List.forall_mem_cons.mpr ⟨lw_p17, List.forall_mem_cons.mpr ⟨lw_p18, List.forall_mem_cons.mpr ⟨lw_p19, List.forall_mem_cons.mpr ⟨lw_p20, List.forall_mem_cons.mpr ⟨lw_p21, List.forall_mem_cons.mpr ⟨lw_p22, List.forall_mem_cons.mpr ⟨lw_p23, List.forall_mem_cons.mpr ⟨lw_p24, List.forall_mem_cons.mpr ⟨lw_p25, List.forall_mem_cons.mpr ⟨lw_p26, List.forall_mem_cons.mpr ⟨lw_p27, List.forall_mem_cons.mpr ⟨lw_p28, List.forall_mem_cons.mpr ⟨lw_p29, List.forall_mem_cons.mpr ⟨lw_p30, List.forall_mem_cons.mpr ⟨lw_p31, fun _ h => absurd h List.not_mem_nil⟩⟩⟩⟩⟩⟩⟩⟩⟩⟩⟩⟩⟩⟩⟩⟩
set_option maxRecDepth 100000 in
theorem lw_p32 : lw_okq (⟨"FacingFields", "rateWidow", "(I)I"⟩, 15) := ⟨⟨by decide +kernel, by decide +kernel⟩, List.mem_of_getElem? (i := 10) rfl, List.mem_of_getElem? (i := 482) rfl, List.mem_of_getElem? (i := 483) rfl⟩
set_option maxRecDepth 100000 in
theorem lw_p33 : lw_okq (⟨"FacingFields", "rateBrother", "(I)I"⟩, 15) := ⟨⟨by decide +kernel, by decide +kernel⟩, List.mem_of_getElem? (i := 10) rfl, List.mem_of_getElem? (i := 487) rfl, List.mem_of_getElem? (i := 488) rfl⟩
set_option maxRecDepth 100000 in
theorem lw_p34 : lw_okq (⟨"FacingFields", "rateGleaner", "(I)I"⟩, 15) := ⟨⟨by decide +kernel, by decide +kernel⟩, List.mem_of_getElem? (i := 10) rfl, List.mem_of_getElem? (i := 492) rfl, List.mem_of_getElem? (i := 493) rfl⟩
set_option maxRecDepth 100000 in
theorem lw_p35 : lw_okq (⟨"FacingFields", "rateGuest", "(I)I"⟩, 15) := ⟨⟨by decide +kernel, by decide +kernel⟩, List.mem_of_getElem? (i := 10) rfl, List.mem_of_getElem? (i := 497) rfl, List.mem_of_getElem? (i := 498) rfl⟩
set_option maxRecDepth 100000 in
theorem lw_p36 : lw_okq (⟨"FacingFieldsModel", "advances", "()V"⟩, 27) := ⟨⟨by decide +kernel, by decide +kernel⟩, List.mem_of_getElem? (i := 518) rfl, List.mem_of_getElem? (i := 621) rfl, List.mem_of_getElem? (i := 622) rfl⟩
set_option maxRecDepth 100000 in
theorem lw_p37 : lw_okq (⟨"FacingFieldsModel", "letterAt", "(I)I"⟩, 27) := ⟨⟨by decide +kernel, by decide +kernel⟩, List.mem_of_getElem? (i := 518) rfl, List.mem_of_getElem? (i := 625) rfl, List.mem_of_getElem? (i := 626) rfl⟩
set_option maxRecDepth 100000 in
theorem lw_p38 : lw_okq (⟨"FacingFieldsModel", "isWell", "()Z"⟩, 27) := ⟨⟨by decide +kernel, by decide +kernel⟩, List.mem_of_getElem? (i := 518) rfl, List.mem_of_getElem? (i := 629) rfl, List.mem_of_getElem? (i := 630) rfl⟩
set_option maxRecDepth 100000 in
theorem lw_p39 : lw_okq (⟨"FacingFieldsModel", "takesToken", "(Z)I"⟩, 27) := ⟨⟨by decide +kernel, by decide +kernel⟩, List.mem_of_getElem? (i := 518) rfl, List.mem_of_getElem? (i := 633) rfl, List.mem_of_getElem? (i := 634) rfl⟩
set_option maxRecDepth 100000 in
theorem lw_p40 : lw_okq (⟨"FacingFieldsModel", "readsItem", "(I)V"⟩, 27) := ⟨⟨by decide +kernel, by decide +kernel⟩, List.mem_of_getElem? (i := 518) rfl, List.mem_of_getElem? (i := 637) rfl, List.mem_of_getElem? (i := 638) rfl⟩
set_option maxRecDepth 100000 in
theorem lw_p41 : lw_okq (⟨"FacingFieldsModel", "number", "(II)I"⟩, 27) := ⟨⟨by decide +kernel, by decide +kernel⟩, List.mem_of_getElem? (i := 518) rfl, List.mem_of_getElem? (i := 641) rfl, List.mem_of_getElem? (i := 642) rfl⟩
set_option maxRecDepth 100000 in
theorem lw_p42 : lw_okq (⟨"FacingFieldsModel", "settles", "()V"⟩, 27) := ⟨⟨by decide +kernel, by decide +kernel⟩, List.mem_of_getElem? (i := 518) rfl, List.mem_of_getElem? (i := 645) rfl, List.mem_of_getElem? (i := 646) rfl⟩
set_option maxRecDepth 100000 in
theorem lw_p43 : lw_okq (⟨"FacingFieldsModel", "isMan", "(I)Z"⟩, 27) := ⟨⟨by decide +kernel, by decide +kernel⟩, List.mem_of_getElem? (i := 518) rfl, List.mem_of_getElem? (i := 653) rfl, List.mem_of_getElem? (i := 654) rfl⟩
set_option maxRecDepth 100000 in
theorem lw_p44 : lw_okq (⟨"FacingFieldsModel", "isCrop", "(I)Z"⟩, 27) := ⟨⟨by decide +kernel, by decide +kernel⟩, List.mem_of_getElem? (i := 518) rfl, List.mem_of_getElem? (i := 661) rfl, List.mem_of_getElem? (i := 662) rfl⟩
set_option maxRecDepth 100000 in
theorem lw_p45 : lw_okq (⟨"FacingFieldsModel", "carriesBy", "([III)I"⟩, 27) := ⟨⟨by decide +kernel, by decide +kernel⟩, List.mem_of_getElem? (i := 518) rfl, List.mem_of_getElem? (i := 669) rfl, List.mem_of_getElem? (i := 670) rfl⟩
set_option maxRecDepth 100000 in
theorem lw_p46 : lw_okq (⟨"FacingFieldsModel", "takesBy", "([II)I"⟩, 27) := ⟨⟨by decide +kernel, by decide +kernel⟩, List.mem_of_getElem? (i := 518) rfl, List.mem_of_getElem? (i := 678) rfl, List.mem_of_getElem? (i := 679) rfl⟩
set_option maxRecDepth 100000 in
theorem lw_p47 : lw_okq (⟨"FacingFieldsModel", "keptBy", "([II)I"⟩, 27) := ⟨⟨by decide +kernel, by decide +kernel⟩, List.mem_of_getElem? (i := 518) rfl, List.mem_of_getElem? (i := 682) rfl, List.mem_of_getElem? (i := 683) rfl⟩
def lw_privs_3 : List (MethodName × Nat) := [(⟨"FacingFields", "rateWidow", "(I)I"⟩, 15), (⟨"FacingFields", "rateBrother", "(I)I"⟩, 15), (⟨"FacingFields", "rateGleaner", "(I)I"⟩, 15), (⟨"FacingFields", "rateGuest", "(I)I"⟩, 15), (⟨"FacingFieldsModel", "advances", "()V"⟩, 27), (⟨"FacingFieldsModel", "letterAt", "(I)I"⟩, 27), (⟨"FacingFieldsModel", "isWell", "()Z"⟩, 27), (⟨"FacingFieldsModel", "takesToken", "(Z)I"⟩, 27), (⟨"FacingFieldsModel", "readsItem", "(I)V"⟩, 27), (⟨"FacingFieldsModel", "number", "(II)I"⟩, 27), (⟨"FacingFieldsModel", "settles", "()V"⟩, 27), (⟨"FacingFieldsModel", "isMan", "(I)Z"⟩, 27), (⟨"FacingFieldsModel", "isCrop", "(I)Z"⟩, 27), (⟨"FacingFieldsModel", "carriesBy", "([III)I"⟩, 27), (⟨"FacingFieldsModel", "takesBy", "([II)I"⟩, 27), (⟨"FacingFieldsModel", "keptBy", "([II)I"⟩, 27)]
theorem lw_r3 : ∀ q ∈ lw_privs_3, lw_okq q := List.forall_mem_cons.mpr ⟨lw_p32, List.forall_mem_cons.mpr ⟨lw_p33, List.forall_mem_cons.mpr ⟨lw_p34, List.forall_mem_cons.mpr ⟨lw_p35, List.forall_mem_cons.mpr ⟨lw_p36, List.forall_mem_cons.mpr ⟨lw_p37, List.forall_mem_cons.mpr ⟨lw_p38, List.forall_mem_cons.mpr ⟨lw_p39, List.forall_mem_cons.mpr ⟨lw_p40, List.forall_mem_cons.mpr ⟨lw_p41, List.forall_mem_cons.mpr ⟨lw_p42, List.forall_mem_cons.mpr ⟨lw_p43, List.forall_mem_cons.mpr ⟨lw_p44, List.forall_mem_cons.mpr ⟨lw_p45, List.forall_mem_cons.mpr ⟨lw_p46, List.forall_mem_cons.mpr ⟨lw_p47, fun _ h => absurd h List.not_mem_nil⟩⟩⟩⟩⟩⟩⟩⟩⟩⟩⟩⟩⟩⟩⟩⟩
set_option maxRecDepth 100000 in
theorem lw_p48 : lw_okq (⟨"FacingFieldsModel", "hasBy", "([II)I"⟩, 27) := ⟨⟨by decide +kernel, by decide +kernel⟩, List.mem_of_getElem? (i := 518) rfl, List.mem_of_getElem? (i := 686) rfl, List.mem_of_getElem? (i := 687) rfl⟩
set_option maxRecDepth 100000 in
theorem lw_p49 : lw_okq (⟨"FacingFieldsModel", "takenWorth", "([II)I"⟩, 27) := ⟨⟨by decide +kernel, by decide +kernel⟩, List.mem_of_getElem? (i := 518) rfl, List.mem_of_getElem? (i := 690) rfl, List.mem_of_getElem? (i := 691) rfl⟩
set_option maxRecDepth 100000 in
theorem lw_p50 : lw_okq (⟨"FacingFieldsModel", "hungries", "()I"⟩, 27) := ⟨⟨by decide +kernel, by decide +kernel⟩, List.mem_of_getElem? (i := 518) rfl, List.mem_of_getElem? (i := 698) rfl, List.mem_of_getElem? (i := 699) rfl⟩
set_option maxRecDepth 100000 in
theorem lw_p51 : lw_okq (⟨"FacingFieldsModel", "isHungry", "(I)Z"⟩, 27) := ⟨⟨by decide +kernel, by decide +kernel⟩, List.mem_of_getElem? (i := 518) rfl, List.mem_of_getElem? (i := 702) rfl, List.mem_of_getElem? (i := 703) rfl⟩
set_option maxRecDepth 100000 in
theorem lw_p52 : lw_okq (⟨"FacingFieldsModel", "asNow", "()V"⟩, 27) := ⟨⟨by decide +kernel, by decide +kernel⟩, List.mem_of_getElem? (i := 518) rfl, List.mem_of_getElem? (i := 706) rfl, List.mem_of_getElem? (i := 707) rfl⟩
set_option maxRecDepth 100000 in
theorem lw_p53 : lw_okq (⟨"FacingFieldsModel", "hasAll", "()I"⟩, 27) := ⟨⟨by decide +kernel, by decide +kernel⟩, List.mem_of_getElem? (i := 518) rfl, List.mem_of_getElem? (i := 710) rfl, List.mem_of_getElem? (i := 711) rfl⟩
set_option maxRecDepth 100000 in
theorem lw_p54 : lw_okq (⟨"FacingFieldsModel", "becomes", "(II)I"⟩, 27) := ⟨⟨by decide +kernel, by decide +kernel⟩, List.mem_of_getElem? (i := 518) rfl, List.mem_of_getElem? (i := 718) rfl, List.mem_of_getElem? (i := 719) rfl⟩
set_option maxRecDepth 100000 in
theorem lw_p55 : lw_okq (⟨"FacingFieldsModel", "notes", "()V"⟩, 27) := ⟨⟨by decide +kernel, by decide +kernel⟩, List.mem_of_getElem? (i := 518) rfl, List.mem_of_getElem? (i := 722) rfl, List.mem_of_getElem? (i := 723) rfl⟩
set_option maxRecDepth 100000 in
theorem lw_p56 : lw_okq (⟨"FacingFieldsModel", "puts", "([III)V"⟩, 27) := ⟨⟨by decide +kernel, by decide +kernel⟩, List.mem_of_getElem? (i := 518) rfl, List.mem_of_getElem? (i := 742) rfl, List.mem_of_getElem? (i := 743) rfl⟩
set_option maxRecDepth 100000 in
theorem lw_p57 : lw_okq (⟨"FacingFieldsModel", "goes", "([I)I"⟩, 27) := ⟨⟨by decide +kernel, by decide +kernel⟩, List.mem_of_getElem? (i := 518) rfl, List.mem_of_getElem? (i := 750) rfl, List.mem_of_getElem? (i := 751) rfl⟩
set_option maxRecDepth 100000 in
theorem lw_p58 : lw_okq (⟨"FacingFieldsModel", "isRest", "(IIII)Z"⟩, 27) := ⟨⟨by decide +kernel, by decide +kernel⟩, List.mem_of_getElem? (i := 518) rfl, List.mem_of_getElem? (i := 766) rfl, List.mem_of_getElem? (i := 767) rfl⟩
set_option maxRecDepth 100000 in
theorem lw_p59 : lw_okq (⟨"FacingFieldsModel", "hasWith", "(IIII)I"⟩, 27) := ⟨⟨by decide +kernel, by decide +kernel⟩, List.mem_of_getElem? (i := 518) rfl, List.mem_of_getElem? (i := 770) rfl, List.mem_of_getElem? (i := 771) rfl⟩
set_option maxRecDepth 100000 in
theorem lw_p60 : lw_okq (⟨"FacingFieldsModel", "isRow", "(I)Z"⟩, 27) := ⟨⟨by decide +kernel, by decide +kernel⟩, List.mem_of_getElem? (i := 518) rfl, List.mem_of_getElem? (i := 782) rfl, List.mem_of_getElem? (i := 783) rfl⟩
set_option maxRecDepth 100000 in
theorem lw_p61 : lw_okq (⟨"FacingFieldsModel", "leastBy", "()I"⟩, 27) := ⟨⟨by decide +kernel, by decide +kernel⟩, List.mem_of_getElem? (i := 518) rfl, List.mem_of_getElem? (i := 786) rfl, List.mem_of_getElem? (i := 787) rfl⟩
def lw_privs_4 : List (MethodName × Nat) := [(⟨"FacingFieldsModel", "hasBy", "([II)I"⟩, 27), (⟨"FacingFieldsModel", "takenWorth", "([II)I"⟩, 27), (⟨"FacingFieldsModel", "hungries", "()I"⟩, 27), (⟨"FacingFieldsModel", "isHungry", "(I)Z"⟩, 27), (⟨"FacingFieldsModel", "asNow", "()V"⟩, 27), (⟨"FacingFieldsModel", "hasAll", "()I"⟩, 27), (⟨"FacingFieldsModel", "becomes", "(II)I"⟩, 27), (⟨"FacingFieldsModel", "notes", "()V"⟩, 27), (⟨"FacingFieldsModel", "puts", "([III)V"⟩, 27), (⟨"FacingFieldsModel", "goes", "([I)I"⟩, 27), (⟨"FacingFieldsModel", "isRest", "(IIII)Z"⟩, 27), (⟨"FacingFieldsModel", "hasWith", "(IIII)I"⟩, 27), (⟨"FacingFieldsModel", "isRow", "(I)Z"⟩, 27), (⟨"FacingFieldsModel", "leastBy", "()I"⟩, 27)]
theorem lw_r4 : ∀ q ∈ lw_privs_4, lw_okq q := List.forall_mem_cons.mpr ⟨lw_p48, List.forall_mem_cons.mpr ⟨lw_p49, List.forall_mem_cons.mpr ⟨lw_p50, List.forall_mem_cons.mpr ⟨lw_p51, List.forall_mem_cons.mpr ⟨lw_p52, List.forall_mem_cons.mpr ⟨lw_p53, List.forall_mem_cons.mpr ⟨lw_p54, List.forall_mem_cons.mpr ⟨lw_p55, List.forall_mem_cons.mpr ⟨lw_p56, List.forall_mem_cons.mpr ⟨lw_p57, List.forall_mem_cons.mpr ⟨lw_p58, List.forall_mem_cons.mpr ⟨lw_p59, List.forall_mem_cons.mpr ⟨lw_p60, List.forall_mem_cons.mpr ⟨lw_p61, fun _ h => absurd h List.not_mem_nil⟩⟩⟩⟩⟩⟩⟩⟩⟩⟩⟩⟩⟩⟩
def lw_privs : List (MethodName × Nat) := lw_privs_1 ++ (lw_privs_2 ++ (lw_privs_3 ++ (lw_privs_4)))
def lw_tbl : List Cond := k2_sels lw_privs ++ tables_1
theorem lw_privs_ok : ∀ q ∈ lw_privs, lw_okq q := by
  show ∀ q ∈ lw_privs_1 ++ (lw_privs_2 ++ (lw_privs_3 ++ (lw_privs_4))), lw_okq q
  exact List.forall_mem_append.mpr ⟨lw_r1, List.forall_mem_append.mpr ⟨lw_r2, List.forall_mem_append.mpr ⟨lw_r3, lw_r4⟩⟩⟩
-- ===== end of PART A; then your names; then what follows =====
end
section
def RX0 : String := "FacingFields$Log"
def TX0 : u_T := fun k => match k with
  | 0 => ("FacingFields$Log", "ring", "[LFacingFields$Moment;", true)
  | 1 => ("FacingFields$Log", "next", "I", false)
  | _ => ("FacingFields$Log", "held", "I", false)
def tyX0 : Nat → FieldType := fun k => match k with
  | 0 => .array (.object "FacingFields$Moment")
  | 1 => .int
  | _ => .int
abbrev wsX00 : List Cond := u_ws RX0 TX0 3
theorem nmX0 : ∀ a, a < 3 → ∀ b, b < 3 → a ≠ b → (TX0 a).2.1 ≠ (TX0 b).2.1 := by decide +kernel
theorem tyX0_ok : ∀ k, k < 3 → parseFieldDescriptor (TX0 k).2.2.1 = some (tyX0 k) := by decide +kernel
abbrev cX0_init : ByteArray := prog_2_method_1_code
def yX0_init : MethodName := ⟨RX0, "<init>", "()V"⟩
abbrev cX0_add : ByteArray := prog_2_method_2_code
def yX0_add : MethodName := ⟨RX0, "add", "(LFacingFields$Moment;)V"⟩
abbrev cX0_takeLatest : ByteArray := prog_2_method_3_code
def yX0_takeLatest : MethodName := ⟨RX0, "takeLatest", "(LFacingFields$Moment;)V"⟩
def RX1 : String := "FacingFields$Moment"
def TX1 : u_T := fun k => match k with
  | 0 => ("FacingFields$Moment", "sown", "[I", true)
  | 1 => ("FacingFields$Moment", "facing", "[I", true)
  | 2 => ("FacingFields$Moment", "ropes", "[I", true)
  | 3 => ("FacingFields$Moment", "mules", "[I", true)
  | 4 => ("FacingFields$Moment", "stored", "[I", true)
  | 5 => ("FacingFields$Moment", "rain", "I", false)
  | _ => ("FacingFields$Moment", "years", "I", false)
def tyX1 : Nat → FieldType := fun k => match k with
  | 0 => .array .int
  | 1 => .array .int
  | 2 => .array .int
  | 3 => .array .int
  | 4 => .array .int
  | 5 => .int
  | _ => .int
abbrev wsX10 : List Cond := u_ws RX1 TX1 7
theorem nmX1 : ∀ a, a < 7 → ∀ b, b < 7 → a ≠ b → (TX1 a).2.1 ≠ (TX1 b).2.1 := by decide +kernel
theorem tyX1_ok : ∀ k, k < 7 → parseFieldDescriptor (TX1 k).2.2.1 = some (tyX1 k) := by decide +kernel
abbrev cX1_init : ByteArray := prog_3_method_1_code
def yX1_init : MethodName := ⟨RX1, "<init>", "()V"⟩
abbrev cX1_begin : ByteArray := prog_3_method_2_code
def yX1_begin : MethodName := ⟨RX1, "begin", "(I)V"⟩
abbrev cX1_copyFrom : ByteArray := prog_3_method_3_code
def yX1_copyFrom : MethodName := ⟨RX1, "copyFrom", "(LFacingFields$Moment;)V"⟩
def RX2 : String := "FacingFields$Text"
def TX2 : u_T := fun k => match k with
  | 0 => ("FacingFields$Text", "letters", "[I", true)
  | 1 => ("FacingFields$Text", "length", "I", false)
  | 2 => ("FacingFields$Text", "start", "I", false)
  | 3 => ("FacingFields$Text", "behind", "I", false)
  | _ => ("FacingFields$Text", "number", "I", false)
def tyX2 : Nat → FieldType := fun k => match k with
  | 0 => .array .int
  | 1 => .int
  | 2 => .int
  | 3 => .int
  | _ => .int
abbrev wsX20 : List Cond := u_ws RX2 TX2 5
theorem nmX2 : ∀ a, a < 5 → ∀ b, b < 5 → a ≠ b → (TX2 a).2.1 ≠ (TX2 b).2.1 := by decide +kernel
theorem tyX2_ok : ∀ k, k < 5 → parseFieldDescriptor (TX2 k).2.2.1 = some (tyX2 k) := by decide +kernel
abbrev cX2_init : ByteArray := prog_4_method_1_code
def yX2_init : MethodName := ⟨RX2, "<init>", "()V"⟩
abbrev cX2_readInto : ByteArray := prog_4_method_2_code
def yX2_readInto : MethodName := ⟨RX2, "readInto", "(LFacingFields$Told;)I"⟩
abbrev cX2_readItem : ByteArray := prog_4_method_3_code
def yX2_readItem : MethodName := ⟨RX2, "readItem", "(ILFacingFields$Told;)Z"⟩
abbrev cX2_readCrop : ByteArray := prog_4_method_4_code
def yX2_readCrop : MethodName := ⟨RX2, "readCrop", "(LFacingFields$Told;)Z"⟩
abbrev cX2_readMan : ByteArray := prog_4_method_5_code
def yX2_readMan : MethodName := ⟨RX2, "readMan", "(LFacingFields$Told;)Z"⟩
abbrev cX2_readNumber : ByteArray := prog_4_method_6_code
def yX2_readNumber : MethodName := ⟨RX2, "readNumber", "(II)Z"⟩
abbrev cX2_nextToken : ByteArray := prog_4_method_7_code
def yX2_nextToken : MethodName := ⟨RX2, "nextToken", "()I"⟩
abbrev cX2_numberToken : ByteArray := prog_4_method_8_code
def yX2_numberToken : MethodName := ⟨RX2, "numberToken", "()I"⟩
abbrev cX2_isDigit : ByteArray := prog_4_method_9_code
def yX2_isDigit : MethodName := ⟨RX2, "isDigit", "(I)Z"⟩
def RX3 : String := "FacingFields$Told"
def TX3 : u_T := fun k => match k with
  | 0 => ("FacingFields$Told", "crops", "I", false)
  | 1 => ("FacingFields$Told", "weight", "[I", true)
  | 2 => ("FacingFields$Told", "worth", "[I", true)
  | 3 => ("FacingFields$Told", "men", "I", false)
  | 4 => ("FacingFields$Told", "strong", "[I", true)
  | 5 => ("FacingFields$Told", "legs", "[I", true)
  | 6 => ("FacingFields$Told", "needs", "[I", true)
  | _ => ("FacingFields$Told", "yields", "[[I", true)
def tyX3 : Nat → FieldType := fun k => match k with
  | 0 => .int
  | 1 => .array .int
  | 2 => .array .int
  | 3 => .int
  | 4 => .array .int
  | 5 => .array .int
  | 6 => .array .int
  | _ => .array (.array .int)
abbrev wsX30 : List Cond := u_ws RX3 TX3 8
theorem nmX3 : ∀ a, a < 8 → ∀ b, b < 8 → a ≠ b → (TX3 a).2.1 ≠ (TX3 b).2.1 := by decide +kernel
theorem tyX3_ok : ∀ k, k < 8 → parseFieldDescriptor (TX3 k).2.2.1 = some (tyX3 k) := by decide +kernel
abbrev cX3_init : ByteArray := prog_5_method_1_code
def yX3_init : MethodName := ⟨RX3, "<init>", "()V"⟩
def RX4 : String := "FacingFields"
def TX4 : u_T := fun k => match k with
  | 0 => ("FacingFields", "text", "LFacingFields$Text;", true)
  | 1 => ("FacingFields", "told", "LFacingFields$Told;", false)
  | 2 => ("FacingFields", "spare", "LFacingFields$Told;", false)
  | 3 => ("FacingFields", "present", "LFacingFields$Moment;", true)
  | 4 => ("FacingFields", "trial", "LFacingFields$Moment;", true)
  | 5 => ("FacingFields", "log", "LFacingFields$Log;", true)
  | 6 => ("FacingFields", "images", "[LFacingFields$Moment;", true)
  | 7 => ("FacingFields", "imageKept", "[Z", true)
  | 8 => ("FacingFields", "stubbleMan", "[I", true)
  | 9 => ("FacingFields", "stubbleSheaves", "[I", true)
  | 10 => ("FacingFields", "stubbles", "I", false)
  | 11 => ("FacingFields", "bestFacing", "[I", true)
  | 12 => ("FacingFields", "bestLeast", "I", false)
  | 13 => ("FacingFields", "bestFound", "Z", false)
  | _ => ("FacingFields", "traced", "J", false)
def tyX4 : Nat → FieldType := fun k => match k with
  | 0 => .object "FacingFields$Text"
  | 1 => .object "FacingFields$Told"
  | 2 => .object "FacingFields$Told"
  | 3 => .object "FacingFields$Moment"
  | 4 => .object "FacingFields$Moment"
  | 5 => .object "FacingFields$Log"
  | 6 => .array (.object "FacingFields$Moment")
  | 7 => .array .boolean
  | 8 => .array .int
  | 9 => .array .int
  | 10 => .int
  | 11 => .array .int
  | 12 => .int
  | 13 => .boolean
  | _ => .long
abbrev wsX40 : List Cond := u_ws RX4 TX4 15
theorem nmX4 : ∀ a, a < 15 → ∀ b, b < 15 → a ≠ b → (TX4 a).2.1 ≠ (TX4 b).2.1 := by decide +kernel
theorem tyX4_ok : ∀ k, k < 15 → parseFieldDescriptor (TX4 k).2.2.1 = some (tyX4 k) := by decide +kernel
abbrev cX4_init : ByteArray := prog_1_method_1_code
def yX4_init : MethodName := ⟨RX4, "<init>", "()V"⟩
abbrev cX4_type : ByteArray := prog_1_method_2_code
def yX4_type : MethodName := ⟨RX4, "type", "(I)I"⟩
abbrev cX4_clear : ByteArray := prog_1_method_3_code
def yX4_clear : MethodName := ⟨RX4, "clear", "()I"⟩
abbrev cX4_valley : ByteArray := prog_1_method_4_code
def yX4_valley : MethodName := ⟨RX4, "valley", "()I"⟩
abbrev cX4_man : ByteArray := prog_1_method_5_code
def yX4_man : MethodName := ⟨RX4, "man", "(II)I"⟩
abbrev cX4_yieldOf : ByteArray := prog_1_method_6_code
def yX4_yieldOf : MethodName := ⟨RX4, "yieldOf", "(II)I"⟩
abbrev cX4_carries : ByteArray := prog_1_method_7_code
def yX4_carries : MethodName := ⟨RX4, "carries", "(II)I"⟩
abbrev cX4_has : ByteArray := prog_1_method_8_code
def yX4_has : MethodName := ⟨RX4, "has", "(II)I"⟩
abbrev cX4_now : ByteArray := prog_1_method_9_code
def yX4_now : MethodName := ⟨RX4, "now", "(I)I"⟩
abbrev cX4_sows : ByteArray := prog_1_method_10_code
def yX4_sows : MethodName := ⟨RX4, "sows", "(II)I"⟩
abbrev cX4_rains : ByteArray := prog_1_method_11_code
def yX4_rains : MethodName := ⟨RX4, "rains", "(I)I"⟩
abbrev cX4_ropes : ByteArray := prog_1_method_12_code
def yX4_ropes : MethodName := ⟨RX4, "ropes", "(II)I"⟩
abbrev cX4_mules : ByteArray := prog_1_method_13_code
def yX4_mules : MethodName := ⟨RX4, "mules", "(II)I"⟩
abbrev cX4_marries : ByteArray := prog_1_method_14_code
def yX4_marries : MethodName := ⟨RX4, "marries", "(II)I"⟩
abbrev cX4_year : ByteArray := prog_1_method_15_code
def yX4_year : MethodName := ⟨RX4, "year", "()I"⟩
abbrev cX4_undo : ByteArray := prog_1_method_16_code
def yX4_undo : MethodName := ⟨RX4, "undo", "()I"⟩
abbrev cX4_best : ByteArray := prog_1_method_17_code
def yX4_best : MethodName := ⟨RX4, "best", "(III)I"⟩
abbrev cX4_rest : ByteArray := prog_1_method_18_code
def yX4_rest : MethodName := ⟨RX4, "rest", "(II)I"⟩
abbrev cX4_hungry : ByteArray := prog_1_method_19_code
def yX4_hungry : MethodName := ⟨RX4, "hungry", "(I)I"⟩
abbrev cX4_faces : ByteArray := prog_1_method_20_code
def yX4_faces : MethodName := ⟨RX4, "faces", "(I)I"⟩
abbrev cX4_needed : ByteArray := prog_1_method_21_code
def yX4_needed : MethodName := ⟨RX4, "needed", "(I)I"⟩
abbrev cX4_stubble : ByteArray := prog_1_method_22_code
def yX4_stubble : MethodName := ⟨RX4, "stubble", "(II)I"⟩
abbrev cX4_forget : ByteArray := prog_1_method_23_code
def yX4_forget : MethodName := ⟨RX4, "forget", "()I"⟩
abbrev cX4_cut : ByteArray := prog_1_method_24_code
def yX4_cut : MethodName := ⟨RX4, "cut", "(I)I"⟩
abbrev cX4_odds : ByteArray := prog_1_method_25_code
def yX4_odds : MethodName := ⟨RX4, "odds", "(IIIII)I"⟩
abbrev cX4_rich : ByteArray := prog_1_method_26_code
def yX4_rich : MethodName := ⟨RX4, "rich", "(II)I"⟩
abbrev cX4_poor : ByteArray := prog_1_method_27_code
def yX4_poor : MethodName := ⟨RX4, "poor", "()I"⟩
abbrev cX4_share : ByteArray := prog_1_method_28_code
def yX4_share : MethodName := ⟨RX4, "share", "(II)I"⟩
abbrev cX4_rate : ByteArray := prog_1_method_29_code
def yX4_rate : MethodName := ⟨RX4, "rate", "(II)I"⟩
abbrev cX4_keep : ByteArray := prog_1_method_30_code
def yX4_keep : MethodName := ⟨RX4, "keep", "(I)I"⟩
abbrev cX4_back : ByteArray := prog_1_method_31_code
def yX4_back : MethodName := ⟨RX4, "back", "(I)I"⟩
abbrev cX4_count : ByteArray := prog_1_method_32_code
def yX4_count : MethodName := ⟨RX4, "count", "(I)I"⟩
abbrev cX4_trace : ByteArray := prog_1_method_33_code
def yX4_trace : MethodName := ⟨RX4, "trace", "()J"⟩
abbrev cX4_isMan : ByteArray := prog_1_method_34_code
def yX4_isMan : MethodName := ⟨RX4, "isMan", "(I)Z"⟩
abbrev cX4_isCrop : ByteArray := prog_1_method_35_code
def yX4_isCrop : MethodName := ⟨RX4, "isCrop", "(I)Z"⟩
abbrev cX4_isBelow : ByteArray := prog_1_method_36_code
def yX4_isBelow : MethodName := ⟨RX4, "isBelow", "(II)Z"⟩
abbrev cX4_isStorable : ByteArray := prog_1_method_37_code
def yX4_isStorable : MethodName := ⟨RX4, "isStorable", "(I)Z"⟩
abbrev cX4_carriedBy : ByteArray := prog_1_method_38_code
def yX4_carriedBy : MethodName := ⟨RX4, "carriedBy", "(LFacingFields$Moment;II)I"⟩
abbrev cX4_takenIf : ByteArray := prog_1_method_39_code
def yX4_takenIf : MethodName := ⟨RX4, "takenIf", "(LFacingFields$Moment;II)I"⟩
abbrev cX4_takenBy : ByteArray := prog_1_method_40_code
def yX4_takenBy : MethodName := ⟨RX4, "takenBy", "(LFacingFields$Moment;I)I"⟩
abbrev cX4_keptBy : ByteArray := prog_1_method_41_code
def yX4_keptBy : MethodName := ⟨RX4, "keptBy", "(LFacingFields$Moment;I)I"⟩
abbrev cX4_wealthOf : ByteArray := prog_1_method_42_code
def yX4_wealthOf : MethodName := ⟨RX4, "wealthOf", "(LFacingFields$Moment;I)I"⟩
abbrev cX4_gainOf : ByteArray := prog_1_method_43_code
def yX4_gainOf : MethodName := ⟨RX4, "gainOf", "(LFacingFields$Moment;I)I"⟩
abbrev cX4_wealthOfAll : ByteArray := prog_1_method_44_code
def yX4_wealthOfAll : MethodName := ⟨RX4, "wealthOfAll", "()I"⟩
abbrev cX4_ropesOfAll : ByteArray := prog_1_method_45_code
def yX4_ropesOfAll : MethodName := ⟨RX4, "ropesOfAll", "()I"⟩
abbrev cX4_exchange : ByteArray := prog_1_method_46_code
def yX4_exchange : MethodName := ⟨RX4, "exchange", "(II)V"⟩
abbrev cX4_mostBySowing : ByteArray := prog_1_method_47_code
def yX4_mostBySowing : MethodName := ⟨RX4, "mostBySowing", "(I)I"⟩
abbrev cX4_isContent : ByteArray := prog_1_method_48_code
def yX4_isContent : MethodName := ⟨RX4, "isContent", "(I)Z"⟩
abbrev cX4_isHungry : ByteArray := prog_1_method_49_code
def yX4_isHungry : MethodName := ⟨RX4, "isHungry", "(I)Z"⟩
abbrev cX4_hungryBits : ByteArray := prog_1_method_50_code
def yX4_hungryBits : MethodName := ⟨RX4, "hungryBits", "()I"⟩
abbrev cX4_tryFacing : ByteArray := prog_1_method_51_code
def yX4_tryFacing : MethodName := ⟨RX4, "tryFacing", "(IZ)V"⟩
abbrev cX4_firstUnchosen : ByteArray := prog_1_method_52_code
def yX4_firstUnchosen : MethodName := ⟨RX4, "firstUnchosen", "()I"⟩
abbrev cX4_weighFacing : ByteArray := prog_1_method_53_code
def yX4_weighFacing : MethodName := ⟨RX4, "weighFacing", "()V"⟩
abbrev cX4_tryRopes : ByteArray := prog_1_method_54_code
def yX4_tryRopes : MethodName := ⟨RX4, "tryRopes", "()I"⟩
abbrev cX4_ropesAlone : ByteArray := prog_1_method_55_code
def yX4_ropesAlone : MethodName := ⟨RX4, "ropesAlone", "(I)I"⟩
abbrev cX4_ropesOfTwo : ByteArray := prog_1_method_56_code
def yX4_ropesOfTwo : MethodName := ⟨RX4, "ropesOfTwo", "(II)I"⟩
abbrev cX4_fitsStubble : ByteArray := prog_1_method_57_code
def yX4_fitsStubble : MethodName := ⟨RX4, "fitsStubble", "(II)Z"⟩
abbrev cX4_storedBehind : ByteArray := prog_1_method_58_code
def yX4_storedBehind : MethodName := ⟨RX4, "storedBehind", "(II)I"⟩
abbrev cX4_yearsTillPoor : ByteArray := prog_1_method_59_code
def yX4_yearsTillPoor : MethodName := ⟨RX4, "yearsTillPoor", "(I)I"⟩
abbrev cX4_chancesOf : ByteArray := prog_1_method_60_code
def yX4_chancesOf : MethodName := ⟨RX4, "chancesOf", "(IIII)I"⟩
abbrev cX4_inLeastTerms : ByteArray := prog_1_method_61_code
def yX4_inLeastTerms : MethodName := ⟨RX4, "inLeastTerms", "(III)I"⟩
abbrev cX4_rateMan : ByteArray := prog_1_method_62_code
def yX4_rateMan : MethodName := ⟨RX4, "rateMan", "(I)I"⟩
abbrev cX4_rateGiant : ByteArray := prog_1_method_63_code
def yX4_rateGiant : MethodName := ⟨RX4, "rateGiant", "(I)I"⟩
abbrev cX4_rateWidow : ByteArray := prog_1_method_64_code
def yX4_rateWidow : MethodName := ⟨RX4, "rateWidow", "(I)I"⟩
abbrev cX4_rateBrother : ByteArray := prog_1_method_65_code
def yX4_rateBrother : MethodName := ⟨RX4, "rateBrother", "(I)I"⟩
abbrev cX4_rateGleaner : ByteArray := prog_1_method_66_code
def yX4_rateGleaner : MethodName := ⟨RX4, "rateGleaner", "(I)I"⟩
abbrev cX4_rateGuest : ByteArray := prog_1_method_67_code
def yX4_rateGuest : MethodName := ⟨RX4, "rateGuest", "(I)I"⟩
def RX5 : String := "FacingFieldsModel"
def TX5 : u_T := fun k => match k with
  | 0 => ("FacingFieldsModel", "thrown", "I", false)
  | 1 => ("FacingFieldsModel", "trace", "J", false)
  | 2 => ("FacingFieldsModel", "text", "[I", true)
  | 3 => ("FacingFieldsModel", "typed", "I", false)
  | 4 => ("FacingFieldsModel", "next", "I", false)
  | 5 => ("FacingFieldsModel", "token", "I", false)
  | 6 => ("FacingFieldsModel", "place", "I", false)
  | 7 => ("FacingFieldsModel", "value", "I", false)
  | 8 => ("FacingFieldsModel", "fault", "I", false)
  | 9 => ("FacingFieldsModel", "many", "[I", true)
  | 10 => ("FacingFieldsModel", "weight", "[I", true)
  | 11 => ("FacingFieldsModel", "worth", "[I", true)
  | 12 => ("FacingFieldsModel", "strong", "[I", true)
  | 13 => ("FacingFieldsModel", "legs", "[I", true)
  | 14 => ("FacingFieldsModel", "needs", "[I", true)
  | 15 => ("FacingFieldsModel", "yields", "[I", true)
  | 16 => ("FacingFieldsModel", "s", "[I", true)
  | 17 => ("FacingFieldsModel", "w", "[I", true)
  | 18 => ("FacingFieldsModel", "kept", "[I", true)
  | 19 => ("FacingFieldsModel", "isKept", "[Z", true)
  | 20 => ("FacingFieldsModel", "undos", "[I", true)
  | 21 => ("FacingFieldsModel", "undoMany", "I", false)
  | 22 => ("FacingFieldsModel", "stubbleOf", "[I", true)
  | 23 => ("FacingFieldsModel", "stubbleMany", "[I", true)
  | 24 => ("FacingFieldsModel", "stubbles", "I", false)
  | 25 => ("FacingFieldsModel", "pair", "[I", true)
  | _ => ("FacingFieldsModel", "best", "[I", true)
def tyX5 : Nat → FieldType := fun k => match k with
  | 0 => .int
  | 1 => .long
  | 2 => .array .int
  | 3 => .int
  | 4 => .int
  | 5 => .int
  | 6 => .int
  | 7 => .int
  | 8 => .int
  | 9 => .array .int
  | 10 => .array .int
  | 11 => .array .int
  | 12 => .array .int
  | 13 => .array .int
  | 14 => .array .int
  | 15 => .array .int
  | 16 => .array .int
  | 17 => .array .int
  | 18 => .array .int
  | 19 => .array .boolean
  | 20 => .array .int
  | 21 => .int
  | 22 => .array .int
  | 23 => .array .int
  | 24 => .int
  | 25 => .array .int
  | _ => .array .int
abbrev wsX50 : List Cond := u_ws RX5 TX5 27
theorem nmX5 : ∀ a, a < 27 → ∀ b, b < 27 → a ≠ b → (TX5 a).2.1 ≠ (TX5 b).2.1 := by decide +kernel
theorem tyX5_ok : ∀ k, k < 27 → parseFieldDescriptor (TX5 k).2.2.1 = some (tyX5 k) := by decide +kernel
abbrev cX5_init : ByteArray := prog_7_method_1_code
def yX5_init : MethodName := ⟨RX5, "<init>", "()V"⟩
abbrev cX5_in : ByteArray := prog_7_method_3_code
def yX5_in : MethodName := ⟨RX5, "in", "(III)Z"⟩
abbrev cX5_type : ByteArray := prog_7_method_4_code
def yX5_type : MethodName := ⟨RX5, "type", "(I)I"⟩
abbrev cX5_clear : ByteArray := prog_7_method_5_code
def yX5_clear : MethodName := ⟨RX5, "clear", "()I"⟩
abbrev cX5_letterAt : ByteArray := prog_7_method_6_code
def yX5_letterAt : MethodName := ⟨RX5, "letterAt", "(I)I"⟩
abbrev cX5_advances : ByteArray := prog_7_method_7_code
def yX5_advances : MethodName := ⟨RX5, "advances", "()V"⟩
abbrev cX5_isWell : ByteArray := prog_7_method_8_code
def yX5_isWell : MethodName := ⟨RX5, "isWell", "()Z"⟩
abbrev cX5_takesToken : ByteArray := prog_7_method_9_code
def yX5_takesToken : MethodName := ⟨RX5, "takesToken", "(Z)I"⟩
abbrev cX5_number : ByteArray := prog_7_method_10_code
def yX5_number : MethodName := ⟨RX5, "number", "(II)I"⟩
abbrev cX5_readsItem : ByteArray := prog_7_method_11_code
def yX5_readsItem : MethodName := ⟨RX5, "readsItem", "(I)V"⟩
abbrev cX5_valley : ByteArray := prog_7_method_12_code
def yX5_valley : MethodName := ⟨RX5, "valley", "()I"⟩
abbrev cX5_settles : ByteArray := prog_7_method_13_code
def yX5_settles : MethodName := ⟨RX5, "settles", "()V"⟩
abbrev cX5_isMan : ByteArray := prog_7_method_14_code
def yX5_isMan : MethodName := ⟨RX5, "isMan", "(I)Z"⟩
abbrev cX5_isCrop : ByteArray := prog_7_method_15_code
def yX5_isCrop : MethodName := ⟨RX5, "isCrop", "(I)Z"⟩
abbrev cX5_carriesBy : ByteArray := prog_7_method_16_code
def yX5_carriesBy : MethodName := ⟨RX5, "carriesBy", "([III)I"⟩
abbrev cX5_takesBy : ByteArray := prog_7_method_17_code
def yX5_takesBy : MethodName := ⟨RX5, "takesBy", "([II)I"⟩
abbrev cX5_keptBy : ByteArray := prog_7_method_18_code
def yX5_keptBy : MethodName := ⟨RX5, "keptBy", "([II)I"⟩
abbrev cX5_takenWorth : ByteArray := prog_7_method_19_code
def yX5_takenWorth : MethodName := ⟨RX5, "takenWorth", "([II)I"⟩
abbrev cX5_hasBy : ByteArray := prog_7_method_20_code
def yX5_hasBy : MethodName := ⟨RX5, "hasBy", "([II)I"⟩
abbrev cX5_man : ByteArray := prog_7_method_21_code
def yX5_man : MethodName := ⟨RX5, "man", "(II)I"⟩
abbrev cX5_yieldOf : ByteArray := prog_7_method_22_code
def yX5_yieldOf : MethodName := ⟨RX5, "yieldOf", "(II)I"⟩
abbrev cX5_carries : ByteArray := prog_7_method_23_code
def yX5_carries : MethodName := ⟨RX5, "carries", "(II)I"⟩
abbrev cX5_has : ByteArray := prog_7_method_24_code
def yX5_has : MethodName := ⟨RX5, "has", "(II)I"⟩
abbrev cX5_hasAll : ByteArray := prog_7_method_25_code
def yX5_hasAll : MethodName := ⟨RX5, "hasAll", "()I"⟩
abbrev cX5_hungries : ByteArray := prog_7_method_26_code
def yX5_hungries : MethodName := ⟨RX5, "hungries", "()I"⟩
abbrev cX5_now : ByteArray := prog_7_method_27_code
def yX5_now : MethodName := ⟨RX5, "now", "(I)I"⟩
abbrev cX5_notes : ByteArray := prog_7_method_28_code
def yX5_notes : MethodName := ⟨RX5, "notes", "()V"⟩
abbrev cX5_becomes : ByteArray := prog_7_method_29_code
def yX5_becomes : MethodName := ⟨RX5, "becomes", "(II)I"⟩
abbrev cX5_sows : ByteArray := prog_7_method_30_code
def yX5_sows : MethodName := ⟨RX5, "sows", "(II)I"⟩
abbrev cX5_rains : ByteArray := prog_7_method_31_code
def yX5_rains : MethodName := ⟨RX5, "rains", "(I)I"⟩
abbrev cX5_ropes : ByteArray := prog_7_method_32_code
def yX5_ropes : MethodName := ⟨RX5, "ropes", "(II)I"⟩
abbrev cX5_mules : ByteArray := prog_7_method_33_code
def yX5_mules : MethodName := ⟨RX5, "mules", "(II)I"⟩
abbrev cX5_puts : ByteArray := prog_7_method_34_code
def yX5_puts : MethodName := ⟨RX5, "puts", "([III)V"⟩
abbrev cX5_marries : ByteArray := prog_7_method_35_code
def yX5_marries : MethodName := ⟨RX5, "marries", "(II)I"⟩
abbrev cX5_goes : ByteArray := prog_7_method_36_code
def yX5_goes : MethodName := ⟨RX5, "goes", "([I)I"⟩
abbrev cX5_year : ByteArray := prog_7_method_37_code
def yX5_year : MethodName := ⟨RX5, "year", "()I"⟩
abbrev cX5_undo : ByteArray := prog_7_method_38_code
def yX5_undo : MethodName := ⟨RX5, "undo", "()I"⟩
abbrev cX5_asNow : ByteArray := prog_7_method_39_code
def yX5_asNow : MethodName := ⟨RX5, "asNow", "()V"⟩
abbrev cX5_best : ByteArray := prog_7_method_40_code
def yX5_best : MethodName := ⟨RX5, "best", "(III)I"⟩
abbrev cX5_hasWith : ByteArray := prog_7_method_41_code
def yX5_hasWith : MethodName := ⟨RX5, "hasWith", "(IIII)I"⟩
abbrev cX5_isRest : ByteArray := prog_7_method_42_code
def yX5_isRest : MethodName := ⟨RX5, "isRest", "(IIII)Z"⟩
abbrev cX5_rest : ByteArray := prog_7_method_43_code
def yX5_rest : MethodName := ⟨RX5, "rest", "(II)I"⟩
abbrev cX5_isHungry : ByteArray := prog_7_method_44_code
def yX5_isHungry : MethodName := ⟨RX5, "isHungry", "(I)Z"⟩
abbrev cX5_hungry : ByteArray := prog_7_method_45_code
def yX5_hungry : MethodName := ⟨RX5, "hungry", "(I)I"⟩
abbrev cX5_leastBy : ByteArray := prog_7_method_46_code
def yX5_leastBy : MethodName := ⟨RX5, "leastBy", "()I"⟩
abbrev cX5_isRow : ByteArray := prog_7_method_47_code
def yX5_isRow : MethodName := ⟨RX5, "isRow", "(I)Z"⟩
abbrev cX5_faces : ByteArray := prog_7_method_48_code
def yX5_faces : MethodName := ⟨RX5, "faces", "(I)I"⟩
abbrev cX5_needed : ByteArray := prog_7_method_49_code
def yX5_needed : MethodName := ⟨RX5, "needed", "(I)I"⟩
abbrev cX5_stubble : ByteArray := prog_7_method_50_code
def yX5_stubble : MethodName := ⟨RX5, "stubble", "(II)I"⟩
abbrev cX5_forget : ByteArray := prog_7_method_51_code
def yX5_forget : MethodName := ⟨RX5, "forget", "()I"⟩
abbrev cX5_cut : ByteArray := prog_7_method_52_code
def yX5_cut : MethodName := ⟨RX5, "cut", "(I)I"⟩
abbrev cX5_power : ByteArray := prog_7_method_53_code
def yX5_power : MethodName := ⟨RX5, "power", "(II)I"⟩
abbrev cX5_gcd : ByteArray := prog_7_method_54_code
def yX5_gcd : MethodName := ⟨RX5, "gcd", "(II)I"⟩
abbrev cX5_odds : ByteArray := prog_7_method_55_code
def yX5_odds : MethodName := ⟨RX5, "odds", "(IIIII)I"⟩
abbrev cX5_rich : ByteArray := prog_7_method_56_code
def yX5_rich : MethodName := ⟨RX5, "rich", "(II)I"⟩
abbrev cX5_poor : ByteArray := prog_7_method_57_code
def yX5_poor : MethodName := ⟨RX5, "poor", "()I"⟩
abbrev cX5_share : ByteArray := prog_7_method_58_code
def yX5_share : MethodName := ⟨RX5, "share", "(II)I"⟩
abbrev cX5_rate : ByteArray := prog_7_method_59_code
def yX5_rate : MethodName := ⟨RX5, "rate", "(II)I"⟩
abbrev cX5_keep : ByteArray := prog_7_method_60_code
def yX5_keep : MethodName := ⟨RX5, "keep", "(I)I"⟩
abbrev cX5_back : ByteArray := prog_7_method_61_code
def yX5_back : MethodName := ⟨RX5, "back", "(I)I"⟩
abbrev cX5_count : ByteArray := prog_7_method_62_code
def yX5_count : MethodName := ⟨RX5, "count", "(I)I"⟩
abbrev cX5_trace : ByteArray := prog_7_method_63_code
def yX5_trace : MethodName := ⟨RX5, "trace", "()J"⟩
def RJ9 : String := "java/lang/Math"
def TJ9 : u_T := fun k => match k with
  | _ => ("", "", "", false)
def tyJ9 : Nat → FieldType := fun k => match k with
  | _ => .int
abbrev wsJ90 : List Cond := u_ws RJ9 TJ9 0
theorem nmJ9 : ∀ a, a < 0 → ∀ b, b < 0 → a ≠ b → (TJ9 a).2.1 ≠ (TJ9 b).2.1 := by decide +kernel
theorem tyJ9_ok : ∀ k, k < 0 → parseFieldDescriptor (TJ9 k).2.2.1 = some (tyJ9 k) := by decide +kernel
abbrev cJ9_max_7cf53 : ByteArray := prog_8_method_65_code
def yJ9_max_7cf53 : MethodName := ⟨RJ9, "max", "(II)I"⟩
abbrev cJ9_min_7cf53 : ByteArray := prog_8_method_69_code
def yJ9_min_7cf53 : MethodName := ⟨RJ9, "min", "(II)I"⟩
def RJ10 : String := "java/lang/System"
def TJ10 : u_T := fun k => match k with
  | _ => ("", "", "", false)
def tyJ10 : Nat → FieldType := fun k => match k with
  | _ => .int
abbrev wsJ100 : List Cond := u_ws RJ10 TJ10 0
theorem nmJ10 : ∀ a, a < 0 → ∀ b, b < 0 → a ≠ b → (TJ10 a).2.1 ≠ (TJ10 b).2.1 := by decide +kernel
theorem tyJ10_ok : ∀ k, k < 0 → parseFieldDescriptor (TJ10 k).2.2.1 = some (tyJ10 k) := by decide +kernel
def RL : String := "FacingFieldsLaw"
abbrev cL_law : ByteArray := code
def yL_law : MethodName := ⟨RL, "law", "([I)Z"⟩
def wsL_law_r1 : List Cond := [Cond.classLink RL 7 RX4, Cond.instantiable RX4 15, Cond.initialized RX4, Cond.classLink RL 10 RX5, Cond.instantiable RX5 27, Cond.initialized RX5, Cond.methodLink RL 9 yX4_init, Cond.instanceMethod yX4_init, Cond.code yX4_init cX4_init 2 none, Cond.methodLink RX4 1 objectInit, Cond.instanceMethod objectInit, Cond.code objectInit ⟨#[0xb1]⟩ 1 none, Cond.classLink RX4 7 RX2, Cond.instantiable RX2 5, Cond.initialized RX2, Cond.fieldLink RX4 10 "FacingFields" "text" "LFacingFields$Text;", Cond.classLink RX4 16 RX3, Cond.instantiable RX3 8, Cond.initialized RX3, Cond.fieldLink RX4 19 "FacingFields" "told" "LFacingFields$Told;", Cond.fieldLink RX4 23 "FacingFields" "spare" "LFacingFields$Told;", Cond.classLink RX4 26 RX1, Cond.instantiable RX1 7, Cond.initialized RX1]
def wsL_law_r2 : List Cond := [Cond.fieldLink RX4 29 "FacingFields" "present" "LFacingFields$Moment;", Cond.fieldLink RX4 33 "FacingFields" "trial" "LFacingFields$Moment;", Cond.classLink RX4 36 RX0, Cond.instantiable RX0 3, Cond.initialized RX0, Cond.fieldLink RX4 39 "FacingFields" "log" "LFacingFields$Log;", Cond.fieldLink RX4 43 "FacingFields" "images" "[LFacingFields$Moment;", Cond.arrayClass .boolean, Cond.fieldLink RX4 47 "FacingFields" "imageKept" "[Z", Cond.arrayClass .int, Cond.fieldLink RX4 51 "FacingFields" "stubbleMan" "[I", Cond.fieldLink RX4 55 "FacingFields" "stubbleSheaves" "[I", Cond.fieldLink RX4 58 "FacingFields" "bestFacing" "[I", Cond.instanceMethod yX2_init, Cond.code yX2_init cX2_init 1 none, Cond.methodLink RX2 3 objectInit, Cond.fieldLink RX2 9 "FacingFields$Text" "letters" "[I", Cond.instanceMethod yX3_init, Cond.code yX3_init cX3_init 1 none, Cond.methodLink RX3 3 objectInit, Cond.fieldLink RX3 9 "FacingFields$Told" "weight" "[I", Cond.fieldLink RX3 15 "FacingFields$Told" "worth" "[I", Cond.fieldLink RX3 18 "FacingFields$Told" "strong" "[I", Cond.fieldLink RX3 21 "FacingFields$Told" "legs" "[I"]
def wsL_law_r3 : List Cond := [Cond.fieldLink RX3 24 "FacingFields$Told" "needs" "[I", Cond.classLink RX3 27 "[[I", Cond.fieldLink RX3 29 "FacingFields$Told" "yields" "[[I", Cond.instanceMethod yX1_init, Cond.code yX1_init cX1_init 1 none, Cond.methodLink RX1 3 objectInit, Cond.fieldLink RX1 9 "FacingFields$Moment" "sown" "[I", Cond.fieldLink RX1 15 "FacingFields$Moment" "facing" "[I", Cond.fieldLink RX1 18 "FacingFields$Moment" "ropes" "[I", Cond.fieldLink RX1 21 "FacingFields$Moment" "mules" "[I", Cond.fieldLink RX1 24 "FacingFields$Moment" "stored" "[I", Cond.methodLink RX4 38 yX0_init, Cond.instanceMethod yX0_init, Cond.code yX0_init cX0_init 2 none, Cond.methodLink RX0 3 objectInit, Cond.classLink RX0 9 RX1, Cond.fieldLink RX0 11 "FacingFields$Log" "ring" "[LFacingFields$Moment;", Cond.methodLink RX4 61 yX1_begin, Cond.instanceMethod yX1_begin, Cond.selects RX1 yX1_begin yX1_begin, Cond.code yX1_begin cX1_begin 4 none, Cond.fieldLink RX1 27 "FacingFields$Moment" "rain" "I", Cond.fieldLink RX1 31 "FacingFields$Moment" "years" "I", Cond.methodLink RL 12 yX5_init]
def wsL_law_r4 : List Cond := [Cond.instanceMethod yX5_init, Cond.code yX5_init cX5_init 1 none, Cond.methodLink RX5 1 objectInit, Cond.fieldLink RX5 7 "FacingFieldsModel" "text" "[I", Cond.fieldLink RX5 13 "FacingFieldsModel" "many" "[I", Cond.fieldLink RX5 16 "FacingFieldsModel" "weight" "[I", Cond.fieldLink RX5 19 "FacingFieldsModel" "worth" "[I", Cond.fieldLink RX5 22 "FacingFieldsModel" "strong" "[I", Cond.fieldLink RX5 25 "FacingFieldsModel" "legs" "[I", Cond.fieldLink RX5 28 "FacingFieldsModel" "needs" "[I", Cond.fieldLink RX5 31 "FacingFieldsModel" "yields" "[I", Cond.fieldLink RX5 34 "FacingFieldsModel" "s" "[I", Cond.fieldLink RX5 37 "FacingFieldsModel" "w" "[I", Cond.fieldLink RX5 40 "FacingFieldsModel" "kept" "[I", Cond.fieldLink RX5 43 "FacingFieldsModel" "isKept" "[Z", Cond.fieldLink RX5 47 "FacingFieldsModel" "undos" "[I", Cond.fieldLink RX5 50 "FacingFieldsModel" "stubbleOf" "[I", Cond.fieldLink RX5 53 "FacingFieldsModel" "stubbleMany" "[I", Cond.fieldLink RX5 56 "FacingFieldsModel" "pair" "[I", Cond.fieldLink RX5 59 "FacingFieldsModel" "best" "[I", Cond.methodLink RL 13 yX4_type, Cond.instanceMethod yX4_type, Cond.selects RX4 yX4_type yX4_type, Cond.code yX4_type cX4_type 2 (some .int)]
def wsL_law_r5 : List Cond := [Cond.fieldLink RX4 65 "FacingFields$Text" "length" "I", Cond.fieldLink RX4 69 "FacingFields$Text" "letters" "[I", Cond.methodLink RL 17 yX5_type, Cond.instanceMethod yX5_type, Cond.selects RX5 yX5_type yX5_type, Cond.code yX5_type cX5_type 2 (some .int), Cond.fieldLink RX5 62 "FacingFieldsModel" "thrown" "I", Cond.fieldLink RX5 70 "FacingFieldsModel" "typed" "I", Cond.methodLink RX5 66 yX5_in, Cond.static yX5_in, Cond.code yX5_in cX5_in 3 (some .boolean), Cond.methodLink RL 18 yX4_clear, Cond.instanceMethod yX4_clear, Cond.selects RX4 yX4_clear yX4_clear, Cond.code yX4_clear cX4_clear 2 (some .int), Cond.methodLink RL 22 yX5_clear, Cond.instanceMethod yX5_clear, Cond.selects RX5 yX5_clear yX5_clear, Cond.code yX5_clear cX5_clear 2 (some .int), Cond.methodLink RL 23 yX4_valley, Cond.instanceMethod yX4_valley, Cond.selects RX4 yX4_valley yX4_valley, Cond.code yX4_valley cX4_valley 4 (some .int), Cond.fieldLink RX4 76 "FacingFields$Told" "men" "I"]
def wsL_law_r6 : List Cond := [Cond.fieldLink RX4 79 "FacingFields$Log" "held" "I", Cond.fieldLink RX4 82 "FacingFields" "stubbles" "I", Cond.methodLink RX4 72 yX2_readInto, Cond.instanceMethod yX2_readInto, Cond.selects RX2 yX2_readInto yX2_readInto, Cond.code yX2_readInto cX2_readInto 5 (some .int), Cond.fieldLink RX2 15 "FacingFields$Told" "crops" "I", Cond.fieldLink RX2 21 "FacingFields$Told" "men" "I", Cond.fieldLink RX2 24 "FacingFields$Text" "behind" "I", Cond.fieldLink RX2 35 "FacingFields$Text" "start" "I", Cond.methodLink RX2 27 yX2_nextToken, Cond.instanceMethod yX2_nextToken, Cond.selects RX2 yX2_nextToken yX2_nextToken, Cond.code yX2_nextToken cX2_nextToken 1 (some .int), Cond.fieldLink RX2 71 "FacingFields$Text" "length" "I", Cond.methodLink RX2 74 yX2_isDigit, Cond.static yX2_isDigit, Cond.code yX2_isDigit cX2_isDigit 1 (some .boolean), Cond.methodLink RX2 78 yX2_numberToken, Cond.instanceMethod yX2_numberToken, Cond.selects RX2 yX2_numberToken yX2_numberToken, Cond.code yX2_numberToken cX2_numberToken 2 (some .int), Cond.fieldLink RX2 52 "FacingFields$Text" "number" "I", Cond.methodLink RX2 81 Lib.Math.min.name]
def wsL_law_r7 : List Cond := [Cond.static Lib.Math.min.name, Cond.initialized "java/lang/Math", Cond.code Lib.Math.min.name Lib.Math.min.code 2 (some .int), Cond.methodLink RX2 31 yX2_readItem, Cond.instanceMethod yX2_readItem, Cond.selects RX2 yX2_readItem yX2_readItem, Cond.code yX2_readItem cX2_readItem 3 (some .boolean), Cond.methodLink RX2 38 yX2_readCrop, Cond.instanceMethod yX2_readCrop, Cond.selects RX2 yX2_readCrop yX2_readCrop, Cond.code yX2_readCrop cX2_readCrop 3 (some .boolean), Cond.fieldLink RX2 49 "FacingFields$Told" "weight" "[I", Cond.fieldLink RX2 55 "FacingFields$Told" "worth" "[I", Cond.methodLink RX2 45 yX2_readNumber, Cond.instanceMethod yX2_readNumber, Cond.selects RX2 yX2_readNumber yX2_readNumber, Cond.code yX2_readNumber cX2_readNumber 3 (some .boolean), Cond.methodLink RX2 42 yX2_readMan, Cond.instanceMethod yX2_readMan, Cond.selects RX2 yX2_readMan yX2_readMan, Cond.code yX2_readMan cX2_readMan 4 (some .boolean), Cond.fieldLink RX2 58 "FacingFields$Told" "strong" "[I", Cond.fieldLink RX2 61 "FacingFields$Told" "legs" "[I", Cond.fieldLink RX2 64 "FacingFields$Told" "needs" "[I"]
def wsL_law_r8 : List Cond := [Cond.fieldLink RX2 67 "FacingFields$Told" "yields" "[[I", Cond.methodLink RL 26 yX5_valley, Cond.instanceMethod yX5_valley, Cond.selects RX5 yX5_valley yX5_valley, Cond.code yX5_valley cX5_valley 3 (some .int), Cond.fieldLink RX5 89 "FacingFieldsModel" "fault" "I", Cond.fieldLink RX5 73 "FacingFieldsModel" "next" "I", Cond.fieldLink RX5 83 "FacingFieldsModel" "token" "I", Cond.fieldLink RX5 86 "FacingFieldsModel" "value" "I", Cond.methodLink RX5 96 yX5_advances, Cond.instanceMethod yX5_advances, Cond.selects RX5 yX5_advances yX5_advances, Cond.code yX5_advances cX5_advances 2 none, Cond.fieldLink RX5 80 "FacingFieldsModel" "place" "I", Cond.methodLink RX5 76 yX5_letterAt, Cond.instanceMethod yX5_letterAt, Cond.selects RX5 yX5_letterAt yX5_letterAt, Cond.code yX5_letterAt cX5_letterAt 2 (some .int), Cond.methodLink RX5 92 yX5_isWell, Cond.instanceMethod yX5_isWell, Cond.selects RX5 yX5_isWell yX5_isWell, Cond.code yX5_isWell cX5_isWell 1 (some .boolean), Cond.methodLink RX5 99 yX5_takesToken, Cond.instanceMethod yX5_takesToken]
def wsL_law_r9 : List Cond := [Cond.selects RX5 yX5_takesToken yX5_takesToken, Cond.code yX5_takesToken cX5_takesToken 3 (some .int), Cond.methodLink RX5 107 yX5_readsItem, Cond.instanceMethod yX5_readsItem, Cond.selects RX5 yX5_readsItem yX5_readsItem, Cond.code yX5_readsItem cX5_readsItem 4 none, Cond.methodLink RX5 103 yX5_number, Cond.instanceMethod yX5_number, Cond.selects RX5 yX5_number yX5_number, Cond.code yX5_number cX5_number 3 (some .int), Cond.methodLink RX5 111 yX5_settles, Cond.instanceMethod yX5_settles, Cond.selects RX5 yX5_settles yX5_settles, Cond.code yX5_settles cX5_settles 3 none, Cond.fieldLink RX5 114 "FacingFieldsModel" "stubbles" "I", Cond.fieldLink RX5 117 "FacingFieldsModel" "undoMany" "I", Cond.methodLink RL 27 yX4_man, Cond.instanceMethod yX4_man, Cond.selects RX4 yX4_man yX4_man, Cond.code yX4_man cX4_man 3 (some .int), Cond.fieldLink RX4 89 "FacingFields$Told" "strong" "[I", Cond.fieldLink RX4 92 "FacingFields$Told" "legs" "[I", Cond.fieldLink RX4 95 "FacingFields$Told" "needs" "[I", Cond.fieldLink RX4 98 "FacingFields$Moment" "sown" "[I"]
def wsL_law_r10 : List Cond := [Cond.fieldLink RX4 101 "FacingFields$Moment" "facing" "[I", Cond.fieldLink RX4 104 "FacingFields$Moment" "ropes" "[I", Cond.fieldLink RX4 107 "FacingFields$Moment" "mules" "[I", Cond.methodLink RX4 85 yX4_isMan, Cond.instanceMethod yX4_isMan, Cond.selects RX4 yX4_isMan yX4_isMan, Cond.code yX4_isMan cX4_isMan 2 (some .boolean), Cond.methodLink RX4 155 yX4_isBelow, Cond.static yX4_isBelow, Cond.code yX4_isBelow cX4_isBelow 2 (some .boolean), Cond.methodLink RL 31 yX5_man, Cond.instanceMethod yX5_man, Cond.selects RX5 yX5_man yX5_man, Cond.code yX5_man cX5_man 3 (some .int), Cond.methodLink RX5 134 yX5_isMan, Cond.instanceMethod yX5_isMan, Cond.selects RX5 yX5_isMan yX5_isMan, Cond.code yX5_isMan cX5_isMan 2 (some .boolean), Cond.methodLink RL 32 yX4_yieldOf, Cond.instanceMethod yX4_yieldOf, Cond.selects RX4 yX4_yieldOf yX4_yieldOf, Cond.code yX4_yieldOf cX4_yieldOf 3 (some .int), Cond.fieldLink RX4 113 "FacingFields$Told" "yields" "[[I", Cond.methodLink RX4 110 yX4_isCrop]
def wsL_law_r11 : List Cond := [Cond.instanceMethod yX4_isCrop, Cond.selects RX4 yX4_isCrop yX4_isCrop, Cond.code yX4_isCrop cX4_isCrop 2 (some .boolean), Cond.fieldLink RX4 176 "FacingFields$Told" "crops" "I", Cond.methodLink RL 35 yX5_yieldOf, Cond.instanceMethod yX5_yieldOf, Cond.selects RX5 yX5_yieldOf yX5_yieldOf, Cond.code yX5_yieldOf cX5_yieldOf 3 (some .int), Cond.methodLink RX5 138 yX5_isCrop, Cond.instanceMethod yX5_isCrop, Cond.selects RX5 yX5_isCrop yX5_isCrop, Cond.code yX5_isCrop cX5_isCrop 2 (some .boolean), Cond.methodLink RL 36 yX4_carries, Cond.instanceMethod yX4_carries, Cond.selects RX4 yX4_carries yX4_carries, Cond.code yX4_carries cX4_carries 3 (some .int), Cond.methodLink RX4 117 yX4_carriedBy, Cond.instanceMethod yX4_carriedBy, Cond.selects RX4 yX4_carriedBy yX4_carriedBy, Cond.code yX4_carriedBy cX4_carriedBy 7 (some .int), Cond.fieldLink RX4 245 "FacingFields$Told" "weight" "[I", Cond.fieldLink RX4 138 "FacingFields$Moment" "rain" "I", Cond.methodLink RL 39 yX5_carries, Cond.instanceMethod yX5_carries]
def wsL_law_r12 : List Cond := [Cond.selects RX5 yX5_carries yX5_carries, Cond.code yX5_carries cX5_carries 3 (some .int), Cond.methodLink RX5 120 yX5_carriesBy, Cond.instanceMethod yX5_carriesBy, Cond.selects RX5 yX5_carriesBy yX5_carriesBy, Cond.code yX5_carriesBy cX5_carriesBy 5 (some .int), Cond.methodLink RL 40 yX4_has, Cond.instanceMethod yX4_has, Cond.selects RX4 yX4_has yX4_has, Cond.code yX4_has cX4_has 3 (some .int), Cond.constant RX4 121 (-1000000), Cond.fieldLink RX4 132 "FacingFields$Moment" "stored" "[I", Cond.methodLink RX4 122 yX4_takenBy, Cond.instanceMethod yX4_takenBy, Cond.selects RX4 yX4_takenBy yX4_takenBy, Cond.code yX4_takenBy cX4_takenBy 4 (some .int), Cond.methodLink RX4 202 yX4_takenIf, Cond.instanceMethod yX4_takenIf, Cond.selects RX4 yX4_takenIf yX4_takenIf, Cond.code yX4_takenIf cX4_takenIf 5 (some .int), Cond.methodLink RX4 248 Lib.Math.min.name, Cond.methodLink RX4 126 yX4_keptBy, Cond.instanceMethod yX4_keptBy, Cond.selects RX4 yX4_keptBy yX4_keptBy]
def wsL_law_r13 : List Cond := [Cond.code yX4_keptBy cX4_keptBy 5 (some .int), Cond.methodLink RX4 129 yX4_wealthOf, Cond.instanceMethod yX4_wealthOf, Cond.selects RX4 yX4_wealthOf yX4_wealthOf, Cond.code yX4_wealthOf cX4_wealthOf 7 (some .int), Cond.fieldLink RX4 179 "FacingFields$Told" "worth" "[I", Cond.methodLink RL 43 yX5_has, Cond.instanceMethod yX5_has, Cond.selects RX5 yX5_has yX5_has, Cond.code yX5_has cX5_has 3 (some .int), Cond.constant RX5 141 (-1000000), Cond.methodLink RX5 124 yX5_takesBy, Cond.instanceMethod yX5_takesBy, Cond.selects RX5 yX5_takesBy yX5_takesBy, Cond.code yX5_takesBy cX5_takesBy 7 (some .int), Cond.methodLink RX5 131 yX5_keptBy, Cond.instanceMethod yX5_keptBy, Cond.selects RX5 yX5_keptBy yX5_keptBy, Cond.code yX5_keptBy cX5_keptBy 4 (some .int), Cond.methodLink RX5 142 yX5_hasBy, Cond.instanceMethod yX5_hasBy, Cond.selects RX5 yX5_hasBy yX5_hasBy, Cond.code yX5_hasBy cX5_hasBy 3 (some .int), Cond.methodLink RX5 128 yX5_takenWorth]
def wsL_law_r14 : List Cond := [Cond.instanceMethod yX5_takenWorth, Cond.selects RX5 yX5_takenWorth yX5_takenWorth, Cond.code yX5_takenWorth cX5_takenWorth 4 (some .int), Cond.methodLink RL 44 yX4_now, Cond.instanceMethod yX4_now, Cond.selects RX4 yX4_now yX4_now, Cond.code yX4_now cX4_now 2 (some .int), Cond.fieldLink RX4 135 "FacingFields$Moment" "years" "I", Cond.methodLink RX4 141 yX4_ropesOfAll, Cond.instanceMethod yX4_ropesOfAll, Cond.selects RX4 yX4_ropesOfAll yX4_ropesOfAll, Cond.code yX4_ropesOfAll cX4_ropesOfAll 3 (some .int), Cond.methodLink RX4 145 yX4_hungryBits, Cond.instanceMethod yX4_hungryBits, Cond.selects RX4 yX4_hungryBits yX4_hungryBits, Cond.code yX4_hungryBits cX4_hungryBits 3 (some .int), Cond.methodLink RX4 185 yX4_isHungry, Cond.instanceMethod yX4_isHungry, Cond.selects RX4 yX4_isHungry yX4_isHungry, Cond.code yX4_isHungry cX4_isHungry 4 (some .boolean), Cond.methodLink RX4 173 yX1_copyFrom, Cond.instanceMethod yX1_copyFrom, Cond.selects RX1 yX1_copyFrom yX1_copyFrom, Cond.code yX1_copyFrom cX1_copyFrom 2 none]
def wsL_law_r15 : List Cond := [Cond.methodLink RX1 34 arraycopyName, Cond.native arraycopyName, Cond.static arraycopyName, Cond.initialized "java/lang/System", Cond.methodLink RX4 256 yX4_mostBySowing, Cond.instanceMethod yX4_mostBySowing, Cond.selects RX4 yX4_mostBySowing yX4_mostBySowing, Cond.code yX4_mostBySowing cX4_mostBySowing 5 (some .int), Cond.methodLink RX4 253 Lib.Math.max.name, Cond.static Lib.Math.max.name, Cond.code Lib.Math.max.name Lib.Math.max.code 2 (some .int), Cond.methodLink RX4 148 yX4_wealthOfAll, Cond.instanceMethod yX4_wealthOfAll, Cond.selects RX4 yX4_wealthOfAll yX4_wealthOfAll, Cond.code yX4_wealthOfAll cX4_wealthOfAll 3 (some .int), Cond.methodLink RL 47 yX5_now, Cond.instanceMethod yX5_now, Cond.selects RX5 yX5_now yX5_now, Cond.code yX5_now cX5_now 4 (some .int), Cond.methodLink RX5 148 yX5_hungries, Cond.instanceMethod yX5_hungries, Cond.selects RX5 yX5_hungries yX5_hungries, Cond.code yX5_hungries cX5_hungries 3 (some .int), Cond.methodLink RX5 145 yX5_isHungry]
def wsL_law_r16 : List Cond := [Cond.instanceMethod yX5_isHungry, Cond.selects RX5 yX5_isHungry yX5_isHungry, Cond.code yX5_isHungry cX5_isHungry 6 (some .boolean), Cond.methodLink RX5 169 yX5_asNow, Cond.instanceMethod yX5_asNow, Cond.selects RX5 yX5_asNow yX5_asNow, Cond.code yX5_asNow cX5_asNow 2 none, Cond.methodLink RX5 152 yX5_hasAll, Cond.instanceMethod yX5_hasAll, Cond.selects RX5 yX5_hasAll yX5_hasAll, Cond.code yX5_hasAll cX5_hasAll 3 (some .int), Cond.methodLink RL 48 yX4_sows, Cond.instanceMethod yX4_sows, Cond.selects RX4 yX4_sows yX4_sows, Cond.code yX4_sows cX4_sows 4 (some .int), Cond.methodLink RX4 151 yX0_add, Cond.instanceMethod yX0_add, Cond.selects RX0 yX0_add yX0_add, Cond.code yX0_add cX0_add 2 none, Cond.fieldLink RX0 18 "FacingFields$Log" "next" "I", Cond.fieldLink RX0 26 "FacingFields$Log" "held" "I", Cond.methodLink RX0 29 Lib.Math.min.name, Cond.methodLink RX0 22 yX1_copyFrom, Cond.methodLink RL 51 yX5_sows]
def wsL_law_r17 : List Cond := [Cond.instanceMethod yX5_sows, Cond.selects RX5 yX5_sows yX5_sows, Cond.code yX5_sows cX5_sows 3 (some .int), Cond.methodLink RX5 158 yX5_becomes, Cond.instanceMethod yX5_becomes, Cond.selects RX5 yX5_becomes yX5_becomes, Cond.code yX5_becomes cX5_becomes 4 (some .int), Cond.methodLink RX5 155 yX5_notes, Cond.instanceMethod yX5_notes, Cond.selects RX5 yX5_notes yX5_notes, Cond.code yX5_notes cX5_notes 2 none, Cond.methodLink RL 52 yX4_rains, Cond.instanceMethod yX4_rains, Cond.selects RX4 yX4_rains yX4_rains, Cond.code yX4_rains cX4_rains 3 (some .int), Cond.methodLink RL 55 yX5_rains, Cond.instanceMethod yX5_rains, Cond.selects RX5 yX5_rains yX5_rains, Cond.code yX5_rains cX5_rains 2 (some .int), Cond.methodLink RL 56 yX4_ropes, Cond.instanceMethod yX4_ropes, Cond.selects RX4 yX4_ropes yX4_ropes, Cond.code yX4_ropes cX4_ropes 4 (some .int), Cond.methodLink RL 59 yX5_ropes]
def wsL_law_r18 : List Cond := [Cond.instanceMethod yX5_ropes, Cond.selects RX5 yX5_ropes yX5_ropes, Cond.code yX5_ropes cX5_ropes 3 (some .int), Cond.methodLink RL 60 yX4_mules, Cond.instanceMethod yX4_mules, Cond.selects RX4 yX4_mules yX4_mules, Cond.code yX4_mules cX4_mules 4 (some .int), Cond.methodLink RL 63 yX5_mules, Cond.instanceMethod yX5_mules, Cond.selects RX5 yX5_mules yX5_mules, Cond.code yX5_mules cX5_mules 3 (some .int), Cond.methodLink RL 64 yX4_marries, Cond.instanceMethod yX4_marries, Cond.selects RX4 yX4_marries yX4_marries, Cond.code yX4_marries cX4_marries 3 (some .int), Cond.methodLink RX4 159 yX4_exchange, Cond.instanceMethod yX4_exchange, Cond.selects RX4 yX4_exchange yX4_exchange, Cond.code yX4_exchange cX4_exchange 5 none, Cond.methodLink RL 67 yX5_marries, Cond.instanceMethod yX5_marries, Cond.selects RX5 yX5_marries yX5_marries, Cond.code yX5_marries cX5_marries 5 (some .int), Cond.methodLink RX5 161 yX5_puts]
def wsL_law_r19 : List Cond := [Cond.instanceMethod yX5_puts, Cond.selects RX5 yX5_puts yX5_puts, Cond.code yX5_puts cX5_puts 4 none, Cond.methodLink RL 68 yX4_year, Cond.instanceMethod yX4_year, Cond.selects RX4 yX4_year yX4_year, Cond.code yX4_year cX4_year 4 (some .int), Cond.methodLink RX4 163 yX4_gainOf, Cond.instanceMethod yX4_gainOf, Cond.selects RX4 yX4_gainOf yX4_gainOf, Cond.code yX4_gainOf cX4_gainOf 3 (some .int), Cond.methodLink RX4 166 yX4_storedBehind, Cond.static yX4_storedBehind, Cond.code yX4_storedBehind cX4_storedBehind 2 (some .int), Cond.methodLink RL 71 yX5_year, Cond.instanceMethod yX5_year, Cond.selects RX5 yX5_year yX5_year, Cond.code yX5_year cX5_year 1 (some .int), Cond.methodLink RX5 165 yX5_goes, Cond.instanceMethod yX5_goes, Cond.selects RX5 yX5_goes yX5_goes, Cond.code yX5_goes cX5_goes 6 (some .int), Cond.methodLink RL 72 yX4_undo, Cond.instanceMethod yX4_undo]
def wsL_law_r20 : List Cond := [Cond.selects RX4 yX4_undo yX4_undo, Cond.code yX4_undo cX4_undo 1 (some .int), Cond.methodLink RX4 170 yX0_takeLatest, Cond.instanceMethod yX0_takeLatest, Cond.selects RX0 yX0_takeLatest yX0_takeLatest, Cond.code yX0_takeLatest cX0_takeLatest 2 none, Cond.methodLink RL 75 yX5_undo, Cond.instanceMethod yX5_undo, Cond.selects RX5 yX5_undo yX5_undo, Cond.code yX5_undo cX5_undo 2 (some .int), Cond.methodLink RL 76 yX4_best, Cond.instanceMethod yX4_best, Cond.selects RX4 yX4_best yX4_best, Cond.code yX4_best cX4_best 10 (some .int), Cond.methodLink RL 80 yX5_best, Cond.instanceMethod yX5_best, Cond.selects RX5 yX5_best yX5_best, Cond.code yX5_best cX5_best 9 (some .int), Cond.methodLink RL 81 yX4_rest, Cond.instanceMethod yX4_rest, Cond.selects RX4 yX4_rest yX4_rest, Cond.code yX4_rest cX4_rest 8 (some .int), Cond.methodLink RX4 182 yX4_isContent, Cond.instanceMethod yX4_isContent]
def wsL_law_r21 : List Cond := [Cond.selects RX4 yX4_isContent yX4_isContent, Cond.code yX4_isContent cX4_isContent 2 (some .boolean), Cond.methodLink RL 84 yX5_rest, Cond.instanceMethod yX5_rest, Cond.selects RX5 yX5_rest yX5_rest, Cond.code yX5_rest cX5_rest 8 (some .int), Cond.methodLink RX5 176 yX5_isRest, Cond.instanceMethod yX5_isRest, Cond.selects RX5 yX5_isRest yX5_isRest, Cond.code yX5_isRest cX5_isRest 7 (some .boolean), Cond.methodLink RX5 172 yX5_hasWith, Cond.instanceMethod yX5_hasWith, Cond.selects RX5 yX5_hasWith yX5_hasWith, Cond.code yX5_hasWith cX5_hasWith 5 (some .int), Cond.methodLink RL 85 yX4_hungry, Cond.instanceMethod yX4_hungry, Cond.selects RX4 yX4_hungry yX4_hungry, Cond.code yX4_hungry cX4_hungry 2 (some .int), Cond.methodLink RL 88 yX5_hungry, Cond.instanceMethod yX5_hungry, Cond.selects RX5 yX5_hungry yX5_hungry, Cond.code yX5_hungry cX5_hungry 2 (some .int), Cond.methodLink RL 89 yX4_faces, Cond.instanceMethod yX4_faces]
def wsL_law_r22 : List Cond := [Cond.selects RX4 yX4_faces yX4_faces, Cond.code yX4_faces cX4_faces 3 (some .int), Cond.fieldLink RX4 188 "FacingFields" "bestFound" "Z", Cond.fieldLink RX4 196 "FacingFields" "bestLeast" "I", Cond.methodLink RX4 192 yX4_tryFacing, Cond.instanceMethod yX4_tryFacing, Cond.selects RX4 yX4_tryFacing yX4_tryFacing, Cond.code yX4_tryFacing cX4_tryFacing 5 none, Cond.methodLink RX4 259 yX4_firstUnchosen, Cond.instanceMethod yX4_firstUnchosen, Cond.selects RX4 yX4_firstUnchosen yX4_firstUnchosen, Cond.code yX4_firstUnchosen cX4_firstUnchosen 2 (some .int), Cond.methodLink RX4 262 yX4_weighFacing, Cond.instanceMethod yX4_weighFacing, Cond.selects RX4 yX4_weighFacing yX4_weighFacing, Cond.code yX4_weighFacing cX4_weighFacing 3 none, Cond.methodLink RX4 265 arraycopyName, Cond.methodLink RL 92 yX5_faces, Cond.instanceMethod yX5_faces, Cond.selects RX5 yX5_faces yX5_faces, Cond.code yX5_faces cX5_faces 6 (some .int), Cond.methodLink RX5 181 yX5_isRow, Cond.instanceMethod yX5_isRow, Cond.selects RX5 yX5_isRow yX5_isRow]
def wsL_law_r23 : List Cond := [Cond.code yX5_isRow cX5_isRow 6 (some .boolean), Cond.methodLink RX5 184 yX5_leastBy, Cond.instanceMethod yX5_leastBy, Cond.selects RX5 yX5_leastBy yX5_leastBy, Cond.code yX5_leastBy cX5_leastBy 4 (some .int), Cond.constant RX5 180 (1000000), Cond.methodLink RL 93 yX4_needed, Cond.instanceMethod yX4_needed, Cond.selects RX4 yX4_needed yX4_needed, Cond.code yX4_needed cX4_needed 3 (some .int), Cond.methodLink RX4 199 yX4_tryRopes, Cond.instanceMethod yX4_tryRopes, Cond.selects RX4 yX4_tryRopes yX4_tryRopes, Cond.code yX4_tryRopes cX4_tryRopes 5 (some .int), Cond.methodLink RX4 271 yX4_ropesAlone, Cond.instanceMethod yX4_ropesAlone, Cond.selects RX4 yX4_ropesAlone yX4_ropesAlone, Cond.code yX4_ropesAlone cX4_ropesAlone 2 (some .int), Cond.methodLink RX4 274 yX4_ropesOfTwo, Cond.instanceMethod yX4_ropesOfTwo, Cond.selects RX4 yX4_ropesOfTwo yX4_ropesOfTwo, Cond.code yX4_ropesOfTwo cX4_ropesOfTwo 8 (some .int), Cond.methodLink RL 96 yX5_needed, Cond.instanceMethod yX5_needed]
def wsL_law_r24 : List Cond := [Cond.selects RX5 yX5_needed yX5_needed, Cond.code yX5_needed cX5_needed 7 (some .int), Cond.methodLink RL 97 yX4_stubble, Cond.instanceMethod yX4_stubble, Cond.selects RX4 yX4_stubble yX4_stubble, Cond.code yX4_stubble cX4_stubble 3 (some .int), Cond.methodLink RL 100 yX5_stubble, Cond.instanceMethod yX5_stubble, Cond.selects RX5 yX5_stubble yX5_stubble, Cond.code yX5_stubble cX5_stubble 3 (some .int), Cond.methodLink RL 101 yX4_forget, Cond.instanceMethod yX4_forget, Cond.selects RX4 yX4_forget yX4_forget, Cond.code yX4_forget cX4_forget 2 (some .int), Cond.methodLink RL 104 yX5_forget, Cond.instanceMethod yX5_forget, Cond.selects RX5 yX5_forget yX5_forget, Cond.code yX5_forget cX5_forget 2 (some .int), Cond.methodLink RL 105 yX4_cut, Cond.instanceMethod yX4_cut, Cond.selects RX4 yX4_cut yX4_cut, Cond.code yX4_cut cX4_cut 4 (some .int), Cond.methodLink RX4 205 yX4_fitsStubble, Cond.instanceMethod yX4_fitsStubble]
def wsL_law_r25 : List Cond := [Cond.selects RX4 yX4_fitsStubble yX4_fitsStubble, Cond.code yX4_fitsStubble cX4_fitsStubble 4 (some .boolean), Cond.methodLink RL 108 yX5_cut, Cond.instanceMethod yX5_cut, Cond.selects RX5 yX5_cut yX5_cut, Cond.code yX5_cut cX5_cut 7 (some .int), Cond.methodLink RL 109 yX4_odds, Cond.instanceMethod yX4_odds, Cond.selects RX4 yX4_odds yX4_odds, Cond.code yX4_odds cX4_odds 8 (some .int), Cond.methodLink RX4 208 yX4_isStorable, Cond.static yX4_isStorable, Cond.code yX4_isStorable cX4_isStorable 1 (some .boolean), Cond.methodLink RX4 211 yX4_chancesOf, Cond.instanceMethod yX4_chancesOf, Cond.selects RX4 yX4_chancesOf yX4_chancesOf, Cond.code yX4_chancesOf cX4_chancesOf 13 (some .int), Cond.methodLink RX4 215 yX4_inLeastTerms, Cond.static yX4_inLeastTerms, Cond.code yX4_inLeastTerms cX4_inLeastTerms 7 (some .int), Cond.methodLink RL 113 yX5_odds, Cond.instanceMethod yX5_odds, Cond.selects RX5 yX5_odds yX5_odds, Cond.code yX5_odds cX5_odds 10 (some .int)]
def wsL_law_r26 : List Cond := [Cond.methodLink RX5 187 yX5_power, Cond.static yX5_power, Cond.code yX5_power cX5_power 4 (some .int), Cond.methodLink RX5 190 yX5_gcd, Cond.static yX5_gcd, Cond.code yX5_gcd cX5_gcd 5 (some .int), Cond.methodLink RL 114 yX4_rich, Cond.instanceMethod yX4_rich, Cond.selects RX4 yX4_rich yX4_rich, Cond.code yX4_rich cX4_rich 6 (some .int), Cond.methodLink RL 117 yX5_rich, Cond.instanceMethod yX5_rich, Cond.selects RX5 yX5_rich yX5_rich, Cond.code yX5_rich cX5_rich 4 (some .int), Cond.methodLink RL 118 yX4_poor, Cond.instanceMethod yX4_poor, Cond.selects RX4 yX4_poor yX4_poor, Cond.code yX4_poor cX4_poor 4 (some .int), Cond.methodLink RX4 219 yX4_yearsTillPoor, Cond.instanceMethod yX4_yearsTillPoor, Cond.selects RX4 yX4_yearsTillPoor yX4_yearsTillPoor, Cond.code yX4_yearsTillPoor cX4_yearsTillPoor 5 (some .int), Cond.methodLink RL 121 yX5_poor, Cond.instanceMethod yX5_poor]
def wsL_law_r27 : List Cond := [Cond.selects RX5 yX5_poor yX5_poor, Cond.code yX5_poor cX5_poor 3 (some .int), Cond.methodLink RL 122 yX4_share, Cond.instanceMethod yX4_share, Cond.selects RX4 yX4_share yX4_share, Cond.code yX4_share cX4_share 3 (some .int), Cond.methodLink RL 125 yX5_share, Cond.instanceMethod yX5_share, Cond.selects RX5 yX5_share yX5_share, Cond.code yX5_share cX5_share 4 (some .int), Cond.methodLink RL 126 yX4_rate, Cond.instanceMethod yX4_rate, Cond.selects RX4 yX4_rate yX4_rate, Cond.code yX4_rate cX4_rate 3 (some .int), Cond.methodLink RX4 223 yX4_rateMan, Cond.instanceMethod yX4_rateMan, Cond.selects RX4 yX4_rateMan yX4_rateMan, Cond.code yX4_rateMan cX4_rateMan 2 (some .int), Cond.fieldLink RX4 241 "FacingFields" "traced" "J", Cond.methodLink RX4 226 yX4_rateGiant, Cond.instanceMethod yX4_rateGiant, Cond.selects RX4 yX4_rateGiant yX4_rateGiant, Cond.code yX4_rateGiant cX4_rateGiant 2 (some .int), Cond.constantLong RX4 277 (10)]
def wsL_law_r28 : List Cond := [Cond.methodLink RX4 229 yX4_rateWidow, Cond.instanceMethod yX4_rateWidow, Cond.selects RX4 yX4_rateWidow yX4_rateWidow, Cond.code yX4_rateWidow cX4_rateWidow 2 (some .int), Cond.constantLong RX4 279 (100), Cond.methodLink RX4 232 yX4_rateBrother, Cond.instanceMethod yX4_rateBrother, Cond.selects RX4 yX4_rateBrother yX4_rateBrother, Cond.code yX4_rateBrother cX4_rateBrother 2 (some .int), Cond.constantLong RX4 281 (1000), Cond.methodLink RX4 235 yX4_rateGleaner, Cond.instanceMethod yX4_rateGleaner, Cond.selects RX4 yX4_rateGleaner yX4_rateGleaner, Cond.code yX4_rateGleaner cX4_rateGleaner 2 (some .int), Cond.constantLong RX4 283 (10000), Cond.methodLink RX4 238 yX4_rateGuest, Cond.instanceMethod yX4_rateGuest, Cond.selects RX4 yX4_rateGuest yX4_rateGuest, Cond.code yX4_rateGuest cX4_rateGuest 2 (some .int), Cond.constantLong RX4 285 (100000), Cond.methodLink RL 129 yX5_rate, Cond.instanceMethod yX5_rate, Cond.selects RX5 yX5_rate yX5_rate, Cond.code yX5_rate cX5_rate 4 (some .int)]
def wsL_law_r29 : List Cond := [Cond.fieldLink RX5 193 "FacingFieldsModel" "trace" "J", Cond.constantLong RX5 197 (11), Cond.constantLong RX5 199 (101), Cond.constantLong RX5 201 (1011), Cond.constantLong RX5 203 (10101), Cond.constantLong RX5 205 (100001), Cond.methodLink RL 130 yX4_keep, Cond.instanceMethod yX4_keep, Cond.selects RX4 yX4_keep yX4_keep, Cond.code yX4_keep cX4_keep 2 (some .int), Cond.methodLink RL 133 yX5_keep, Cond.instanceMethod yX5_keep, Cond.selects RX5 yX5_keep yX5_keep, Cond.code yX5_keep cX5_keep 3 (some .int), Cond.methodLink RL 134 yX4_back, Cond.instanceMethod yX4_back, Cond.selects RX4 yX4_back yX4_back, Cond.code yX4_back cX4_back 2 (some .int), Cond.methodLink RL 137 yX5_back, Cond.instanceMethod yX5_back, Cond.selects RX5 yX5_back yX5_back, Cond.code yX5_back cX5_back 3 (some .int), Cond.methodLink RL 138 yX4_count, Cond.instanceMethod yX4_count]
def wsL_law_r30 : List Cond := [Cond.selects RX4 yX4_count yX4_count, Cond.code yX4_count cX4_count 2 (some .int), Cond.methodLink RL 141 yX5_count, Cond.instanceMethod yX5_count, Cond.selects RX5 yX5_count yX5_count, Cond.code yX5_count cX5_count 2 (some .int), Cond.methodLink RL 142 yX4_trace, Cond.instanceMethod yX4_trace, Cond.selects RX4 yX4_trace yX4_trace, Cond.code yX4_trace cX4_trace 1 (some .long), Cond.methodLink RL 146 yX5_trace, Cond.instanceMethod yX5_trace, Cond.selects RX5 yX5_trace yX5_trace, Cond.code yX5_trace cX5_trace 1 (some .long)]
def wsL_law : List Cond := (wsL_law_r1 ++ (wsL_law_r2 ++ (wsL_law_r3 ++ (wsL_law_r4 ++ (wsL_law_r5 ++ (wsL_law_r6 ++ (wsL_law_r7 ++ (wsL_law_r8 ++ (wsL_law_r9 ++ (wsL_law_r10 ++ (wsL_law_r11 ++ (wsL_law_r12 ++ (wsL_law_r13 ++ (wsL_law_r14 ++ (wsL_law_r15 ++ (wsL_law_r16 ++ (wsL_law_r17 ++ (wsL_law_r18 ++ (wsL_law_r19 ++ (wsL_law_r20 ++ (wsL_law_r21 ++ (wsL_law_r22 ++ (wsL_law_r23 ++ (wsL_law_r24 ++ (wsL_law_r25 ++ (wsL_law_r26 ++ (wsL_law_r27 ++ (wsL_law_r28 ++ (wsL_law_r29 ++ wsL_law_r30))))))))))))))))))))))))))))) ++ wsX40 ++ wsX50 ++ wsX20 ++ wsX30 ++ wsX10 ++ wsX00 ++ ([] : List Cond)
set_option maxRecDepth 100000 in
theorem tL_1 : ∀ w ∈ wsL_law_r1, w ∈ lw_tbl := List.forall_mem_cons.mpr ⟨List.mem_of_getElem? (i := 71) rfl, List.forall_mem_cons.mpr ⟨List.mem_of_getElem? (i := 72) rfl, List.forall_mem_cons.mpr ⟨List.mem_of_getElem? (i := 63) rfl, List.forall_mem_cons.mpr ⟨List.mem_of_getElem? (i := 579) rfl, List.forall_mem_cons.mpr ⟨List.mem_of_getElem? (i := 580) rfl, List.forall_mem_cons.mpr ⟨List.mem_of_getElem? (i := 68) rfl, List.forall_mem_cons.mpr ⟨List.mem_of_getElem? (i := 73) rfl, List.forall_mem_cons.mpr ⟨List.mem_of_getElem? (i := 74) rfl, List.forall_mem_cons.mpr ⟨List.mem_of_getElem? (i := 75) rfl, List.forall_mem_cons.mpr ⟨List.mem_of_getElem? (i := 76) rfl, List.forall_mem_cons.mpr ⟨List.mem_of_getElem? (i := 77) rfl, List.forall_mem_cons.mpr ⟨List.mem_of_getElem? (i := 78) rfl, List.forall_mem_cons.mpr ⟨List.mem_of_getElem? (i := 79) rfl, List.forall_mem_cons.mpr ⟨List.mem_of_getElem? (i := 80) rfl, List.forall_mem_cons.mpr ⟨List.mem_of_getElem? (i := 64) rfl, List.forall_mem_cons.mpr ⟨List.mem_of_getElem? (i := 210) rfl, List.forall_mem_cons.mpr ⟨List.mem_of_getElem? (i := 104) rfl, List.forall_mem_cons.mpr ⟨List.mem_of_getElem? (i := 105) rfl, List.forall_mem_cons.mpr ⟨List.mem_of_getElem? (i := 65) rfl, List.forall_mem_cons.mpr ⟨List.mem_of_getElem? (i := 211) rfl, List.forall_mem_cons.mpr ⟨List.mem_of_getElem? (i := 212) rfl, List.forall_mem_cons.mpr ⟨List.mem_of_getElem? (i := 151) rfl, List.forall_mem_cons.mpr ⟨List.mem_of_getElem? (i := 152) rfl, List.forall_mem_cons.mpr ⟨List.mem_of_getElem? (i := 66) rfl, fun _ h => absurd h List.not_mem_nil⟩⟩⟩⟩⟩⟩⟩⟩⟩⟩⟩⟩⟩⟩⟩⟩⟩⟩⟩⟩⟩⟩⟩⟩
set_option maxRecDepth 100000 in
theorem tL_2 : ∀ w ∈ wsL_law_r2, w ∈ lw_tbl := List.forall_mem_cons.mpr ⟨List.mem_of_getElem? (i := 213) rfl, List.forall_mem_cons.mpr ⟨List.mem_of_getElem? (i := 214) rfl, List.forall_mem_cons.mpr ⟨List.mem_of_getElem? (i := 186) rfl, List.forall_mem_cons.mpr ⟨List.mem_of_getElem? (i := 187) rfl, List.forall_mem_cons.mpr ⟨List.mem_of_getElem? (i := 67) rfl, List.forall_mem_cons.mpr ⟨List.mem_of_getElem? (i := 215) rfl, List.forall_mem_cons.mpr ⟨List.mem_of_getElem? (i := 216) rfl, List.forall_mem_cons.mpr ⟨List.mem_of_getElem? (i := 256) rfl, List.forall_mem_cons.mpr ⟨List.mem_of_getElem? (i := 217) rfl, List.forall_mem_cons.mpr ⟨List.mem_of_getElem? (i := 103) rfl, List.forall_mem_cons.mpr ⟨List.mem_of_getElem? (i := 218) rfl, List.forall_mem_cons.mpr ⟨List.mem_of_getElem? (i := 219) rfl, List.forall_mem_cons.mpr ⟨List.mem_of_getElem? (i := 221) rfl, List.forall_mem_cons.mpr ⟨List.mem_of_getElem? (i := 82) rfl, List.forall_mem_cons.mpr ⟨List.mem_of_getElem? (i := 83) rfl, List.forall_mem_cons.mpr ⟨List.mem_of_getElem? (i := 84) rfl, List.forall_mem_cons.mpr ⟨List.mem_of_getElem? (i := 85) rfl, List.forall_mem_cons.mpr ⟨List.mem_of_getElem? (i := 107) rfl, List.forall_mem_cons.mpr ⟨List.mem_of_getElem? (i := 108) rfl, List.forall_mem_cons.mpr ⟨List.mem_of_getElem? (i := 109) rfl, List.forall_mem_cons.mpr ⟨List.mem_of_getElem? (i := 114) rfl, List.forall_mem_cons.mpr ⟨List.mem_of_getElem? (i := 117) rfl, List.forall_mem_cons.mpr ⟨List.mem_of_getElem? (i := 122) rfl, List.forall_mem_cons.mpr ⟨List.mem_of_getElem? (i := 125) rfl, fun _ h => absurd h List.not_mem_nil⟩⟩⟩⟩⟩⟩⟩⟩⟩⟩⟩⟩⟩⟩⟩⟩⟩⟩⟩⟩⟩⟩⟩⟩
set_option maxRecDepth 100000 in
theorem tL_3 : ∀ w ∈ wsL_law_r3, w ∈ lw_tbl := List.forall_mem_cons.mpr ⟨List.mem_of_getElem? (i := 128) rfl, List.forall_mem_cons.mpr ⟨List.mem_of_getElem? (i := 110) rfl, List.forall_mem_cons.mpr ⟨List.mem_of_getElem? (i := 131) rfl, List.forall_mem_cons.mpr ⟨List.mem_of_getElem? (i := 154) rfl, List.forall_mem_cons.mpr ⟨List.mem_of_getElem? (i := 155) rfl, List.forall_mem_cons.mpr ⟨List.mem_of_getElem? (i := 156) rfl, List.forall_mem_cons.mpr ⟨List.mem_of_getElem? (i := 157) rfl, List.forall_mem_cons.mpr ⟨List.mem_of_getElem? (i := 159) rfl, List.forall_mem_cons.mpr ⟨List.mem_of_getElem? (i := 161) rfl, List.forall_mem_cons.mpr ⟨List.mem_of_getElem? (i := 163) rfl, List.forall_mem_cons.mpr ⟨List.mem_of_getElem? (i := 165) rfl, List.forall_mem_cons.mpr ⟨List.mem_of_getElem? (i := 188) rfl, List.forall_mem_cons.mpr ⟨List.mem_of_getElem? (i := 189) rfl, List.forall_mem_cons.mpr ⟨List.mem_of_getElem? (i := 190) rfl, List.forall_mem_cons.mpr ⟨List.mem_of_getElem? (i := 191) rfl, List.forall_mem_cons.mpr ⟨List.mem_of_getElem? (i := 192) rfl, List.forall_mem_cons.mpr ⟨List.mem_of_getElem? (i := 195) rfl, List.forall_mem_cons.mpr ⟨List.mem_of_getElem? (i := 206) rfl, List.forall_mem_cons.mpr ⟨List.mem_of_getElem? (i := 207) rfl, List.forall_mem_cons.mpr ⟨List.mem_of_getElem? (i := 208) rfl, List.forall_mem_cons.mpr ⟨List.mem_of_getElem? (i := 209) rfl, List.forall_mem_cons.mpr ⟨List.mem_of_getElem? (i := 167) rfl, List.forall_mem_cons.mpr ⟨List.mem_of_getElem? (i := 169) rfl, List.forall_mem_cons.mpr ⟨List.mem_of_getElem? (i := 581) rfl, fun _ h => absurd h List.not_mem_nil⟩⟩⟩⟩⟩⟩⟩⟩⟩⟩⟩⟩⟩⟩⟩⟩⟩⟩⟩⟩⟩⟩⟩⟩
set_option maxRecDepth 100000 in
theorem tL_4 : ∀ w ∈ wsL_law_r4, w ∈ lw_tbl := List.forall_mem_cons.mpr ⟨List.mem_of_getElem? (i := 582) rfl, List.forall_mem_cons.mpr ⟨List.mem_of_getElem? (i := 583) rfl, List.forall_mem_cons.mpr ⟨List.mem_of_getElem? (i := 584) rfl, List.forall_mem_cons.mpr ⟨List.mem_of_getElem? (i := 587) rfl, List.forall_mem_cons.mpr ⟨List.mem_of_getElem? (i := 594) rfl, List.forall_mem_cons.mpr ⟨List.mem_of_getElem? (i := 595) rfl, List.forall_mem_cons.mpr ⟨List.mem_of_getElem? (i := 596) rfl, List.forall_mem_cons.mpr ⟨List.mem_of_getElem? (i := 597) rfl, List.forall_mem_cons.mpr ⟨List.mem_of_getElem? (i := 598) rfl, List.forall_mem_cons.mpr ⟨List.mem_of_getElem? (i := 599) rfl, List.forall_mem_cons.mpr ⟨List.mem_of_getElem? (i := 600) rfl, List.forall_mem_cons.mpr ⟨List.mem_of_getElem? (i := 601) rfl, List.forall_mem_cons.mpr ⟨List.mem_of_getElem? (i := 602) rfl, List.forall_mem_cons.mpr ⟨List.mem_of_getElem? (i := 603) rfl, List.forall_mem_cons.mpr ⟨List.mem_of_getElem? (i := 604) rfl, List.forall_mem_cons.mpr ⟨List.mem_of_getElem? (i := 605) rfl, List.forall_mem_cons.mpr ⟨List.mem_of_getElem? (i := 607) rfl, List.forall_mem_cons.mpr ⟨List.mem_of_getElem? (i := 608) rfl, List.forall_mem_cons.mpr ⟨List.mem_of_getElem? (i := 610) rfl, List.forall_mem_cons.mpr ⟨List.mem_of_getElem? (i := 611) rfl, List.forall_mem_cons.mpr ⟨List.mem_of_getElem? (i := 257) rfl, List.forall_mem_cons.mpr ⟨List.mem_of_getElem? (i := 258) rfl, List.forall_mem_cons.mpr ⟨List.mem_of_getElem? (i := 259) rfl, List.forall_mem_cons.mpr ⟨List.mem_of_getElem? (i := 260) rfl, fun _ h => absurd h List.not_mem_nil⟩⟩⟩⟩⟩⟩⟩⟩⟩⟩⟩⟩⟩⟩⟩⟩⟩⟩⟩⟩⟩⟩⟩⟩
set_option maxRecDepth 100000 in
theorem tL_5 : ∀ w ∈ wsL_law_r5, w ∈ lw_tbl := List.forall_mem_cons.mpr ⟨List.mem_of_getElem? (i := 87) rfl, List.forall_mem_cons.mpr ⟨List.mem_of_getElem? (i := 86) rfl, List.forall_mem_cons.mpr ⟨List.mem_of_getElem? (i := 667) rfl, List.forall_mem_cons.mpr ⟨List.mem_of_getElem? (i := 668) rfl, List.forall_mem_cons.mpr ⟨List.mem_of_getElem? (i := 669) rfl, List.forall_mem_cons.mpr ⟨List.mem_of_getElem? (i := 670) rfl, List.forall_mem_cons.mpr ⟨List.mem_of_getElem? (i := 585) rfl, List.forall_mem_cons.mpr ⟨List.mem_of_getElem? (i := 588) rfl, List.forall_mem_cons.mpr ⟨List.mem_of_getElem? (i := 671) rfl, List.forall_mem_cons.mpr ⟨List.mem_of_getElem? (i := 672) rfl, List.forall_mem_cons.mpr ⟨List.mem_of_getElem? (i := 673) rfl, List.forall_mem_cons.mpr ⟨List.mem_of_getElem? (i := 261) rfl, List.forall_mem_cons.mpr ⟨List.mem_of_getElem? (i := 262) rfl, List.forall_mem_cons.mpr ⟨List.mem_of_getElem? (i := 263) rfl, List.forall_mem_cons.mpr ⟨List.mem_of_getElem? (i := 264) rfl, List.forall_mem_cons.mpr ⟨List.mem_of_getElem? (i := 674) rfl, List.forall_mem_cons.mpr ⟨List.mem_of_getElem? (i := 675) rfl, List.forall_mem_cons.mpr ⟨List.mem_of_getElem? (i := 676) rfl, List.forall_mem_cons.mpr ⟨List.mem_of_getElem? (i := 677) rfl, List.forall_mem_cons.mpr ⟨List.mem_of_getElem? (i := 265) rfl, List.forall_mem_cons.mpr ⟨List.mem_of_getElem? (i := 266) rfl, List.forall_mem_cons.mpr ⟨List.mem_of_getElem? (i := 267) rfl, List.forall_mem_cons.mpr ⟨List.mem_of_getElem? (i := 268) rfl, List.forall_mem_cons.mpr ⟨List.mem_of_getElem? (i := 121) rfl, fun _ h => absurd h List.not_mem_nil⟩⟩⟩⟩⟩⟩⟩⟩⟩⟩⟩⟩⟩⟩⟩⟩⟩⟩⟩⟩⟩⟩⟩⟩
set_option maxRecDepth 100000 in
theorem tL_6 : ∀ w ∈ wsL_law_r6, w ∈ lw_tbl := List.forall_mem_cons.mpr ⟨List.mem_of_getElem? (i := 198) rfl, List.forall_mem_cons.mpr ⟨List.mem_of_getElem? (i := 220) rfl, List.forall_mem_cons.mpr ⟨List.mem_of_getElem? (i := 269) rfl, List.forall_mem_cons.mpr ⟨List.mem_of_getElem? (i := 270) rfl, List.forall_mem_cons.mpr ⟨List.mem_of_getElem? (i := 271) rfl, List.forall_mem_cons.mpr ⟨List.mem_of_getElem? (i := 272) rfl, List.forall_mem_cons.mpr ⟨List.mem_of_getElem? (i := 112) rfl, List.forall_mem_cons.mpr ⟨List.mem_of_getElem? (i := 120) rfl, List.forall_mem_cons.mpr ⟨List.mem_of_getElem? (i := 90) rfl, List.forall_mem_cons.mpr ⟨List.mem_of_getElem? (i := 89) rfl, List.forall_mem_cons.mpr ⟨List.mem_of_getElem? (i := 273) rfl, List.forall_mem_cons.mpr ⟨List.mem_of_getElem? (i := 275) rfl, List.forall_mem_cons.mpr ⟨List.mem_of_getElem? (i := 0) rfl, List.forall_mem_cons.mpr ⟨List.mem_of_getElem? (i := 276) rfl, List.forall_mem_cons.mpr ⟨List.mem_of_getElem? (i := 88) rfl, List.forall_mem_cons.mpr ⟨List.mem_of_getElem? (i := 277) rfl, List.forall_mem_cons.mpr ⟨List.mem_of_getElem? (i := 278) rfl, List.forall_mem_cons.mpr ⟨List.mem_of_getElem? (i := 279) rfl, List.forall_mem_cons.mpr ⟨List.mem_of_getElem? (i := 280) rfl, List.forall_mem_cons.mpr ⟨List.mem_of_getElem? (i := 282) rfl, List.forall_mem_cons.mpr ⟨List.mem_of_getElem? (i := 1) rfl, List.forall_mem_cons.mpr ⟨List.mem_of_getElem? (i := 283) rfl, List.forall_mem_cons.mpr ⟨List.mem_of_getElem? (i := 91) rfl, List.forall_mem_cons.mpr ⟨List.mem_of_getElem? (i := 284) rfl, fun _ h => absurd h List.not_mem_nil⟩⟩⟩⟩⟩⟩⟩⟩⟩⟩⟩⟩⟩⟩⟩⟩⟩⟩⟩⟩⟩⟩⟩⟩
set_option maxRecDepth 100000 in
theorem tL_7 : ∀ w ∈ wsL_law_r7, w ∈ lw_tbl := List.forall_mem_cons.mpr ⟨List.mem_of_getElem? (i := 285) rfl, List.forall_mem_cons.mpr ⟨List.mem_of_getElem? (i := 69) rfl, List.forall_mem_cons.mpr ⟨List.mem_of_getElem? (i := 286) rfl, List.forall_mem_cons.mpr ⟨List.mem_of_getElem? (i := 287) rfl, List.forall_mem_cons.mpr ⟨List.mem_of_getElem? (i := 289) rfl, List.forall_mem_cons.mpr ⟨List.mem_of_getElem? (i := 2) rfl, List.forall_mem_cons.mpr ⟨List.mem_of_getElem? (i := 290) rfl, List.forall_mem_cons.mpr ⟨List.mem_of_getElem? (i := 291) rfl, List.forall_mem_cons.mpr ⟨List.mem_of_getElem? (i := 293) rfl, List.forall_mem_cons.mpr ⟨List.mem_of_getElem? (i := 3) rfl, List.forall_mem_cons.mpr ⟨List.mem_of_getElem? (i := 294) rfl, List.forall_mem_cons.mpr ⟨List.mem_of_getElem? (i := 115) rfl, List.forall_mem_cons.mpr ⟨List.mem_of_getElem? (i := 118) rfl, List.forall_mem_cons.mpr ⟨List.mem_of_getElem? (i := 295) rfl, List.forall_mem_cons.mpr ⟨List.mem_of_getElem? (i := 297) rfl, List.forall_mem_cons.mpr ⟨List.mem_of_getElem? (i := 4) rfl, List.forall_mem_cons.mpr ⟨List.mem_of_getElem? (i := 298) rfl, List.forall_mem_cons.mpr ⟨List.mem_of_getElem? (i := 299) rfl, List.forall_mem_cons.mpr ⟨List.mem_of_getElem? (i := 301) rfl, List.forall_mem_cons.mpr ⟨List.mem_of_getElem? (i := 5) rfl, List.forall_mem_cons.mpr ⟨List.mem_of_getElem? (i := 302) rfl, List.forall_mem_cons.mpr ⟨List.mem_of_getElem? (i := 123) rfl, List.forall_mem_cons.mpr ⟨List.mem_of_getElem? (i := 126) rfl, List.forall_mem_cons.mpr ⟨List.mem_of_getElem? (i := 129) rfl, fun _ h => absurd h List.not_mem_nil⟩⟩⟩⟩⟩⟩⟩⟩⟩⟩⟩⟩⟩⟩⟩⟩⟩⟩⟩⟩⟩⟩⟩⟩
set_option maxRecDepth 100000 in
theorem tL_8 : ∀ w ∈ wsL_law_r8, w ∈ lw_tbl := List.forall_mem_cons.mpr ⟨List.mem_of_getElem? (i := 132) rfl, List.forall_mem_cons.mpr ⟨List.mem_of_getElem? (i := 678) rfl, List.forall_mem_cons.mpr ⟨List.mem_of_getElem? (i := 679) rfl, List.forall_mem_cons.mpr ⟨List.mem_of_getElem? (i := 680) rfl, List.forall_mem_cons.mpr ⟨List.mem_of_getElem? (i := 681) rfl, List.forall_mem_cons.mpr ⟨List.mem_of_getElem? (i := 593) rfl, List.forall_mem_cons.mpr ⟨List.mem_of_getElem? (i := 589) rfl, List.forall_mem_cons.mpr ⟨List.mem_of_getElem? (i := 590) rfl, List.forall_mem_cons.mpr ⟨List.mem_of_getElem? (i := 592) rfl, List.forall_mem_cons.mpr ⟨List.mem_of_getElem? (i := 682) rfl, List.forall_mem_cons.mpr ⟨List.mem_of_getElem? (i := 684) rfl, List.forall_mem_cons.mpr ⟨List.mem_of_getElem? (i := 36) rfl, List.forall_mem_cons.mpr ⟨List.mem_of_getElem? (i := 685) rfl, List.forall_mem_cons.mpr ⟨List.mem_of_getElem? (i := 591) rfl, List.forall_mem_cons.mpr ⟨List.mem_of_getElem? (i := 686) rfl, List.forall_mem_cons.mpr ⟨List.mem_of_getElem? (i := 688) rfl, List.forall_mem_cons.mpr ⟨List.mem_of_getElem? (i := 37) rfl, List.forall_mem_cons.mpr ⟨List.mem_of_getElem? (i := 689) rfl, List.forall_mem_cons.mpr ⟨List.mem_of_getElem? (i := 690) rfl, List.forall_mem_cons.mpr ⟨List.mem_of_getElem? (i := 692) rfl, List.forall_mem_cons.mpr ⟨List.mem_of_getElem? (i := 38) rfl, List.forall_mem_cons.mpr ⟨List.mem_of_getElem? (i := 693) rfl, List.forall_mem_cons.mpr ⟨List.mem_of_getElem? (i := 694) rfl, List.forall_mem_cons.mpr ⟨List.mem_of_getElem? (i := 696) rfl, fun _ h => absurd h List.not_mem_nil⟩⟩⟩⟩⟩⟩⟩⟩⟩⟩⟩⟩⟩⟩⟩⟩⟩⟩⟩⟩⟩⟩⟩⟩
set_option maxRecDepth 100000 in
theorem tL_9 : ∀ w ∈ wsL_law_r9, w ∈ lw_tbl := List.forall_mem_cons.mpr ⟨List.mem_of_getElem? (i := 39) rfl, List.forall_mem_cons.mpr ⟨List.mem_of_getElem? (i := 697) rfl, List.forall_mem_cons.mpr ⟨List.mem_of_getElem? (i := 698) rfl, List.forall_mem_cons.mpr ⟨List.mem_of_getElem? (i := 700) rfl, List.forall_mem_cons.mpr ⟨List.mem_of_getElem? (i := 40) rfl, List.forall_mem_cons.mpr ⟨List.mem_of_getElem? (i := 701) rfl, List.forall_mem_cons.mpr ⟨List.mem_of_getElem? (i := 702) rfl, List.forall_mem_cons.mpr ⟨List.mem_of_getElem? (i := 704) rfl, List.forall_mem_cons.mpr ⟨List.mem_of_getElem? (i := 41) rfl, List.forall_mem_cons.mpr ⟨List.mem_of_getElem? (i := 705) rfl, List.forall_mem_cons.mpr ⟨List.mem_of_getElem? (i := 706) rfl, List.forall_mem_cons.mpr ⟨List.mem_of_getElem? (i := 708) rfl, List.forall_mem_cons.mpr ⟨List.mem_of_getElem? (i := 42) rfl, List.forall_mem_cons.mpr ⟨List.mem_of_getElem? (i := 709) rfl, List.forall_mem_cons.mpr ⟨List.mem_of_getElem? (i := 609) rfl, List.forall_mem_cons.mpr ⟨List.mem_of_getElem? (i := 606) rfl, List.forall_mem_cons.mpr ⟨List.mem_of_getElem? (i := 303) rfl, List.forall_mem_cons.mpr ⟨List.mem_of_getElem? (i := 304) rfl, List.forall_mem_cons.mpr ⟨List.mem_of_getElem? (i := 305) rfl, List.forall_mem_cons.mpr ⟨List.mem_of_getElem? (i := 306) rfl, List.forall_mem_cons.mpr ⟨List.mem_of_getElem? (i := 124) rfl, List.forall_mem_cons.mpr ⟨List.mem_of_getElem? (i := 127) rfl, List.forall_mem_cons.mpr ⟨List.mem_of_getElem? (i := 130) rfl, List.forall_mem_cons.mpr ⟨List.mem_of_getElem? (i := 158) rfl, fun _ h => absurd h List.not_mem_nil⟩⟩⟩⟩⟩⟩⟩⟩⟩⟩⟩⟩⟩⟩⟩⟩⟩⟩⟩⟩⟩⟩⟩⟩
set_option maxRecDepth 100000 in
theorem tL_10 : ∀ w ∈ wsL_law_r10, w ∈ lw_tbl := List.forall_mem_cons.mpr ⟨List.mem_of_getElem? (i := 160) rfl, List.forall_mem_cons.mpr ⟨List.mem_of_getElem? (i := 162) rfl, List.forall_mem_cons.mpr ⟨List.mem_of_getElem? (i := 164) rfl, List.forall_mem_cons.mpr ⟨List.mem_of_getElem? (i := 307) rfl, List.forall_mem_cons.mpr ⟨List.mem_of_getElem? (i := 309) rfl, List.forall_mem_cons.mpr ⟨List.mem_of_getElem? (i := 6) rfl, List.forall_mem_cons.mpr ⟨List.mem_of_getElem? (i := 310) rfl, List.forall_mem_cons.mpr ⟨List.mem_of_getElem? (i := 311) rfl, List.forall_mem_cons.mpr ⟨List.mem_of_getElem? (i := 312) rfl, List.forall_mem_cons.mpr ⟨List.mem_of_getElem? (i := 313) rfl, List.forall_mem_cons.mpr ⟨List.mem_of_getElem? (i := 710) rfl, List.forall_mem_cons.mpr ⟨List.mem_of_getElem? (i := 711) rfl, List.forall_mem_cons.mpr ⟨List.mem_of_getElem? (i := 712) rfl, List.forall_mem_cons.mpr ⟨List.mem_of_getElem? (i := 713) rfl, List.forall_mem_cons.mpr ⟨List.mem_of_getElem? (i := 714) rfl, List.forall_mem_cons.mpr ⟨List.mem_of_getElem? (i := 716) rfl, List.forall_mem_cons.mpr ⟨List.mem_of_getElem? (i := 43) rfl, List.forall_mem_cons.mpr ⟨List.mem_of_getElem? (i := 717) rfl, List.forall_mem_cons.mpr ⟨List.mem_of_getElem? (i := 314) rfl, List.forall_mem_cons.mpr ⟨List.mem_of_getElem? (i := 315) rfl, List.forall_mem_cons.mpr ⟨List.mem_of_getElem? (i := 316) rfl, List.forall_mem_cons.mpr ⟨List.mem_of_getElem? (i := 317) rfl, List.forall_mem_cons.mpr ⟨List.mem_of_getElem? (i := 133) rfl, List.forall_mem_cons.mpr ⟨List.mem_of_getElem? (i := 318) rfl, fun _ h => absurd h List.not_mem_nil⟩⟩⟩⟩⟩⟩⟩⟩⟩⟩⟩⟩⟩⟩⟩⟩⟩⟩⟩⟩⟩⟩⟩⟩
set_option maxRecDepth 100000 in
theorem tL_11 : ∀ w ∈ wsL_law_r11, w ∈ lw_tbl := List.forall_mem_cons.mpr ⟨List.mem_of_getElem? (i := 320) rfl, List.forall_mem_cons.mpr ⟨List.mem_of_getElem? (i := 7) rfl, List.forall_mem_cons.mpr ⟨List.mem_of_getElem? (i := 321) rfl, List.forall_mem_cons.mpr ⟨List.mem_of_getElem? (i := 113) rfl, List.forall_mem_cons.mpr ⟨List.mem_of_getElem? (i := 718) rfl, List.forall_mem_cons.mpr ⟨List.mem_of_getElem? (i := 719) rfl, List.forall_mem_cons.mpr ⟨List.mem_of_getElem? (i := 720) rfl, List.forall_mem_cons.mpr ⟨List.mem_of_getElem? (i := 721) rfl, List.forall_mem_cons.mpr ⟨List.mem_of_getElem? (i := 722) rfl, List.forall_mem_cons.mpr ⟨List.mem_of_getElem? (i := 724) rfl, List.forall_mem_cons.mpr ⟨List.mem_of_getElem? (i := 44) rfl, List.forall_mem_cons.mpr ⟨List.mem_of_getElem? (i := 725) rfl, List.forall_mem_cons.mpr ⟨List.mem_of_getElem? (i := 322) rfl, List.forall_mem_cons.mpr ⟨List.mem_of_getElem? (i := 323) rfl, List.forall_mem_cons.mpr ⟨List.mem_of_getElem? (i := 324) rfl, List.forall_mem_cons.mpr ⟨List.mem_of_getElem? (i := 325) rfl, List.forall_mem_cons.mpr ⟨List.mem_of_getElem? (i := 326) rfl, List.forall_mem_cons.mpr ⟨List.mem_of_getElem? (i := 328) rfl, List.forall_mem_cons.mpr ⟨List.mem_of_getElem? (i := 8) rfl, List.forall_mem_cons.mpr ⟨List.mem_of_getElem? (i := 329) rfl, List.forall_mem_cons.mpr ⟨List.mem_of_getElem? (i := 116) rfl, List.forall_mem_cons.mpr ⟨List.mem_of_getElem? (i := 168) rfl, List.forall_mem_cons.mpr ⟨List.mem_of_getElem? (i := 726) rfl, List.forall_mem_cons.mpr ⟨List.mem_of_getElem? (i := 727) rfl, fun _ h => absurd h List.not_mem_nil⟩⟩⟩⟩⟩⟩⟩⟩⟩⟩⟩⟩⟩⟩⟩⟩⟩⟩⟩⟩⟩⟩⟩⟩
set_option maxRecDepth 100000 in
theorem tL_12 : ∀ w ∈ wsL_law_r12, w ∈ lw_tbl := List.forall_mem_cons.mpr ⟨List.mem_of_getElem? (i := 728) rfl, List.forall_mem_cons.mpr ⟨List.mem_of_getElem? (i := 729) rfl, List.forall_mem_cons.mpr ⟨List.mem_of_getElem? (i := 730) rfl, List.forall_mem_cons.mpr ⟨List.mem_of_getElem? (i := 732) rfl, List.forall_mem_cons.mpr ⟨List.mem_of_getElem? (i := 45) rfl, List.forall_mem_cons.mpr ⟨List.mem_of_getElem? (i := 733) rfl, List.forall_mem_cons.mpr ⟨List.mem_of_getElem? (i := 330) rfl, List.forall_mem_cons.mpr ⟨List.mem_of_getElem? (i := 331) rfl, List.forall_mem_cons.mpr ⟨List.mem_of_getElem? (i := 332) rfl, List.forall_mem_cons.mpr ⟨List.mem_of_getElem? (i := 333) rfl, List.forall_mem_cons.mpr ⟨List.mem_of_getElem? (i := 334) rfl, List.forall_mem_cons.mpr ⟨List.mem_of_getElem? (i := 166) rfl, List.forall_mem_cons.mpr ⟨List.mem_of_getElem? (i := 335) rfl, List.forall_mem_cons.mpr ⟨List.mem_of_getElem? (i := 337) rfl, List.forall_mem_cons.mpr ⟨List.mem_of_getElem? (i := 9) rfl, List.forall_mem_cons.mpr ⟨List.mem_of_getElem? (i := 338) rfl, List.forall_mem_cons.mpr ⟨List.mem_of_getElem? (i := 339) rfl, List.forall_mem_cons.mpr ⟨List.mem_of_getElem? (i := 341) rfl, List.forall_mem_cons.mpr ⟨List.mem_of_getElem? (i := 10) rfl, List.forall_mem_cons.mpr ⟨List.mem_of_getElem? (i := 342) rfl, List.forall_mem_cons.mpr ⟨List.mem_of_getElem? (i := 343) rfl, List.forall_mem_cons.mpr ⟨List.mem_of_getElem? (i := 344) rfl, List.forall_mem_cons.mpr ⟨List.mem_of_getElem? (i := 346) rfl, List.forall_mem_cons.mpr ⟨List.mem_of_getElem? (i := 11) rfl, fun _ h => absurd h List.not_mem_nil⟩⟩⟩⟩⟩⟩⟩⟩⟩⟩⟩⟩⟩⟩⟩⟩⟩⟩⟩⟩⟩⟩⟩⟩
set_option maxRecDepth 100000 in
theorem tL_13 : ∀ w ∈ wsL_law_r13, w ∈ lw_tbl := List.forall_mem_cons.mpr ⟨List.mem_of_getElem? (i := 347) rfl, List.forall_mem_cons.mpr ⟨List.mem_of_getElem? (i := 348) rfl, List.forall_mem_cons.mpr ⟨List.mem_of_getElem? (i := 350) rfl, List.forall_mem_cons.mpr ⟨List.mem_of_getElem? (i := 12) rfl, List.forall_mem_cons.mpr ⟨List.mem_of_getElem? (i := 351) rfl, List.forall_mem_cons.mpr ⟨List.mem_of_getElem? (i := 119) rfl, List.forall_mem_cons.mpr ⟨List.mem_of_getElem? (i := 734) rfl, List.forall_mem_cons.mpr ⟨List.mem_of_getElem? (i := 735) rfl, List.forall_mem_cons.mpr ⟨List.mem_of_getElem? (i := 736) rfl, List.forall_mem_cons.mpr ⟨List.mem_of_getElem? (i := 737) rfl, List.forall_mem_cons.mpr ⟨List.mem_of_getElem? (i := 738) rfl, List.forall_mem_cons.mpr ⟨List.mem_of_getElem? (i := 739) rfl, List.forall_mem_cons.mpr ⟨List.mem_of_getElem? (i := 741) rfl, List.forall_mem_cons.mpr ⟨List.mem_of_getElem? (i := 46) rfl, List.forall_mem_cons.mpr ⟨List.mem_of_getElem? (i := 742) rfl, List.forall_mem_cons.mpr ⟨List.mem_of_getElem? (i := 743) rfl, List.forall_mem_cons.mpr ⟨List.mem_of_getElem? (i := 745) rfl, List.forall_mem_cons.mpr ⟨List.mem_of_getElem? (i := 47) rfl, List.forall_mem_cons.mpr ⟨List.mem_of_getElem? (i := 746) rfl, List.forall_mem_cons.mpr ⟨List.mem_of_getElem? (i := 747) rfl, List.forall_mem_cons.mpr ⟨List.mem_of_getElem? (i := 749) rfl, List.forall_mem_cons.mpr ⟨List.mem_of_getElem? (i := 48) rfl, List.forall_mem_cons.mpr ⟨List.mem_of_getElem? (i := 750) rfl, List.forall_mem_cons.mpr ⟨List.mem_of_getElem? (i := 751) rfl, fun _ h => absurd h List.not_mem_nil⟩⟩⟩⟩⟩⟩⟩⟩⟩⟩⟩⟩⟩⟩⟩⟩⟩⟩⟩⟩⟩⟩⟩⟩
set_option maxRecDepth 100000 in
theorem tL_14 : ∀ w ∈ wsL_law_r14, w ∈ lw_tbl := List.forall_mem_cons.mpr ⟨List.mem_of_getElem? (i := 753) rfl, List.forall_mem_cons.mpr ⟨List.mem_of_getElem? (i := 49) rfl, List.forall_mem_cons.mpr ⟨List.mem_of_getElem? (i := 754) rfl, List.forall_mem_cons.mpr ⟨List.mem_of_getElem? (i := 352) rfl, List.forall_mem_cons.mpr ⟨List.mem_of_getElem? (i := 353) rfl, List.forall_mem_cons.mpr ⟨List.mem_of_getElem? (i := 354) rfl, List.forall_mem_cons.mpr ⟨List.mem_of_getElem? (i := 355) rfl, List.forall_mem_cons.mpr ⟨List.mem_of_getElem? (i := 170) rfl, List.forall_mem_cons.mpr ⟨List.mem_of_getElem? (i := 356) rfl, List.forall_mem_cons.mpr ⟨List.mem_of_getElem? (i := 358) rfl, List.forall_mem_cons.mpr ⟨List.mem_of_getElem? (i := 13) rfl, List.forall_mem_cons.mpr ⟨List.mem_of_getElem? (i := 359) rfl, List.forall_mem_cons.mpr ⟨List.mem_of_getElem? (i := 360) rfl, List.forall_mem_cons.mpr ⟨List.mem_of_getElem? (i := 362) rfl, List.forall_mem_cons.mpr ⟨List.mem_of_getElem? (i := 14) rfl, List.forall_mem_cons.mpr ⟨List.mem_of_getElem? (i := 363) rfl, List.forall_mem_cons.mpr ⟨List.mem_of_getElem? (i := 364) rfl, List.forall_mem_cons.mpr ⟨List.mem_of_getElem? (i := 366) rfl, List.forall_mem_cons.mpr ⟨List.mem_of_getElem? (i := 15) rfl, List.forall_mem_cons.mpr ⟨List.mem_of_getElem? (i := 367) rfl, List.forall_mem_cons.mpr ⟨List.mem_of_getElem? (i := 368) rfl, List.forall_mem_cons.mpr ⟨List.mem_of_getElem? (i := 369) rfl, List.forall_mem_cons.mpr ⟨List.mem_of_getElem? (i := 370) rfl, List.forall_mem_cons.mpr ⟨List.mem_of_getElem? (i := 371) rfl, fun _ h => absurd h List.not_mem_nil⟩⟩⟩⟩⟩⟩⟩⟩⟩⟩⟩⟩⟩⟩⟩⟩⟩⟩⟩⟩⟩⟩⟩⟩
set_option maxRecDepth 100000 in
theorem tL_15 : ∀ w ∈ wsL_law_r15, w ∈ lw_tbl := List.forall_mem_cons.mpr ⟨List.mem_of_getElem? (i := 372) rfl, List.forall_mem_cons.mpr ⟨List.mem_of_getElem? (i := 374) rfl, List.forall_mem_cons.mpr ⟨List.mem_of_getElem? (i := 373) rfl, List.forall_mem_cons.mpr ⟨List.mem_of_getElem? (i := 70) rfl, List.forall_mem_cons.mpr ⟨List.mem_of_getElem? (i := 375) rfl, List.forall_mem_cons.mpr ⟨List.mem_of_getElem? (i := 377) rfl, List.forall_mem_cons.mpr ⟨List.mem_of_getElem? (i := 16) rfl, List.forall_mem_cons.mpr ⟨List.mem_of_getElem? (i := 378) rfl, List.forall_mem_cons.mpr ⟨List.mem_of_getElem? (i := 379) rfl, List.forall_mem_cons.mpr ⟨List.mem_of_getElem? (i := 380) rfl, List.forall_mem_cons.mpr ⟨List.mem_of_getElem? (i := 381) rfl, List.forall_mem_cons.mpr ⟨List.mem_of_getElem? (i := 382) rfl, List.forall_mem_cons.mpr ⟨List.mem_of_getElem? (i := 384) rfl, List.forall_mem_cons.mpr ⟨List.mem_of_getElem? (i := 17) rfl, List.forall_mem_cons.mpr ⟨List.mem_of_getElem? (i := 385) rfl, List.forall_mem_cons.mpr ⟨List.mem_of_getElem? (i := 755) rfl, List.forall_mem_cons.mpr ⟨List.mem_of_getElem? (i := 756) rfl, List.forall_mem_cons.mpr ⟨List.mem_of_getElem? (i := 757) rfl, List.forall_mem_cons.mpr ⟨List.mem_of_getElem? (i := 758) rfl, List.forall_mem_cons.mpr ⟨List.mem_of_getElem? (i := 759) rfl, List.forall_mem_cons.mpr ⟨List.mem_of_getElem? (i := 761) rfl, List.forall_mem_cons.mpr ⟨List.mem_of_getElem? (i := 50) rfl, List.forall_mem_cons.mpr ⟨List.mem_of_getElem? (i := 762) rfl, List.forall_mem_cons.mpr ⟨List.mem_of_getElem? (i := 763) rfl, fun _ h => absurd h List.not_mem_nil⟩⟩⟩⟩⟩⟩⟩⟩⟩⟩⟩⟩⟩⟩⟩⟩⟩⟩⟩⟩⟩⟩⟩⟩
set_option maxRecDepth 100000 in
theorem tL_16 : ∀ w ∈ wsL_law_r16, w ∈ lw_tbl := List.forall_mem_cons.mpr ⟨List.mem_of_getElem? (i := 765) rfl, List.forall_mem_cons.mpr ⟨List.mem_of_getElem? (i := 51) rfl, List.forall_mem_cons.mpr ⟨List.mem_of_getElem? (i := 766) rfl, List.forall_mem_cons.mpr ⟨List.mem_of_getElem? (i := 767) rfl, List.forall_mem_cons.mpr ⟨List.mem_of_getElem? (i := 769) rfl, List.forall_mem_cons.mpr ⟨List.mem_of_getElem? (i := 52) rfl, List.forall_mem_cons.mpr ⟨List.mem_of_getElem? (i := 770) rfl, List.forall_mem_cons.mpr ⟨List.mem_of_getElem? (i := 771) rfl, List.forall_mem_cons.mpr ⟨List.mem_of_getElem? (i := 773) rfl, List.forall_mem_cons.mpr ⟨List.mem_of_getElem? (i := 53) rfl, List.forall_mem_cons.mpr ⟨List.mem_of_getElem? (i := 774) rfl, List.forall_mem_cons.mpr ⟨List.mem_of_getElem? (i := 386) rfl, List.forall_mem_cons.mpr ⟨List.mem_of_getElem? (i := 387) rfl, List.forall_mem_cons.mpr ⟨List.mem_of_getElem? (i := 388) rfl, List.forall_mem_cons.mpr ⟨List.mem_of_getElem? (i := 389) rfl, List.forall_mem_cons.mpr ⟨List.mem_of_getElem? (i := 390) rfl, List.forall_mem_cons.mpr ⟨List.mem_of_getElem? (i := 391) rfl, List.forall_mem_cons.mpr ⟨List.mem_of_getElem? (i := 392) rfl, List.forall_mem_cons.mpr ⟨List.mem_of_getElem? (i := 393) rfl, List.forall_mem_cons.mpr ⟨List.mem_of_getElem? (i := 196) rfl, List.forall_mem_cons.mpr ⟨List.mem_of_getElem? (i := 197) rfl, List.forall_mem_cons.mpr ⟨List.mem_of_getElem? (i := 395) rfl, List.forall_mem_cons.mpr ⟨List.mem_of_getElem? (i := 394) rfl, List.forall_mem_cons.mpr ⟨List.mem_of_getElem? (i := 775) rfl, fun _ h => absurd h List.not_mem_nil⟩⟩⟩⟩⟩⟩⟩⟩⟩⟩⟩⟩⟩⟩⟩⟩⟩⟩⟩⟩⟩⟩⟩⟩
set_option maxRecDepth 100000 in
theorem tL_17 : ∀ w ∈ wsL_law_r17, w ∈ lw_tbl := List.forall_mem_cons.mpr ⟨List.mem_of_getElem? (i := 776) rfl, List.forall_mem_cons.mpr ⟨List.mem_of_getElem? (i := 777) rfl, List.forall_mem_cons.mpr ⟨List.mem_of_getElem? (i := 778) rfl, List.forall_mem_cons.mpr ⟨List.mem_of_getElem? (i := 779) rfl, List.forall_mem_cons.mpr ⟨List.mem_of_getElem? (i := 781) rfl, List.forall_mem_cons.mpr ⟨List.mem_of_getElem? (i := 54) rfl, List.forall_mem_cons.mpr ⟨List.mem_of_getElem? (i := 782) rfl, List.forall_mem_cons.mpr ⟨List.mem_of_getElem? (i := 783) rfl, List.forall_mem_cons.mpr ⟨List.mem_of_getElem? (i := 785) rfl, List.forall_mem_cons.mpr ⟨List.mem_of_getElem? (i := 55) rfl, List.forall_mem_cons.mpr ⟨List.mem_of_getElem? (i := 786) rfl, List.forall_mem_cons.mpr ⟨List.mem_of_getElem? (i := 396) rfl, List.forall_mem_cons.mpr ⟨List.mem_of_getElem? (i := 397) rfl, List.forall_mem_cons.mpr ⟨List.mem_of_getElem? (i := 398) rfl, List.forall_mem_cons.mpr ⟨List.mem_of_getElem? (i := 399) rfl, List.forall_mem_cons.mpr ⟨List.mem_of_getElem? (i := 787) rfl, List.forall_mem_cons.mpr ⟨List.mem_of_getElem? (i := 788) rfl, List.forall_mem_cons.mpr ⟨List.mem_of_getElem? (i := 789) rfl, List.forall_mem_cons.mpr ⟨List.mem_of_getElem? (i := 790) rfl, List.forall_mem_cons.mpr ⟨List.mem_of_getElem? (i := 400) rfl, List.forall_mem_cons.mpr ⟨List.mem_of_getElem? (i := 401) rfl, List.forall_mem_cons.mpr ⟨List.mem_of_getElem? (i := 402) rfl, List.forall_mem_cons.mpr ⟨List.mem_of_getElem? (i := 403) rfl, List.forall_mem_cons.mpr ⟨List.mem_of_getElem? (i := 791) rfl, fun _ h => absurd h List.not_mem_nil⟩⟩⟩⟩⟩⟩⟩⟩⟩⟩⟩⟩⟩⟩⟩⟩⟩⟩⟩⟩⟩⟩⟩⟩
set_option maxRecDepth 100000 in
theorem tL_18 : ∀ w ∈ wsL_law_r18, w ∈ lw_tbl := List.forall_mem_cons.mpr ⟨List.mem_of_getElem? (i := 792) rfl, List.forall_mem_cons.mpr ⟨List.mem_of_getElem? (i := 793) rfl, List.forall_mem_cons.mpr ⟨List.mem_of_getElem? (i := 794) rfl, List.forall_mem_cons.mpr ⟨List.mem_of_getElem? (i := 404) rfl, List.forall_mem_cons.mpr ⟨List.mem_of_getElem? (i := 405) rfl, List.forall_mem_cons.mpr ⟨List.mem_of_getElem? (i := 406) rfl, List.forall_mem_cons.mpr ⟨List.mem_of_getElem? (i := 407) rfl, List.forall_mem_cons.mpr ⟨List.mem_of_getElem? (i := 795) rfl, List.forall_mem_cons.mpr ⟨List.mem_of_getElem? (i := 796) rfl, List.forall_mem_cons.mpr ⟨List.mem_of_getElem? (i := 797) rfl, List.forall_mem_cons.mpr ⟨List.mem_of_getElem? (i := 798) rfl, List.forall_mem_cons.mpr ⟨List.mem_of_getElem? (i := 408) rfl, List.forall_mem_cons.mpr ⟨List.mem_of_getElem? (i := 409) rfl, List.forall_mem_cons.mpr ⟨List.mem_of_getElem? (i := 410) rfl, List.forall_mem_cons.mpr ⟨List.mem_of_getElem? (i := 411) rfl, List.forall_mem_cons.mpr ⟨List.mem_of_getElem? (i := 412) rfl, List.forall_mem_cons.mpr ⟨List.mem_of_getElem? (i := 414) rfl, List.forall_mem_cons.mpr ⟨List.mem_of_getElem? (i := 18) rfl, List.forall_mem_cons.mpr ⟨List.mem_of_getElem? (i := 415) rfl, List.forall_mem_cons.mpr ⟨List.mem_of_getElem? (i := 799) rfl, List.forall_mem_cons.mpr ⟨List.mem_of_getElem? (i := 800) rfl, List.forall_mem_cons.mpr ⟨List.mem_of_getElem? (i := 801) rfl, List.forall_mem_cons.mpr ⟨List.mem_of_getElem? (i := 802) rfl, List.forall_mem_cons.mpr ⟨List.mem_of_getElem? (i := 803) rfl, fun _ h => absurd h List.not_mem_nil⟩⟩⟩⟩⟩⟩⟩⟩⟩⟩⟩⟩⟩⟩⟩⟩⟩⟩⟩⟩⟩⟩⟩⟩
set_option maxRecDepth 100000 in
theorem tL_19 : ∀ w ∈ wsL_law_r19, w ∈ lw_tbl := List.forall_mem_cons.mpr ⟨List.mem_of_getElem? (i := 805) rfl, List.forall_mem_cons.mpr ⟨List.mem_of_getElem? (i := 56) rfl, List.forall_mem_cons.mpr ⟨List.mem_of_getElem? (i := 806) rfl, List.forall_mem_cons.mpr ⟨List.mem_of_getElem? (i := 416) rfl, List.forall_mem_cons.mpr ⟨List.mem_of_getElem? (i := 417) rfl, List.forall_mem_cons.mpr ⟨List.mem_of_getElem? (i := 418) rfl, List.forall_mem_cons.mpr ⟨List.mem_of_getElem? (i := 419) rfl, List.forall_mem_cons.mpr ⟨List.mem_of_getElem? (i := 420) rfl, List.forall_mem_cons.mpr ⟨List.mem_of_getElem? (i := 422) rfl, List.forall_mem_cons.mpr ⟨List.mem_of_getElem? (i := 19) rfl, List.forall_mem_cons.mpr ⟨List.mem_of_getElem? (i := 423) rfl, List.forall_mem_cons.mpr ⟨List.mem_of_getElem? (i := 424) rfl, List.forall_mem_cons.mpr ⟨List.mem_of_getElem? (i := 425) rfl, List.forall_mem_cons.mpr ⟨List.mem_of_getElem? (i := 426) rfl, List.forall_mem_cons.mpr ⟨List.mem_of_getElem? (i := 807) rfl, List.forall_mem_cons.mpr ⟨List.mem_of_getElem? (i := 808) rfl, List.forall_mem_cons.mpr ⟨List.mem_of_getElem? (i := 809) rfl, List.forall_mem_cons.mpr ⟨List.mem_of_getElem? (i := 810) rfl, List.forall_mem_cons.mpr ⟨List.mem_of_getElem? (i := 811) rfl, List.forall_mem_cons.mpr ⟨List.mem_of_getElem? (i := 813) rfl, List.forall_mem_cons.mpr ⟨List.mem_of_getElem? (i := 57) rfl, List.forall_mem_cons.mpr ⟨List.mem_of_getElem? (i := 814) rfl, List.forall_mem_cons.mpr ⟨List.mem_of_getElem? (i := 427) rfl, List.forall_mem_cons.mpr ⟨List.mem_of_getElem? (i := 428) rfl, fun _ h => absurd h List.not_mem_nil⟩⟩⟩⟩⟩⟩⟩⟩⟩⟩⟩⟩⟩⟩⟩⟩⟩⟩⟩⟩⟩⟩⟩⟩
set_option maxRecDepth 100000 in
theorem tL_20 : ∀ w ∈ wsL_law_r20, w ∈ lw_tbl := List.forall_mem_cons.mpr ⟨List.mem_of_getElem? (i := 429) rfl, List.forall_mem_cons.mpr ⟨List.mem_of_getElem? (i := 430) rfl, List.forall_mem_cons.mpr ⟨List.mem_of_getElem? (i := 431) rfl, List.forall_mem_cons.mpr ⟨List.mem_of_getElem? (i := 432) rfl, List.forall_mem_cons.mpr ⟨List.mem_of_getElem? (i := 433) rfl, List.forall_mem_cons.mpr ⟨List.mem_of_getElem? (i := 434) rfl, List.forall_mem_cons.mpr ⟨List.mem_of_getElem? (i := 815) rfl, List.forall_mem_cons.mpr ⟨List.mem_of_getElem? (i := 816) rfl, List.forall_mem_cons.mpr ⟨List.mem_of_getElem? (i := 817) rfl, List.forall_mem_cons.mpr ⟨List.mem_of_getElem? (i := 818) rfl, List.forall_mem_cons.mpr ⟨List.mem_of_getElem? (i := 435) rfl, List.forall_mem_cons.mpr ⟨List.mem_of_getElem? (i := 436) rfl, List.forall_mem_cons.mpr ⟨List.mem_of_getElem? (i := 437) rfl, List.forall_mem_cons.mpr ⟨List.mem_of_getElem? (i := 438) rfl, List.forall_mem_cons.mpr ⟨List.mem_of_getElem? (i := 819) rfl, List.forall_mem_cons.mpr ⟨List.mem_of_getElem? (i := 820) rfl, List.forall_mem_cons.mpr ⟨List.mem_of_getElem? (i := 821) rfl, List.forall_mem_cons.mpr ⟨List.mem_of_getElem? (i := 822) rfl, List.forall_mem_cons.mpr ⟨List.mem_of_getElem? (i := 439) rfl, List.forall_mem_cons.mpr ⟨List.mem_of_getElem? (i := 440) rfl, List.forall_mem_cons.mpr ⟨List.mem_of_getElem? (i := 441) rfl, List.forall_mem_cons.mpr ⟨List.mem_of_getElem? (i := 442) rfl, List.forall_mem_cons.mpr ⟨List.mem_of_getElem? (i := 443) rfl, List.forall_mem_cons.mpr ⟨List.mem_of_getElem? (i := 445) rfl, fun _ h => absurd h List.not_mem_nil⟩⟩⟩⟩⟩⟩⟩⟩⟩⟩⟩⟩⟩⟩⟩⟩⟩⟩⟩⟩⟩⟩⟩⟩
set_option maxRecDepth 100000 in
theorem tL_21 : ∀ w ∈ wsL_law_r21, w ∈ lw_tbl := List.forall_mem_cons.mpr ⟨List.mem_of_getElem? (i := 20) rfl, List.forall_mem_cons.mpr ⟨List.mem_of_getElem? (i := 446) rfl, List.forall_mem_cons.mpr ⟨List.mem_of_getElem? (i := 823) rfl, List.forall_mem_cons.mpr ⟨List.mem_of_getElem? (i := 824) rfl, List.forall_mem_cons.mpr ⟨List.mem_of_getElem? (i := 825) rfl, List.forall_mem_cons.mpr ⟨List.mem_of_getElem? (i := 826) rfl, List.forall_mem_cons.mpr ⟨List.mem_of_getElem? (i := 827) rfl, List.forall_mem_cons.mpr ⟨List.mem_of_getElem? (i := 829) rfl, List.forall_mem_cons.mpr ⟨List.mem_of_getElem? (i := 58) rfl, List.forall_mem_cons.mpr ⟨List.mem_of_getElem? (i := 830) rfl, List.forall_mem_cons.mpr ⟨List.mem_of_getElem? (i := 831) rfl, List.forall_mem_cons.mpr ⟨List.mem_of_getElem? (i := 833) rfl, List.forall_mem_cons.mpr ⟨List.mem_of_getElem? (i := 59) rfl, List.forall_mem_cons.mpr ⟨List.mem_of_getElem? (i := 834) rfl, List.forall_mem_cons.mpr ⟨List.mem_of_getElem? (i := 447) rfl, List.forall_mem_cons.mpr ⟨List.mem_of_getElem? (i := 448) rfl, List.forall_mem_cons.mpr ⟨List.mem_of_getElem? (i := 449) rfl, List.forall_mem_cons.mpr ⟨List.mem_of_getElem? (i := 450) rfl, List.forall_mem_cons.mpr ⟨List.mem_of_getElem? (i := 835) rfl, List.forall_mem_cons.mpr ⟨List.mem_of_getElem? (i := 836) rfl, List.forall_mem_cons.mpr ⟨List.mem_of_getElem? (i := 837) rfl, List.forall_mem_cons.mpr ⟨List.mem_of_getElem? (i := 838) rfl, List.forall_mem_cons.mpr ⟨List.mem_of_getElem? (i := 451) rfl, List.forall_mem_cons.mpr ⟨List.mem_of_getElem? (i := 452) rfl, fun _ h => absurd h List.not_mem_nil⟩⟩⟩⟩⟩⟩⟩⟩⟩⟩⟩⟩⟩⟩⟩⟩⟩⟩⟩⟩⟩⟩⟩⟩
set_option maxRecDepth 100000 in
theorem tL_22 : ∀ w ∈ wsL_law_r22, w ∈ lw_tbl := List.forall_mem_cons.mpr ⟨List.mem_of_getElem? (i := 453) rfl, List.forall_mem_cons.mpr ⟨List.mem_of_getElem? (i := 454) rfl, List.forall_mem_cons.mpr ⟨List.mem_of_getElem? (i := 223) rfl, List.forall_mem_cons.mpr ⟨List.mem_of_getElem? (i := 222) rfl, List.forall_mem_cons.mpr ⟨List.mem_of_getElem? (i := 455) rfl, List.forall_mem_cons.mpr ⟨List.mem_of_getElem? (i := 457) rfl, List.forall_mem_cons.mpr ⟨List.mem_of_getElem? (i := 21) rfl, List.forall_mem_cons.mpr ⟨List.mem_of_getElem? (i := 458) rfl, List.forall_mem_cons.mpr ⟨List.mem_of_getElem? (i := 459) rfl, List.forall_mem_cons.mpr ⟨List.mem_of_getElem? (i := 461) rfl, List.forall_mem_cons.mpr ⟨List.mem_of_getElem? (i := 22) rfl, List.forall_mem_cons.mpr ⟨List.mem_of_getElem? (i := 462) rfl, List.forall_mem_cons.mpr ⟨List.mem_of_getElem? (i := 463) rfl, List.forall_mem_cons.mpr ⟨List.mem_of_getElem? (i := 465) rfl, List.forall_mem_cons.mpr ⟨List.mem_of_getElem? (i := 23) rfl, List.forall_mem_cons.mpr ⟨List.mem_of_getElem? (i := 466) rfl, List.forall_mem_cons.mpr ⟨List.mem_of_getElem? (i := 467) rfl, List.forall_mem_cons.mpr ⟨List.mem_of_getElem? (i := 839) rfl, List.forall_mem_cons.mpr ⟨List.mem_of_getElem? (i := 840) rfl, List.forall_mem_cons.mpr ⟨List.mem_of_getElem? (i := 841) rfl, List.forall_mem_cons.mpr ⟨List.mem_of_getElem? (i := 842) rfl, List.forall_mem_cons.mpr ⟨List.mem_of_getElem? (i := 843) rfl, List.forall_mem_cons.mpr ⟨List.mem_of_getElem? (i := 845) rfl, List.forall_mem_cons.mpr ⟨List.mem_of_getElem? (i := 60) rfl, fun _ h => absurd h List.not_mem_nil⟩⟩⟩⟩⟩⟩⟩⟩⟩⟩⟩⟩⟩⟩⟩⟩⟩⟩⟩⟩⟩⟩⟩⟩
set_option maxRecDepth 100000 in
theorem tL_23 : ∀ w ∈ wsL_law_r23, w ∈ lw_tbl := List.forall_mem_cons.mpr ⟨List.mem_of_getElem? (i := 846) rfl, List.forall_mem_cons.mpr ⟨List.mem_of_getElem? (i := 847) rfl, List.forall_mem_cons.mpr ⟨List.mem_of_getElem? (i := 849) rfl, List.forall_mem_cons.mpr ⟨List.mem_of_getElem? (i := 61) rfl, List.forall_mem_cons.mpr ⟨List.mem_of_getElem? (i := 850) rfl, List.forall_mem_cons.mpr ⟨List.mem_of_getElem? (i := 851) rfl, List.forall_mem_cons.mpr ⟨List.mem_of_getElem? (i := 468) rfl, List.forall_mem_cons.mpr ⟨List.mem_of_getElem? (i := 469) rfl, List.forall_mem_cons.mpr ⟨List.mem_of_getElem? (i := 470) rfl, List.forall_mem_cons.mpr ⟨List.mem_of_getElem? (i := 471) rfl, List.forall_mem_cons.mpr ⟨List.mem_of_getElem? (i := 472) rfl, List.forall_mem_cons.mpr ⟨List.mem_of_getElem? (i := 474) rfl, List.forall_mem_cons.mpr ⟨List.mem_of_getElem? (i := 24) rfl, List.forall_mem_cons.mpr ⟨List.mem_of_getElem? (i := 475) rfl, List.forall_mem_cons.mpr ⟨List.mem_of_getElem? (i := 476) rfl, List.forall_mem_cons.mpr ⟨List.mem_of_getElem? (i := 478) rfl, List.forall_mem_cons.mpr ⟨List.mem_of_getElem? (i := 25) rfl, List.forall_mem_cons.mpr ⟨List.mem_of_getElem? (i := 479) rfl, List.forall_mem_cons.mpr ⟨List.mem_of_getElem? (i := 480) rfl, List.forall_mem_cons.mpr ⟨List.mem_of_getElem? (i := 482) rfl, List.forall_mem_cons.mpr ⟨List.mem_of_getElem? (i := 26) rfl, List.forall_mem_cons.mpr ⟨List.mem_of_getElem? (i := 483) rfl, List.forall_mem_cons.mpr ⟨List.mem_of_getElem? (i := 852) rfl, List.forall_mem_cons.mpr ⟨List.mem_of_getElem? (i := 853) rfl, fun _ h => absurd h List.not_mem_nil⟩⟩⟩⟩⟩⟩⟩⟩⟩⟩⟩⟩⟩⟩⟩⟩⟩⟩⟩⟩⟩⟩⟩⟩
set_option maxRecDepth 100000 in
theorem tL_24 : ∀ w ∈ wsL_law_r24, w ∈ lw_tbl := List.forall_mem_cons.mpr ⟨List.mem_of_getElem? (i := 854) rfl, List.forall_mem_cons.mpr ⟨List.mem_of_getElem? (i := 855) rfl, List.forall_mem_cons.mpr ⟨List.mem_of_getElem? (i := 484) rfl, List.forall_mem_cons.mpr ⟨List.mem_of_getElem? (i := 485) rfl, List.forall_mem_cons.mpr ⟨List.mem_of_getElem? (i := 486) rfl, List.forall_mem_cons.mpr ⟨List.mem_of_getElem? (i := 487) rfl, List.forall_mem_cons.mpr ⟨List.mem_of_getElem? (i := 856) rfl, List.forall_mem_cons.mpr ⟨List.mem_of_getElem? (i := 857) rfl, List.forall_mem_cons.mpr ⟨List.mem_of_getElem? (i := 858) rfl, List.forall_mem_cons.mpr ⟨List.mem_of_getElem? (i := 859) rfl, List.forall_mem_cons.mpr ⟨List.mem_of_getElem? (i := 488) rfl, List.forall_mem_cons.mpr ⟨List.mem_of_getElem? (i := 489) rfl, List.forall_mem_cons.mpr ⟨List.mem_of_getElem? (i := 490) rfl, List.forall_mem_cons.mpr ⟨List.mem_of_getElem? (i := 491) rfl, List.forall_mem_cons.mpr ⟨List.mem_of_getElem? (i := 860) rfl, List.forall_mem_cons.mpr ⟨List.mem_of_getElem? (i := 861) rfl, List.forall_mem_cons.mpr ⟨List.mem_of_getElem? (i := 862) rfl, List.forall_mem_cons.mpr ⟨List.mem_of_getElem? (i := 863) rfl, List.forall_mem_cons.mpr ⟨List.mem_of_getElem? (i := 492) rfl, List.forall_mem_cons.mpr ⟨List.mem_of_getElem? (i := 493) rfl, List.forall_mem_cons.mpr ⟨List.mem_of_getElem? (i := 494) rfl, List.forall_mem_cons.mpr ⟨List.mem_of_getElem? (i := 495) rfl, List.forall_mem_cons.mpr ⟨List.mem_of_getElem? (i := 496) rfl, List.forall_mem_cons.mpr ⟨List.mem_of_getElem? (i := 498) rfl, fun _ h => absurd h List.not_mem_nil⟩⟩⟩⟩⟩⟩⟩⟩⟩⟩⟩⟩⟩⟩⟩⟩⟩⟩⟩⟩⟩⟩⟩⟩
set_option maxRecDepth 100000 in
theorem tL_25 : ∀ w ∈ wsL_law_r25, w ∈ lw_tbl := List.forall_mem_cons.mpr ⟨List.mem_of_getElem? (i := 27) rfl, List.forall_mem_cons.mpr ⟨List.mem_of_getElem? (i := 499) rfl, List.forall_mem_cons.mpr ⟨List.mem_of_getElem? (i := 864) rfl, List.forall_mem_cons.mpr ⟨List.mem_of_getElem? (i := 865) rfl, List.forall_mem_cons.mpr ⟨List.mem_of_getElem? (i := 866) rfl, List.forall_mem_cons.mpr ⟨List.mem_of_getElem? (i := 867) rfl, List.forall_mem_cons.mpr ⟨List.mem_of_getElem? (i := 500) rfl, List.forall_mem_cons.mpr ⟨List.mem_of_getElem? (i := 501) rfl, List.forall_mem_cons.mpr ⟨List.mem_of_getElem? (i := 502) rfl, List.forall_mem_cons.mpr ⟨List.mem_of_getElem? (i := 503) rfl, List.forall_mem_cons.mpr ⟨List.mem_of_getElem? (i := 504) rfl, List.forall_mem_cons.mpr ⟨List.mem_of_getElem? (i := 505) rfl, List.forall_mem_cons.mpr ⟨List.mem_of_getElem? (i := 506) rfl, List.forall_mem_cons.mpr ⟨List.mem_of_getElem? (i := 507) rfl, List.forall_mem_cons.mpr ⟨List.mem_of_getElem? (i := 509) rfl, List.forall_mem_cons.mpr ⟨List.mem_of_getElem? (i := 28) rfl, List.forall_mem_cons.mpr ⟨List.mem_of_getElem? (i := 510) rfl, List.forall_mem_cons.mpr ⟨List.mem_of_getElem? (i := 511) rfl, List.forall_mem_cons.mpr ⟨List.mem_of_getElem? (i := 512) rfl, List.forall_mem_cons.mpr ⟨List.mem_of_getElem? (i := 513) rfl, List.forall_mem_cons.mpr ⟨List.mem_of_getElem? (i := 868) rfl, List.forall_mem_cons.mpr ⟨List.mem_of_getElem? (i := 869) rfl, List.forall_mem_cons.mpr ⟨List.mem_of_getElem? (i := 870) rfl, List.forall_mem_cons.mpr ⟨List.mem_of_getElem? (i := 871) rfl, fun _ h => absurd h List.not_mem_nil⟩⟩⟩⟩⟩⟩⟩⟩⟩⟩⟩⟩⟩⟩⟩⟩⟩⟩⟩⟩⟩⟩⟩⟩
set_option maxRecDepth 100000 in
theorem tL_26 : ∀ w ∈ wsL_law_r26, w ∈ lw_tbl := List.forall_mem_cons.mpr ⟨List.mem_of_getElem? (i := 872) rfl, List.forall_mem_cons.mpr ⟨List.mem_of_getElem? (i := 873) rfl, List.forall_mem_cons.mpr ⟨List.mem_of_getElem? (i := 874) rfl, List.forall_mem_cons.mpr ⟨List.mem_of_getElem? (i := 875) rfl, List.forall_mem_cons.mpr ⟨List.mem_of_getElem? (i := 876) rfl, List.forall_mem_cons.mpr ⟨List.mem_of_getElem? (i := 877) rfl, List.forall_mem_cons.mpr ⟨List.mem_of_getElem? (i := 514) rfl, List.forall_mem_cons.mpr ⟨List.mem_of_getElem? (i := 515) rfl, List.forall_mem_cons.mpr ⟨List.mem_of_getElem? (i := 516) rfl, List.forall_mem_cons.mpr ⟨List.mem_of_getElem? (i := 517) rfl, List.forall_mem_cons.mpr ⟨List.mem_of_getElem? (i := 878) rfl, List.forall_mem_cons.mpr ⟨List.mem_of_getElem? (i := 879) rfl, List.forall_mem_cons.mpr ⟨List.mem_of_getElem? (i := 880) rfl, List.forall_mem_cons.mpr ⟨List.mem_of_getElem? (i := 881) rfl, List.forall_mem_cons.mpr ⟨List.mem_of_getElem? (i := 518) rfl, List.forall_mem_cons.mpr ⟨List.mem_of_getElem? (i := 519) rfl, List.forall_mem_cons.mpr ⟨List.mem_of_getElem? (i := 520) rfl, List.forall_mem_cons.mpr ⟨List.mem_of_getElem? (i := 521) rfl, List.forall_mem_cons.mpr ⟨List.mem_of_getElem? (i := 522) rfl, List.forall_mem_cons.mpr ⟨List.mem_of_getElem? (i := 524) rfl, List.forall_mem_cons.mpr ⟨List.mem_of_getElem? (i := 29) rfl, List.forall_mem_cons.mpr ⟨List.mem_of_getElem? (i := 525) rfl, List.forall_mem_cons.mpr ⟨List.mem_of_getElem? (i := 882) rfl, List.forall_mem_cons.mpr ⟨List.mem_of_getElem? (i := 883) rfl, fun _ h => absurd h List.not_mem_nil⟩⟩⟩⟩⟩⟩⟩⟩⟩⟩⟩⟩⟩⟩⟩⟩⟩⟩⟩⟩⟩⟩⟩⟩
set_option maxRecDepth 100000 in
theorem tL_27 : ∀ w ∈ wsL_law_r27, w ∈ lw_tbl := List.forall_mem_cons.mpr ⟨List.mem_of_getElem? (i := 884) rfl, List.forall_mem_cons.mpr ⟨List.mem_of_getElem? (i := 885) rfl, List.forall_mem_cons.mpr ⟨List.mem_of_getElem? (i := 526) rfl, List.forall_mem_cons.mpr ⟨List.mem_of_getElem? (i := 527) rfl, List.forall_mem_cons.mpr ⟨List.mem_of_getElem? (i := 528) rfl, List.forall_mem_cons.mpr ⟨List.mem_of_getElem? (i := 529) rfl, List.forall_mem_cons.mpr ⟨List.mem_of_getElem? (i := 886) rfl, List.forall_mem_cons.mpr ⟨List.mem_of_getElem? (i := 887) rfl, List.forall_mem_cons.mpr ⟨List.mem_of_getElem? (i := 888) rfl, List.forall_mem_cons.mpr ⟨List.mem_of_getElem? (i := 889) rfl, List.forall_mem_cons.mpr ⟨List.mem_of_getElem? (i := 530) rfl, List.forall_mem_cons.mpr ⟨List.mem_of_getElem? (i := 531) rfl, List.forall_mem_cons.mpr ⟨List.mem_of_getElem? (i := 532) rfl, List.forall_mem_cons.mpr ⟨List.mem_of_getElem? (i := 533) rfl, List.forall_mem_cons.mpr ⟨List.mem_of_getElem? (i := 534) rfl, List.forall_mem_cons.mpr ⟨List.mem_of_getElem? (i := 536) rfl, List.forall_mem_cons.mpr ⟨List.mem_of_getElem? (i := 30) rfl, List.forall_mem_cons.mpr ⟨List.mem_of_getElem? (i := 537) rfl, List.forall_mem_cons.mpr ⟨List.mem_of_getElem? (i := 224) rfl, List.forall_mem_cons.mpr ⟨List.mem_of_getElem? (i := 538) rfl, List.forall_mem_cons.mpr ⟨List.mem_of_getElem? (i := 540) rfl, List.forall_mem_cons.mpr ⟨List.mem_of_getElem? (i := 31) rfl, List.forall_mem_cons.mpr ⟨List.mem_of_getElem? (i := 541) rfl, List.forall_mem_cons.mpr ⟨List.mem_of_getElem? (i := 542) rfl, fun _ h => absurd h List.not_mem_nil⟩⟩⟩⟩⟩⟩⟩⟩⟩⟩⟩⟩⟩⟩⟩⟩⟩⟩⟩⟩⟩⟩⟩⟩
set_option maxRecDepth 100000 in
theorem tL_28 : ∀ w ∈ wsL_law_r28, w ∈ lw_tbl := List.forall_mem_cons.mpr ⟨List.mem_of_getElem? (i := 543) rfl, List.forall_mem_cons.mpr ⟨List.mem_of_getElem? (i := 545) rfl, List.forall_mem_cons.mpr ⟨List.mem_of_getElem? (i := 32) rfl, List.forall_mem_cons.mpr ⟨List.mem_of_getElem? (i := 546) rfl, List.forall_mem_cons.mpr ⟨List.mem_of_getElem? (i := 547) rfl, List.forall_mem_cons.mpr ⟨List.mem_of_getElem? (i := 548) rfl, List.forall_mem_cons.mpr ⟨List.mem_of_getElem? (i := 550) rfl, List.forall_mem_cons.mpr ⟨List.mem_of_getElem? (i := 33) rfl, List.forall_mem_cons.mpr ⟨List.mem_of_getElem? (i := 551) rfl, List.forall_mem_cons.mpr ⟨List.mem_of_getElem? (i := 552) rfl, List.forall_mem_cons.mpr ⟨List.mem_of_getElem? (i := 553) rfl, List.forall_mem_cons.mpr ⟨List.mem_of_getElem? (i := 555) rfl, List.forall_mem_cons.mpr ⟨List.mem_of_getElem? (i := 34) rfl, List.forall_mem_cons.mpr ⟨List.mem_of_getElem? (i := 556) rfl, List.forall_mem_cons.mpr ⟨List.mem_of_getElem? (i := 557) rfl, List.forall_mem_cons.mpr ⟨List.mem_of_getElem? (i := 558) rfl, List.forall_mem_cons.mpr ⟨List.mem_of_getElem? (i := 560) rfl, List.forall_mem_cons.mpr ⟨List.mem_of_getElem? (i := 35) rfl, List.forall_mem_cons.mpr ⟨List.mem_of_getElem? (i := 561) rfl, List.forall_mem_cons.mpr ⟨List.mem_of_getElem? (i := 562) rfl, List.forall_mem_cons.mpr ⟨List.mem_of_getElem? (i := 890) rfl, List.forall_mem_cons.mpr ⟨List.mem_of_getElem? (i := 891) rfl, List.forall_mem_cons.mpr ⟨List.mem_of_getElem? (i := 892) rfl, List.forall_mem_cons.mpr ⟨List.mem_of_getElem? (i := 893) rfl, fun _ h => absurd h List.not_mem_nil⟩⟩⟩⟩⟩⟩⟩⟩⟩⟩⟩⟩⟩⟩⟩⟩⟩⟩⟩⟩⟩⟩⟩⟩
set_option maxRecDepth 100000 in
theorem tL_29 : ∀ w ∈ wsL_law_r29, w ∈ lw_tbl := List.forall_mem_cons.mpr ⟨List.mem_of_getElem? (i := 586) rfl, List.forall_mem_cons.mpr ⟨List.mem_of_getElem? (i := 894) rfl, List.forall_mem_cons.mpr ⟨List.mem_of_getElem? (i := 895) rfl, List.forall_mem_cons.mpr ⟨List.mem_of_getElem? (i := 896) rfl, List.forall_mem_cons.mpr ⟨List.mem_of_getElem? (i := 897) rfl, List.forall_mem_cons.mpr ⟨List.mem_of_getElem? (i := 898) rfl, List.forall_mem_cons.mpr ⟨List.mem_of_getElem? (i := 563) rfl, List.forall_mem_cons.mpr ⟨List.mem_of_getElem? (i := 564) rfl, List.forall_mem_cons.mpr ⟨List.mem_of_getElem? (i := 565) rfl, List.forall_mem_cons.mpr ⟨List.mem_of_getElem? (i := 566) rfl, List.forall_mem_cons.mpr ⟨List.mem_of_getElem? (i := 899) rfl, List.forall_mem_cons.mpr ⟨List.mem_of_getElem? (i := 900) rfl, List.forall_mem_cons.mpr ⟨List.mem_of_getElem? (i := 901) rfl, List.forall_mem_cons.mpr ⟨List.mem_of_getElem? (i := 902) rfl, List.forall_mem_cons.mpr ⟨List.mem_of_getElem? (i := 567) rfl, List.forall_mem_cons.mpr ⟨List.mem_of_getElem? (i := 568) rfl, List.forall_mem_cons.mpr ⟨List.mem_of_getElem? (i := 569) rfl, List.forall_mem_cons.mpr ⟨List.mem_of_getElem? (i := 570) rfl, List.forall_mem_cons.mpr ⟨List.mem_of_getElem? (i := 903) rfl, List.forall_mem_cons.mpr ⟨List.mem_of_getElem? (i := 904) rfl, List.forall_mem_cons.mpr ⟨List.mem_of_getElem? (i := 905) rfl, List.forall_mem_cons.mpr ⟨List.mem_of_getElem? (i := 906) rfl, List.forall_mem_cons.mpr ⟨List.mem_of_getElem? (i := 571) rfl, List.forall_mem_cons.mpr ⟨List.mem_of_getElem? (i := 572) rfl, fun _ h => absurd h List.not_mem_nil⟩⟩⟩⟩⟩⟩⟩⟩⟩⟩⟩⟩⟩⟩⟩⟩⟩⟩⟩⟩⟩⟩⟩⟩
set_option maxRecDepth 100000 in
theorem tL_30 : ∀ w ∈ wsL_law_r30, w ∈ lw_tbl := List.forall_mem_cons.mpr ⟨List.mem_of_getElem? (i := 573) rfl, List.forall_mem_cons.mpr ⟨List.mem_of_getElem? (i := 574) rfl, List.forall_mem_cons.mpr ⟨List.mem_of_getElem? (i := 907) rfl, List.forall_mem_cons.mpr ⟨List.mem_of_getElem? (i := 908) rfl, List.forall_mem_cons.mpr ⟨List.mem_of_getElem? (i := 909) rfl, List.forall_mem_cons.mpr ⟨List.mem_of_getElem? (i := 910) rfl, List.forall_mem_cons.mpr ⟨List.mem_of_getElem? (i := 575) rfl, List.forall_mem_cons.mpr ⟨List.mem_of_getElem? (i := 576) rfl, List.forall_mem_cons.mpr ⟨List.mem_of_getElem? (i := 577) rfl, List.forall_mem_cons.mpr ⟨List.mem_of_getElem? (i := 578) rfl, List.forall_mem_cons.mpr ⟨List.mem_of_getElem? (i := 911) rfl, List.forall_mem_cons.mpr ⟨List.mem_of_getElem? (i := 912) rfl, List.forall_mem_cons.mpr ⟨List.mem_of_getElem? (i := 913) rfl, List.forall_mem_cons.mpr ⟨List.mem_of_getElem? (i := 914) rfl, fun _ h => absurd h List.not_mem_nil⟩⟩⟩⟩⟩⟩⟩⟩⟩⟩⟩⟩⟩⟩
set_option maxRecDepth 100000 in
theorem tLy_0 : ∀ w ∈ [u_lay RX0 TX0 0, u_lay RX0 TX0 1, u_lay RX0 TX0 2], w ∈ lw_tbl := List.forall_mem_cons.mpr ⟨List.mem_of_getElem? (i := 199) rfl, List.forall_mem_cons.mpr ⟨List.mem_of_getElem? (i := 201) rfl, List.forall_mem_cons.mpr ⟨List.mem_of_getElem? (i := 203) rfl, fun _ h => absurd h List.not_mem_nil⟩⟩⟩
theorem tLY_0 : ∀ w ∈ wsX00, w ∈ lw_tbl := tLy_0
set_option maxRecDepth 100000 in
theorem tLy_1 : ∀ w ∈ [u_lay RX1 TX1 0, u_lay RX1 TX1 1, u_lay RX1 TX1 2, u_lay RX1 TX1 3, u_lay RX1 TX1 4, u_lay RX1 TX1 5, u_lay RX1 TX1 6], w ∈ lw_tbl := List.forall_mem_cons.mpr ⟨List.mem_of_getElem? (i := 171) rfl, List.forall_mem_cons.mpr ⟨List.mem_of_getElem? (i := 173) rfl, List.forall_mem_cons.mpr ⟨List.mem_of_getElem? (i := 175) rfl, List.forall_mem_cons.mpr ⟨List.mem_of_getElem? (i := 177) rfl, List.forall_mem_cons.mpr ⟨List.mem_of_getElem? (i := 179) rfl, List.forall_mem_cons.mpr ⟨List.mem_of_getElem? (i := 181) rfl, List.forall_mem_cons.mpr ⟨List.mem_of_getElem? (i := 183) rfl, fun _ h => absurd h List.not_mem_nil⟩⟩⟩⟩⟩⟩⟩
theorem tLY_1 : ∀ w ∈ wsX10, w ∈ lw_tbl := tLy_1
set_option maxRecDepth 100000 in
theorem tLy_2 : ∀ w ∈ [u_lay RX2 TX2 0, u_lay RX2 TX2 1, u_lay RX2 TX2 2, u_lay RX2 TX2 3, u_lay RX2 TX2 4], w ∈ lw_tbl := List.forall_mem_cons.mpr ⟨List.mem_of_getElem? (i := 92) rfl, List.forall_mem_cons.mpr ⟨List.mem_of_getElem? (i := 94) rfl, List.forall_mem_cons.mpr ⟨List.mem_of_getElem? (i := 96) rfl, List.forall_mem_cons.mpr ⟨List.mem_of_getElem? (i := 98) rfl, List.forall_mem_cons.mpr ⟨List.mem_of_getElem? (i := 100) rfl, fun _ h => absurd h List.not_mem_nil⟩⟩⟩⟩⟩
theorem tLY_2 : ∀ w ∈ wsX20, w ∈ lw_tbl := tLy_2
set_option maxRecDepth 100000 in
theorem tLy_3 : ∀ w ∈ [u_lay RX3 TX3 0, u_lay RX3 TX3 1, u_lay RX3 TX3 2, u_lay RX3 TX3 3, u_lay RX3 TX3 4, u_lay RX3 TX3 5, u_lay RX3 TX3 6, u_lay RX3 TX3 7], w ∈ lw_tbl := List.forall_mem_cons.mpr ⟨List.mem_of_getElem? (i := 134) rfl, List.forall_mem_cons.mpr ⟨List.mem_of_getElem? (i := 136) rfl, List.forall_mem_cons.mpr ⟨List.mem_of_getElem? (i := 138) rfl, List.forall_mem_cons.mpr ⟨List.mem_of_getElem? (i := 140) rfl, List.forall_mem_cons.mpr ⟨List.mem_of_getElem? (i := 142) rfl, List.forall_mem_cons.mpr ⟨List.mem_of_getElem? (i := 144) rfl, List.forall_mem_cons.mpr ⟨List.mem_of_getElem? (i := 146) rfl, List.forall_mem_cons.mpr ⟨List.mem_of_getElem? (i := 148) rfl, fun _ h => absurd h List.not_mem_nil⟩⟩⟩⟩⟩⟩⟩⟩
theorem tLY_3 : ∀ w ∈ wsX30, w ∈ lw_tbl := tLy_3
set_option maxRecDepth 100000 in
theorem tLy_4 : ∀ w ∈ [u_lay RX4 TX4 0, u_lay RX4 TX4 1, u_lay RX4 TX4 2, u_lay RX4 TX4 3, u_lay RX4 TX4 4, u_lay RX4 TX4 5, u_lay RX4 TX4 6, u_lay RX4 TX4 7, u_lay RX4 TX4 8, u_lay RX4 TX4 9, u_lay RX4 TX4 10, u_lay RX4 TX4 11, u_lay RX4 TX4 12, u_lay RX4 TX4 13, u_lay RX4 TX4 14], w ∈ lw_tbl := List.forall_mem_cons.mpr ⟨List.mem_of_getElem? (i := 225) rfl, List.forall_mem_cons.mpr ⟨List.mem_of_getElem? (i := 227) rfl, List.forall_mem_cons.mpr ⟨List.mem_of_getElem? (i := 229) rfl, List.forall_mem_cons.mpr ⟨List.mem_of_getElem? (i := 231) rfl, List.forall_mem_cons.mpr ⟨List.mem_of_getElem? (i := 233) rfl, List.forall_mem_cons.mpr ⟨List.mem_of_getElem? (i := 235) rfl, List.forall_mem_cons.mpr ⟨List.mem_of_getElem? (i := 237) rfl, List.forall_mem_cons.mpr ⟨List.mem_of_getElem? (i := 239) rfl, List.forall_mem_cons.mpr ⟨List.mem_of_getElem? (i := 241) rfl, List.forall_mem_cons.mpr ⟨List.mem_of_getElem? (i := 243) rfl, List.forall_mem_cons.mpr ⟨List.mem_of_getElem? (i := 245) rfl, List.forall_mem_cons.mpr ⟨List.mem_of_getElem? (i := 247) rfl, List.forall_mem_cons.mpr ⟨List.mem_of_getElem? (i := 249) rfl, List.forall_mem_cons.mpr ⟨List.mem_of_getElem? (i := 251) rfl, List.forall_mem_cons.mpr ⟨List.mem_of_getElem? (i := 253) rfl, fun _ h => absurd h List.not_mem_nil⟩⟩⟩⟩⟩⟩⟩⟩⟩⟩⟩⟩⟩⟩⟩
theorem tLY_4 : ∀ w ∈ wsX40, w ∈ lw_tbl := tLy_4
set_option maxRecDepth 100000 in
theorem tLy_5 : ∀ w ∈ [u_lay RX5 TX5 0, u_lay RX5 TX5 1, u_lay RX5 TX5 2, u_lay RX5 TX5 3, u_lay RX5 TX5 4, u_lay RX5 TX5 5, u_lay RX5 TX5 6, u_lay RX5 TX5 7, u_lay RX5 TX5 8, u_lay RX5 TX5 9, u_lay RX5 TX5 10, u_lay RX5 TX5 11, u_lay RX5 TX5 12, u_lay RX5 TX5 13, u_lay RX5 TX5 14, u_lay RX5 TX5 15, u_lay RX5 TX5 16, u_lay RX5 TX5 17, u_lay RX5 TX5 18, u_lay RX5 TX5 19, u_lay RX5 TX5 20, u_lay RX5 TX5 21, u_lay RX5 TX5 22, u_lay RX5 TX5 23, u_lay RX5 TX5 24, u_lay RX5 TX5 25, u_lay RX5 TX5 26], w ∈ lw_tbl := List.forall_mem_cons.mpr ⟨List.mem_of_getElem? (i := 612) rfl, List.forall_mem_cons.mpr ⟨List.mem_of_getElem? (i := 614) rfl, List.forall_mem_cons.mpr ⟨List.mem_of_getElem? (i := 616) rfl, List.forall_mem_cons.mpr ⟨List.mem_of_getElem? (i := 618) rfl, List.forall_mem_cons.mpr ⟨List.mem_of_getElem? (i := 620) rfl, List.forall_mem_cons.mpr ⟨List.mem_of_getElem? (i := 622) rfl, List.forall_mem_cons.mpr ⟨List.mem_of_getElem? (i := 624) rfl, List.forall_mem_cons.mpr ⟨List.mem_of_getElem? (i := 626) rfl, List.forall_mem_cons.mpr ⟨List.mem_of_getElem? (i := 628) rfl, List.forall_mem_cons.mpr ⟨List.mem_of_getElem? (i := 630) rfl, List.forall_mem_cons.mpr ⟨List.mem_of_getElem? (i := 632) rfl, List.forall_mem_cons.mpr ⟨List.mem_of_getElem? (i := 634) rfl, List.forall_mem_cons.mpr ⟨List.mem_of_getElem? (i := 636) rfl, List.forall_mem_cons.mpr ⟨List.mem_of_getElem? (i := 638) rfl, List.forall_mem_cons.mpr ⟨List.mem_of_getElem? (i := 640) rfl, List.forall_mem_cons.mpr ⟨List.mem_of_getElem? (i := 642) rfl, List.forall_mem_cons.mpr ⟨List.mem_of_getElem? (i := 644) rfl, List.forall_mem_cons.mpr ⟨List.mem_of_getElem? (i := 646) rfl, List.forall_mem_cons.mpr ⟨List.mem_of_getElem? (i := 648) rfl, List.forall_mem_cons.mpr ⟨List.mem_of_getElem? (i := 650) rfl, List.forall_mem_cons.mpr ⟨List.mem_of_getElem? (i := 652) rfl, List.forall_mem_cons.mpr ⟨List.mem_of_getElem? (i := 654) rfl, List.forall_mem_cons.mpr ⟨List.mem_of_getElem? (i := 656) rfl, List.forall_mem_cons.mpr ⟨List.mem_of_getElem? (i := 658) rfl, List.forall_mem_cons.mpr ⟨List.mem_of_getElem? (i := 660) rfl, List.forall_mem_cons.mpr ⟨List.mem_of_getElem? (i := 662) rfl, List.forall_mem_cons.mpr ⟨List.mem_of_getElem? (i := 664) rfl, fun _ h => absurd h List.not_mem_nil⟩⟩⟩⟩⟩⟩⟩⟩⟩⟩⟩⟩⟩⟩⟩⟩⟩⟩⟩⟩⟩⟩⟩⟩⟩⟩⟩
theorem tLY_5 : ∀ w ∈ wsX50, w ∈ lw_tbl := tLy_5
theorem wsL_law_in : ∀ w ∈ wsL_law, w ∈ lw_tbl := List.forall_mem_append.mpr ⟨List.forall_mem_append.mpr ⟨List.forall_mem_append.mpr ⟨List.forall_mem_append.mpr ⟨List.forall_mem_append.mpr ⟨List.forall_mem_append.mpr ⟨List.forall_mem_append.mpr ⟨List.forall_mem_append.mpr ⟨tL_1, List.forall_mem_append.mpr ⟨tL_2, List.forall_mem_append.mpr ⟨tL_3, List.forall_mem_append.mpr ⟨tL_4, List.forall_mem_append.mpr ⟨tL_5, List.forall_mem_append.mpr ⟨tL_6, List.forall_mem_append.mpr ⟨tL_7, List.forall_mem_append.mpr ⟨tL_8, List.forall_mem_append.mpr ⟨tL_9, List.forall_mem_append.mpr ⟨tL_10, List.forall_mem_append.mpr ⟨tL_11, List.forall_mem_append.mpr ⟨tL_12, List.forall_mem_append.mpr ⟨tL_13, List.forall_mem_append.mpr ⟨tL_14, List.forall_mem_append.mpr ⟨tL_15, List.forall_mem_append.mpr ⟨tL_16, List.forall_mem_append.mpr ⟨tL_17, List.forall_mem_append.mpr ⟨tL_18, List.forall_mem_append.mpr ⟨tL_19, List.forall_mem_append.mpr ⟨tL_20, List.forall_mem_append.mpr ⟨tL_21, List.forall_mem_append.mpr ⟨tL_22, List.forall_mem_append.mpr ⟨tL_23, List.forall_mem_append.mpr ⟨tL_24, List.forall_mem_append.mpr ⟨tL_25, List.forall_mem_append.mpr ⟨tL_26, List.forall_mem_append.mpr ⟨tL_27, List.forall_mem_append.mpr ⟨tL_28, List.forall_mem_append.mpr ⟨tL_29, tL_30⟩⟩⟩⟩⟩⟩⟩⟩⟩⟩⟩⟩⟩⟩⟩⟩⟩⟩⟩⟩⟩⟩⟩⟩⟩⟩⟩⟩⟩, tLY_4⟩, tLY_5⟩, tLY_2⟩, tLY_3⟩, tLY_1⟩, tLY_0⟩, fun _ h => absurd h List.not_mem_nil⟩
theorem inlX0 : ∀ w ∈ wsX00, w ∈ wsL_law := fun _ h => List.mem_append_left _ (List.mem_append_right _ h)
theorem inlX1 : ∀ w ∈ wsX10, w ∈ wsL_law := fun _ h => List.mem_append_left _ (List.mem_append_left _ (List.mem_append_right _ h))
theorem inlX2 : ∀ w ∈ wsX20, w ∈ wsL_law := fun _ h => List.mem_append_left _ (List.mem_append_left _ (List.mem_append_left _ (List.mem_append_left _ (List.mem_append_right _ h))))
theorem inlX3 : ∀ w ∈ wsX30, w ∈ wsL_law := fun _ h => List.mem_append_left _ (List.mem_append_left _ (List.mem_append_left _ (List.mem_append_right _ h)))
theorem inlX4 : ∀ w ∈ wsX40, w ∈ wsL_law := fun _ h => List.mem_append_left _ (List.mem_append_left _ (List.mem_append_left _ (List.mem_append_left _ (List.mem_append_left _ (List.mem_append_left _ (List.mem_append_right _ h))))))
theorem inlX5 : ∀ w ∈ wsX50, w ∈ wsL_law := fun _ h => List.mem_append_left _ (List.mem_append_left _ (List.mem_append_left _ (List.mem_append_left _ (List.mem_append_left _ (List.mem_append_right _ h)))))
abbrev vwCl : List vw_C := [(RX0, TX0, 3), (RX1, TX1, 7), (RX2, TX2, 5), (RX3, TX3, 8), (RX4, TX4, 15), (RX5, TX5, 27)]
end
section
theorem dX0_init_0 : decode cX0_init 0 = .ok (.aload_n 0, 1) := by decide +kernel
theorem dX0_init_1 : decode cX0_init 1 = .ok (.invokespecial 3, 3) := by decide +kernel
theorem dX0_init_4 : decode cX0_init 4 = .ok (.aload_n 0, 1) := by decide +kernel
theorem dX0_init_5 : decode cX0_init 5 = .ok (.bipush 10, 2) := by decide +kernel
theorem dX0_init_7 : decode cX0_init 7 = .ok (.anewarray 9, 3) := by decide +kernel
theorem dX0_init_10 : decode cX0_init 10 = .ok (.putfield 11, 3) := by decide +kernel
theorem dX0_init_13 : decode cX0_init 13 = .ok (.iconst 0, 1) := by decide +kernel
theorem dX0_init_14 : decode cX0_init 14 = .ok (.istore_n 1, 1) := by decide +kernel
theorem dX0_init_15 : decode cX0_init 15 = .ok (.iload_n 1, 1) := by decide +kernel
theorem dX0_init_16 : decode cX0_init 16 = .ok (.bipush 10, 2) := by decide +kernel
theorem dX0_init_18 : decode cX0_init 18 = .ok (.if_icmp .ge 22, 3) := by decide +kernel
theorem dX0_init_21 : decode cX0_init 21 = .ok (.aload_n 0, 1) := by decide +kernel
theorem dX0_init_22 : decode cX0_init 22 = .ok (.getfield 11, 3) := by decide +kernel
theorem dX0_init_25 : decode cX0_init 25 = .ok (.iload_n 1, 1) := by decide +kernel
theorem dX0_init_26 : decode cX0_init 26 = .ok (.new 9, 3) := by decide +kernel
theorem dX0_init_29 : decode cX0_init 29 = .ok (.dup, 1) := by decide +kernel
theorem dX0_init_30 : decode cX0_init 30 = .ok (.invokespecial 17, 3) := by decide +kernel
theorem dX0_init_33 : decode cX0_init 33 = .ok (.aastore, 1) := by decide +kernel
theorem dX0_init_34 : decode cX0_init 34 = .ok (.iinc 1 1, 3) := by decide +kernel
theorem dX0_init_37 : decode cX0_init 37 = .ok (.goto (-22), 3) := by decide +kernel
theorem dX0_init_40 : decode cX0_init 40 = .ok (.return_, 1) := by decide +kernel
theorem dX0_add_0 : decode cX0_add 0 = .ok (.aload_n 0, 1) := by decide +kernel
theorem dX0_add_1 : decode cX0_add 1 = .ok (.getfield 11, 3) := by decide +kernel
theorem dX0_add_4 : decode cX0_add 4 = .ok (.aload_n 0, 1) := by decide +kernel
theorem dX0_add_5 : decode cX0_add 5 = .ok (.getfield 18, 3) := by decide +kernel
theorem dX0_add_8 : decode cX0_add 8 = .ok (.aaload, 1) := by decide +kernel
theorem dX0_add_9 : decode cX0_add 9 = .ok (.aload_n 1, 1) := by decide +kernel
theorem dX0_add_10 : decode cX0_add 10 = .ok (.invokevirtual 22, 3) := by decide +kernel
theorem dX0_add_13 : decode cX0_add 13 = .ok (.aload_n 0, 1) := by decide +kernel
theorem dX0_add_14 : decode cX0_add 14 = .ok (.aload_n 0, 1) := by decide +kernel
theorem dX0_add_15 : decode cX0_add 15 = .ok (.getfield 18, 3) := by decide +kernel
theorem dX0_add_18 : decode cX0_add 18 = .ok (.iconst 1, 1) := by decide +kernel
theorem dX0_add_19 : decode cX0_add 19 = .ok (.iadd, 1) := by decide +kernel
theorem dX0_add_20 : decode cX0_add 20 = .ok (.bipush 10, 2) := by decide +kernel
theorem dX0_add_22 : decode cX0_add 22 = .ok (.irem, 1) := by decide +kernel
theorem dX0_add_23 : decode cX0_add 23 = .ok (.putfield 18, 3) := by decide +kernel
theorem dX0_add_26 : decode cX0_add 26 = .ok (.aload_n 0, 1) := by decide +kernel
theorem dX0_add_27 : decode cX0_add 27 = .ok (.aload_n 0, 1) := by decide +kernel
theorem dX0_add_28 : decode cX0_add 28 = .ok (.getfield 26, 3) := by decide +kernel
theorem dX0_add_31 : decode cX0_add 31 = .ok (.iconst 1, 1) := by decide +kernel
theorem dX0_add_32 : decode cX0_add 32 = .ok (.iadd, 1) := by decide +kernel
theorem dX0_add_33 : decode cX0_add 33 = .ok (.bipush 10, 2) := by decide +kernel
theorem dX0_add_35 : decode cX0_add 35 = .ok (.invokestatic 29, 3) := by decide +kernel
theorem dX0_add_38 : decode cX0_add 38 = .ok (.putfield 26, 3) := by decide +kernel
theorem dX0_add_41 : decode cX0_add 41 = .ok (.return_, 1) := by decide +kernel
theorem dX0_takeLatest_0 : decode cX0_takeLatest 0 = .ok (.aload_n 0, 1) := by decide +kernel
theorem dX0_takeLatest_1 : decode cX0_takeLatest 1 = .ok (.getfield 26, 3) := by decide +kernel
theorem dX0_takeLatest_4 : decode cX0_takeLatest 4 = .ok (.ifCond .ne 4, 3) := by decide +kernel
theorem dX0_takeLatest_7 : decode cX0_takeLatest 7 = .ok (.return_, 1) := by decide +kernel
theorem dX0_takeLatest_8 : decode cX0_takeLatest 8 = .ok (.aload_n 0, 1) := by decide +kernel
theorem dX0_takeLatest_9 : decode cX0_takeLatest 9 = .ok (.aload_n 0, 1) := by decide +kernel
theorem dX0_takeLatest_10 : decode cX0_takeLatest 10 = .ok (.getfield 18, 3) := by decide +kernel
theorem dX0_takeLatest_13 : decode cX0_takeLatest 13 = .ok (.bipush 10, 2) := by decide +kernel
theorem dX0_takeLatest_15 : decode cX0_takeLatest 15 = .ok (.iadd, 1) := by decide +kernel
theorem dX0_takeLatest_16 : decode cX0_takeLatest 16 = .ok (.iconst 1, 1) := by decide +kernel
theorem dX0_takeLatest_17 : decode cX0_takeLatest 17 = .ok (.isub, 1) := by decide +kernel
theorem dX0_takeLatest_18 : decode cX0_takeLatest 18 = .ok (.bipush 10, 2) := by decide +kernel
theorem dX0_takeLatest_20 : decode cX0_takeLatest 20 = .ok (.irem, 1) := by decide +kernel
theorem dX0_takeLatest_21 : decode cX0_takeLatest 21 = .ok (.putfield 18, 3) := by decide +kernel
theorem dX0_takeLatest_24 : decode cX0_takeLatest 24 = .ok (.aload_n 0, 1) := by decide +kernel
theorem dX0_takeLatest_25 : decode cX0_takeLatest 25 = .ok (.dup, 1) := by decide +kernel
theorem dX0_takeLatest_26 : decode cX0_takeLatest 26 = .ok (.getfield 26, 3) := by decide +kernel
theorem dX0_takeLatest_29 : decode cX0_takeLatest 29 = .ok (.iconst 1, 1) := by decide +kernel
theorem dX0_takeLatest_30 : decode cX0_takeLatest 30 = .ok (.isub, 1) := by decide +kernel
theorem dX0_takeLatest_31 : decode cX0_takeLatest 31 = .ok (.putfield 26, 3) := by decide +kernel
theorem dX0_takeLatest_34 : decode cX0_takeLatest 34 = .ok (.aload_n 1, 1) := by decide +kernel
theorem dX0_takeLatest_35 : decode cX0_takeLatest 35 = .ok (.aload_n 0, 1) := by decide +kernel
theorem dX0_takeLatest_36 : decode cX0_takeLatest 36 = .ok (.getfield 11, 3) := by decide +kernel
theorem dX0_takeLatest_39 : decode cX0_takeLatest 39 = .ok (.aload_n 0, 1) := by decide +kernel
theorem dX0_takeLatest_40 : decode cX0_takeLatest 40 = .ok (.getfield 18, 3) := by decide +kernel
theorem dX0_takeLatest_43 : decode cX0_takeLatest 43 = .ok (.aaload, 1) := by decide +kernel
theorem dX0_takeLatest_44 : decode cX0_takeLatest 44 = .ok (.invokevirtual 22, 3) := by decide +kernel
theorem dX0_takeLatest_47 : decode cX0_takeLatest 47 = .ok (.return_, 1) := by decide +kernel
theorem dX1_init_0 : decode cX1_init 0 = .ok (.aload_n 0, 1) := by decide +kernel
theorem dX1_init_1 : decode cX1_init 1 = .ok (.invokespecial 3, 3) := by decide +kernel
theorem dX1_init_4 : decode cX1_init 4 = .ok (.aload_n 0, 1) := by decide +kernel
theorem dX1_init_5 : decode cX1_init 5 = .ok (.bipush 6, 2) := by decide +kernel
theorem dX1_init_7 : decode cX1_init 7 = .ok (.newarray .int, 2) := by decide +kernel
theorem dX1_init_9 : decode cX1_init 9 = .ok (.putfield 9, 3) := by decide +kernel
theorem dX1_init_12 : decode cX1_init 12 = .ok (.aload_n 0, 1) := by decide +kernel
theorem dX1_init_13 : decode cX1_init 13 = .ok (.bipush 6, 2) := by decide +kernel
theorem dX1_init_15 : decode cX1_init 15 = .ok (.newarray .int, 2) := by decide +kernel
theorem dX1_init_17 : decode cX1_init 17 = .ok (.putfield 15, 3) := by decide +kernel
theorem dX1_init_20 : decode cX1_init 20 = .ok (.aload_n 0, 1) := by decide +kernel
theorem dX1_init_21 : decode cX1_init 21 = .ok (.bipush 6, 2) := by decide +kernel
theorem dX1_init_23 : decode cX1_init 23 = .ok (.newarray .int, 2) := by decide +kernel
theorem dX1_init_25 : decode cX1_init 25 = .ok (.putfield 18, 3) := by decide +kernel
theorem dX1_init_28 : decode cX1_init 28 = .ok (.aload_n 0, 1) := by decide +kernel
theorem dX1_init_29 : decode cX1_init 29 = .ok (.bipush 6, 2) := by decide +kernel
theorem dX1_init_31 : decode cX1_init 31 = .ok (.newarray .int, 2) := by decide +kernel
theorem dX1_init_33 : decode cX1_init 33 = .ok (.putfield 21, 3) := by decide +kernel
theorem dX1_init_36 : decode cX1_init 36 = .ok (.aload_n 0, 1) := by decide +kernel
theorem dX1_init_37 : decode cX1_init 37 = .ok (.bipush 6, 2) := by decide +kernel
theorem dX1_init_39 : decode cX1_init 39 = .ok (.newarray .int, 2) := by decide +kernel
theorem dX1_init_41 : decode cX1_init 41 = .ok (.putfield 24, 3) := by decide +kernel
theorem dX1_init_44 : decode cX1_init 44 = .ok (.return_, 1) := by decide +kernel
theorem dX1_begin_0 : decode cX1_begin 0 = .ok (.iconst 0, 1) := by decide +kernel
theorem dX1_begin_1 : decode cX1_begin 1 = .ok (.istore_n 2, 1) := by decide +kernel
theorem dX1_begin_2 : decode cX1_begin 2 = .ok (.iload_n 2, 1) := by decide +kernel
theorem dX1_begin_3 : decode cX1_begin 3 = .ok (.bipush 6, 2) := by decide +kernel
theorem dX1_begin_5 : decode cX1_begin 5 = .ok (.if_icmp .ge 75, 3) := by decide +kernel
theorem dX1_begin_8 : decode cX1_begin 8 = .ok (.iload_n 2, 1) := by decide +kernel
theorem dX1_begin_9 : decode cX1_begin 9 = .ok (.iconst 2, 1) := by decide +kernel
theorem dX1_begin_10 : decode cX1_begin 10 = .ok (.irem, 1) := by decide +kernel
theorem dX1_begin_11 : decode cX1_begin 11 = .ok (.ifCond .ne 9, 3) := by decide +kernel
theorem dX1_begin_14 : decode cX1_begin 14 = .ok (.iload_n 2, 1) := by decide +kernel
theorem dX1_begin_15 : decode cX1_begin 15 = .ok (.iconst 1, 1) := by decide +kernel
theorem dX1_begin_16 : decode cX1_begin 16 = .ok (.iadd, 1) := by decide +kernel
theorem dX1_begin_17 : decode cX1_begin 17 = .ok (.goto 6, 3) := by decide +kernel
theorem dX1_begin_20 : decode cX1_begin 20 = .ok (.iload_n 2, 1) := by decide +kernel
theorem dX1_begin_21 : decode cX1_begin 21 = .ok (.iconst 1, 1) := by decide +kernel
theorem dX1_begin_22 : decode cX1_begin 22 = .ok (.isub, 1) := by decide +kernel
theorem dX1_begin_23 : decode cX1_begin 23 = .ok (.istore_n 3, 1) := by decide +kernel
theorem dX1_begin_24 : decode cX1_begin 24 = .ok (.aload_n 0, 1) := by decide +kernel
theorem dX1_begin_25 : decode cX1_begin 25 = .ok (.getfield 15, 3) := by decide +kernel
theorem dX1_begin_28 : decode cX1_begin 28 = .ok (.iload_n 2, 1) := by decide +kernel
theorem dX1_begin_29 : decode cX1_begin 29 = .ok (.iload_n 2, 1) := by decide +kernel
theorem dX1_begin_30 : decode cX1_begin 30 = .ok (.iload_n 1, 1) := by decide +kernel
theorem dX1_begin_31 : decode cX1_begin 31 = .ok (.if_icmp .ge 12, 3) := by decide +kernel
theorem dX1_begin_34 : decode cX1_begin 34 = .ok (.iload_n 3, 1) := by decide +kernel
theorem dX1_begin_35 : decode cX1_begin 35 = .ok (.iload_n 1, 1) := by decide +kernel
theorem dX1_begin_36 : decode cX1_begin 36 = .ok (.if_icmp .ge 7, 3) := by decide +kernel
theorem dX1_begin_39 : decode cX1_begin 39 = .ok (.iload_n 3, 1) := by decide +kernel
theorem dX1_begin_40 : decode cX1_begin 40 = .ok (.goto 5, 3) := by decide +kernel
theorem dX1_begin_43 : decode cX1_begin 43 = .ok (.bipush (-9), 2) := by decide +kernel
theorem dX1_begin_45 : decode cX1_begin 45 = .ok (.iastore, 1) := by decide +kernel
theorem dX1_begin_46 : decode cX1_begin 46 = .ok (.aload_n 0, 1) := by decide +kernel
theorem dX1_begin_47 : decode cX1_begin 47 = .ok (.getfield 9, 3) := by decide +kernel
theorem dX1_begin_50 : decode cX1_begin 50 = .ok (.iload_n 2, 1) := by decide +kernel
theorem dX1_begin_51 : decode cX1_begin 51 = .ok (.iconst 0, 1) := by decide +kernel
theorem dX1_begin_52 : decode cX1_begin 52 = .ok (.iastore, 1) := by decide +kernel
theorem dX1_begin_53 : decode cX1_begin 53 = .ok (.aload_n 0, 1) := by decide +kernel
theorem dX1_begin_54 : decode cX1_begin 54 = .ok (.getfield 18, 3) := by decide +kernel
theorem dX1_begin_57 : decode cX1_begin 57 = .ok (.iload_n 2, 1) := by decide +kernel
theorem dX1_begin_58 : decode cX1_begin 58 = .ok (.iconst 0, 1) := by decide +kernel
theorem dX1_begin_59 : decode cX1_begin 59 = .ok (.iastore, 1) := by decide +kernel
theorem dX1_begin_60 : decode cX1_begin 60 = .ok (.aload_n 0, 1) := by decide +kernel
theorem dX1_begin_61 : decode cX1_begin 61 = .ok (.getfield 21, 3) := by decide +kernel
theorem dX1_begin_64 : decode cX1_begin 64 = .ok (.iload_n 2, 1) := by decide +kernel
theorem dX1_begin_65 : decode cX1_begin 65 = .ok (.iconst 0, 1) := by decide +kernel
theorem dX1_begin_66 : decode cX1_begin 66 = .ok (.iastore, 1) := by decide +kernel
theorem dX1_begin_67 : decode cX1_begin 67 = .ok (.aload_n 0, 1) := by decide +kernel
theorem dX1_begin_68 : decode cX1_begin 68 = .ok (.getfield 24, 3) := by decide +kernel
theorem dX1_begin_71 : decode cX1_begin 71 = .ok (.iload_n 2, 1) := by decide +kernel
theorem dX1_begin_72 : decode cX1_begin 72 = .ok (.iconst 0, 1) := by decide +kernel
theorem dX1_begin_73 : decode cX1_begin 73 = .ok (.iastore, 1) := by decide +kernel
theorem dX1_begin_74 : decode cX1_begin 74 = .ok (.iinc 2 1, 3) := by decide +kernel
theorem dX1_begin_77 : decode cX1_begin 77 = .ok (.goto (-75), 3) := by decide +kernel
theorem dX1_begin_80 : decode cX1_begin 80 = .ok (.aload_n 0, 1) := by decide +kernel
theorem dX1_begin_81 : decode cX1_begin 81 = .ok (.iconst 0, 1) := by decide +kernel
theorem dX1_begin_82 : decode cX1_begin 82 = .ok (.putfield 27, 3) := by decide +kernel
theorem dX1_begin_85 : decode cX1_begin 85 = .ok (.aload_n 0, 1) := by decide +kernel
theorem dX1_begin_86 : decode cX1_begin 86 = .ok (.iconst 0, 1) := by decide +kernel
theorem dX1_begin_87 : decode cX1_begin 87 = .ok (.putfield 31, 3) := by decide +kernel
theorem dX1_begin_90 : decode cX1_begin 90 = .ok (.return_, 1) := by decide +kernel
theorem dX1_copyFrom_0 : decode cX1_copyFrom 0 = .ok (.aload_n 1, 1) := by decide +kernel
theorem dX1_copyFrom_1 : decode cX1_copyFrom 1 = .ok (.getfield 9, 3) := by decide +kernel
theorem dX1_copyFrom_4 : decode cX1_copyFrom 4 = .ok (.iconst 0, 1) := by decide +kernel
theorem dX1_copyFrom_5 : decode cX1_copyFrom 5 = .ok (.aload_n 0, 1) := by decide +kernel
theorem dX1_copyFrom_6 : decode cX1_copyFrom 6 = .ok (.getfield 9, 3) := by decide +kernel
theorem dX1_copyFrom_9 : decode cX1_copyFrom 9 = .ok (.iconst 0, 1) := by decide +kernel
theorem dX1_copyFrom_10 : decode cX1_copyFrom 10 = .ok (.bipush 6, 2) := by decide +kernel
theorem dX1_copyFrom_12 : decode cX1_copyFrom 12 = .ok (.invokestatic 34, 3) := by decide +kernel
theorem dX1_copyFrom_15 : decode cX1_copyFrom 15 = .ok (.aload_n 1, 1) := by decide +kernel
theorem dX1_copyFrom_16 : decode cX1_copyFrom 16 = .ok (.getfield 15, 3) := by decide +kernel
theorem dX1_copyFrom_19 : decode cX1_copyFrom 19 = .ok (.iconst 0, 1) := by decide +kernel
theorem dX1_copyFrom_20 : decode cX1_copyFrom 20 = .ok (.aload_n 0, 1) := by decide +kernel
theorem dX1_copyFrom_21 : decode cX1_copyFrom 21 = .ok (.getfield 15, 3) := by decide +kernel
theorem dX1_copyFrom_24 : decode cX1_copyFrom 24 = .ok (.iconst 0, 1) := by decide +kernel
theorem dX1_copyFrom_25 : decode cX1_copyFrom 25 = .ok (.bipush 6, 2) := by decide +kernel
theorem dX1_copyFrom_27 : decode cX1_copyFrom 27 = .ok (.invokestatic 34, 3) := by decide +kernel
theorem dX1_copyFrom_30 : decode cX1_copyFrom 30 = .ok (.aload_n 1, 1) := by decide +kernel
theorem dX1_copyFrom_31 : decode cX1_copyFrom 31 = .ok (.getfield 18, 3) := by decide +kernel
theorem dX1_copyFrom_34 : decode cX1_copyFrom 34 = .ok (.iconst 0, 1) := by decide +kernel
theorem dX1_copyFrom_35 : decode cX1_copyFrom 35 = .ok (.aload_n 0, 1) := by decide +kernel
theorem dX1_copyFrom_36 : decode cX1_copyFrom 36 = .ok (.getfield 18, 3) := by decide +kernel
theorem dX1_copyFrom_39 : decode cX1_copyFrom 39 = .ok (.iconst 0, 1) := by decide +kernel
theorem dX1_copyFrom_40 : decode cX1_copyFrom 40 = .ok (.bipush 6, 2) := by decide +kernel
theorem dX1_copyFrom_42 : decode cX1_copyFrom 42 = .ok (.invokestatic 34, 3) := by decide +kernel
theorem dX1_copyFrom_45 : decode cX1_copyFrom 45 = .ok (.aload_n 1, 1) := by decide +kernel
theorem dX1_copyFrom_46 : decode cX1_copyFrom 46 = .ok (.getfield 21, 3) := by decide +kernel
theorem dX1_copyFrom_49 : decode cX1_copyFrom 49 = .ok (.iconst 0, 1) := by decide +kernel
theorem dX1_copyFrom_50 : decode cX1_copyFrom 50 = .ok (.aload_n 0, 1) := by decide +kernel
theorem dX1_copyFrom_51 : decode cX1_copyFrom 51 = .ok (.getfield 21, 3) := by decide +kernel
theorem dX1_copyFrom_54 : decode cX1_copyFrom 54 = .ok (.iconst 0, 1) := by decide +kernel
theorem dX1_copyFrom_55 : decode cX1_copyFrom 55 = .ok (.bipush 6, 2) := by decide +kernel
theorem dX1_copyFrom_57 : decode cX1_copyFrom 57 = .ok (.invokestatic 34, 3) := by decide +kernel
theorem dX1_copyFrom_60 : decode cX1_copyFrom 60 = .ok (.aload_n 1, 1) := by decide +kernel
theorem dX1_copyFrom_61 : decode cX1_copyFrom 61 = .ok (.getfield 24, 3) := by decide +kernel
theorem dX1_copyFrom_64 : decode cX1_copyFrom 64 = .ok (.iconst 0, 1) := by decide +kernel
theorem dX1_copyFrom_65 : decode cX1_copyFrom 65 = .ok (.aload_n 0, 1) := by decide +kernel
theorem dX1_copyFrom_66 : decode cX1_copyFrom 66 = .ok (.getfield 24, 3) := by decide +kernel
theorem dX1_copyFrom_69 : decode cX1_copyFrom 69 = .ok (.iconst 0, 1) := by decide +kernel
theorem dX1_copyFrom_70 : decode cX1_copyFrom 70 = .ok (.bipush 6, 2) := by decide +kernel
theorem dX1_copyFrom_72 : decode cX1_copyFrom 72 = .ok (.invokestatic 34, 3) := by decide +kernel
theorem dX1_copyFrom_75 : decode cX1_copyFrom 75 = .ok (.aload_n 0, 1) := by decide +kernel
theorem dX1_copyFrom_76 : decode cX1_copyFrom 76 = .ok (.aload_n 1, 1) := by decide +kernel
theorem dX1_copyFrom_77 : decode cX1_copyFrom 77 = .ok (.getfield 27, 3) := by decide +kernel
theorem dX1_copyFrom_80 : decode cX1_copyFrom 80 = .ok (.putfield 27, 3) := by decide +kernel
theorem dX1_copyFrom_83 : decode cX1_copyFrom 83 = .ok (.aload_n 0, 1) := by decide +kernel
theorem dX1_copyFrom_84 : decode cX1_copyFrom 84 = .ok (.aload_n 1, 1) := by decide +kernel
theorem dX1_copyFrom_85 : decode cX1_copyFrom 85 = .ok (.getfield 31, 3) := by decide +kernel
theorem dX1_copyFrom_88 : decode cX1_copyFrom 88 = .ok (.putfield 31, 3) := by decide +kernel
theorem dX1_copyFrom_91 : decode cX1_copyFrom 91 = .ok (.return_, 1) := by decide +kernel
theorem dX2_init_0 : decode cX2_init 0 = .ok (.aload_n 0, 1) := by decide +kernel
theorem dX2_init_1 : decode cX2_init 1 = .ok (.invokespecial 3, 3) := by decide +kernel
theorem dX2_init_4 : decode cX2_init 4 = .ok (.aload_n 0, 1) := by decide +kernel
theorem dX2_init_5 : decode cX2_init 5 = .ok (.sipush 200, 3) := by decide +kernel
theorem dX2_init_8 : decode cX2_init 8 = .ok (.newarray .int, 2) := by decide +kernel
theorem dX2_init_10 : decode cX2_init 10 = .ok (.putfield 9, 3) := by decide +kernel
theorem dX2_init_13 : decode cX2_init 13 = .ok (.return_, 1) := by decide +kernel
theorem dX2_readInto_0 : decode cX2_readInto 0 = .ok (.aload_n 1, 1) := by decide +kernel
theorem dX2_readInto_1 : decode cX2_readInto 1 = .ok (.iconst 0, 1) := by decide +kernel
theorem dX2_readInto_2 : decode cX2_readInto 2 = .ok (.putfield 15, 3) := by decide +kernel
theorem dX2_readInto_5 : decode cX2_readInto 5 = .ok (.aload_n 1, 1) := by decide +kernel
theorem dX2_readInto_6 : decode cX2_readInto 6 = .ok (.iconst 0, 1) := by decide +kernel
theorem dX2_readInto_7 : decode cX2_readInto 7 = .ok (.putfield 21, 3) := by decide +kernel
theorem dX2_readInto_10 : decode cX2_readInto 10 = .ok (.aload_n 0, 1) := by decide +kernel
theorem dX2_readInto_11 : decode cX2_readInto 11 = .ok (.iconst 0, 1) := by decide +kernel
theorem dX2_readInto_12 : decode cX2_readInto 12 = .ok (.putfield 24, 3) := by decide +kernel
theorem dX2_readInto_15 : decode cX2_readInto 15 = .ok (.iconst 0, 1) := by decide +kernel
theorem dX2_readInto_16 : decode cX2_readInto 16 = .ok (.istore_n 2, 1) := by decide +kernel
theorem dX2_readInto_17 : decode cX2_readInto 17 = .ok (.iconst 0, 1) := by decide +kernel
theorem dX2_readInto_18 : decode cX2_readInto 18 = .ok (.istore_n 3, 1) := by decide +kernel
theorem dX2_readInto_19 : decode cX2_readInto 19 = .ok (.iload_n 3, 1) := by decide +kernel
theorem dX2_readInto_20 : decode cX2_readInto 20 = .ok (.sipush 200, 3) := by decide +kernel
theorem dX2_readInto_23 : decode cX2_readInto 23 = .ok (.if_icmp .gt 44, 3) := by decide +kernel
theorem dX2_readInto_26 : decode cX2_readInto 26 = .ok (.aload_n 0, 1) := by decide +kernel
theorem dX2_readInto_27 : decode cX2_readInto 27 = .ok (.invokevirtual 27, 3) := by decide +kernel
theorem dX2_readInto_30 : decode cX2_readInto 30 = .ok (.istore 4, 2) := by decide +kernel
theorem dX2_readInto_32 : decode cX2_readInto 32 = .ok (.iload 4, 2) := by decide +kernel
theorem dX2_readInto_34 : decode cX2_readInto 34 = .ok (.ifCond .ne 6, 3) := by decide +kernel
theorem dX2_readInto_37 : decode cX2_readInto 37 = .ok (.goto 30, 3) := by decide +kernel
theorem dX2_readInto_40 : decode cX2_readInto 40 = .ok (.aload_n 0, 1) := by decide +kernel
theorem dX2_readInto_41 : decode cX2_readInto 41 = .ok (.iload 4, 2) := by decide +kernel
theorem dX2_readInto_43 : decode cX2_readInto 43 = .ok (.aload_n 1, 1) := by decide +kernel
theorem dX2_readInto_44 : decode cX2_readInto 44 = .ok (.invokevirtual 31, 3) := by decide +kernel
theorem dX2_readInto_47 : decode cX2_readInto 47 = .ok (.ifCond .ne 11, 3) := by decide +kernel
theorem dX2_readInto_50 : decode cX2_readInto 50 = .ok (.bipush (-10), 2) := by decide +kernel
theorem dX2_readInto_52 : decode cX2_readInto 52 = .ok (.aload_n 0, 1) := by decide +kernel
theorem dX2_readInto_53 : decode cX2_readInto 53 = .ok (.getfield 35, 3) := by decide +kernel
theorem dX2_readInto_56 : decode cX2_readInto 56 = .ok (.isub, 1) := by decide +kernel
theorem dX2_readInto_57 : decode cX2_readInto 57 = .ok (.ireturn, 1) := by decide +kernel
theorem dX2_readInto_58 : decode cX2_readInto 58 = .ok (.iinc 2 1, 3) := by decide +kernel
theorem dX2_readInto_61 : decode cX2_readInto 61 = .ok (.iinc 3 1, 3) := by decide +kernel
theorem dX2_readInto_64 : decode cX2_readInto 64 = .ok (.goto (-45), 3) := by decide +kernel
theorem dX2_readInto_67 : decode cX2_readInto 67 = .ok (.iload_n 2, 1) := by decide +kernel
theorem dX2_readInto_68 : decode cX2_readInto 68 = .ok (.ireturn, 1) := by decide +kernel
theorem dX2_readItem_0 : decode cX2_readItem 0 = .ok (.iload_n 1, 1) := by decide +kernel
theorem dX2_readItem_1 : decode cX2_readItem 1 = .ok (.iconst 1, 1) := by decide +kernel
theorem dX2_readItem_2 : decode cX2_readItem 2 = .ok (.if_icmp .ne 32, 3) := by decide +kernel
theorem dX2_readItem_5 : decode cX2_readItem 5 = .ok (.aload_n 2, 1) := by decide +kernel
theorem dX2_readItem_6 : decode cX2_readItem 6 = .ok (.getfield 21, 3) := by decide +kernel
theorem dX2_readItem_9 : decode cX2_readItem 9 = .ok (.ifCond .ne 23, 3) := by decide +kernel
theorem dX2_readItem_12 : decode cX2_readItem 12 = .ok (.aload_n 2, 1) := by decide +kernel
theorem dX2_readItem_13 : decode cX2_readItem 13 = .ok (.getfield 15, 3) := by decide +kernel
theorem dX2_readItem_16 : decode cX2_readItem 16 = .ok (.iconst 3, 1) := by decide +kernel
theorem dX2_readItem_17 : decode cX2_readItem 17 = .ok (.if_icmp .ge 15, 3) := by decide +kernel
theorem dX2_readItem_20 : decode cX2_readItem 20 = .ok (.aload_n 0, 1) := by decide +kernel
theorem dX2_readItem_21 : decode cX2_readItem 21 = .ok (.aload_n 2, 1) := by decide +kernel
theorem dX2_readItem_22 : decode cX2_readItem 22 = .ok (.invokevirtual 38, 3) := by decide +kernel
theorem dX2_readItem_25 : decode cX2_readItem 25 = .ok (.ifCond .eq 7, 3) := by decide +kernel
theorem dX2_readItem_28 : decode cX2_readItem 28 = .ok (.iconst 1, 1) := by decide +kernel
theorem dX2_readItem_29 : decode cX2_readItem 29 = .ok (.goto 4, 3) := by decide +kernel
theorem dX2_readItem_32 : decode cX2_readItem 32 = .ok (.iconst 0, 1) := by decide +kernel
theorem dX2_readItem_33 : decode cX2_readItem 33 = .ok (.ireturn, 1) := by decide +kernel
theorem dX2_readItem_34 : decode cX2_readItem 34 = .ok (.iload_n 1, 1) := by decide +kernel
theorem dX2_readItem_35 : decode cX2_readItem 35 = .ok (.iconst 2, 1) := by decide +kernel
theorem dX2_readItem_36 : decode cX2_readItem 36 = .ok (.if_icmp .ne 33, 3) := by decide +kernel
theorem dX2_readItem_39 : decode cX2_readItem 39 = .ok (.aload_n 2, 1) := by decide +kernel
theorem dX2_readItem_40 : decode cX2_readItem 40 = .ok (.getfield 15, 3) := by decide +kernel
theorem dX2_readItem_43 : decode cX2_readItem 43 = .ok (.ifCond .le 24, 3) := by decide +kernel
theorem dX2_readItem_46 : decode cX2_readItem 46 = .ok (.aload_n 2, 1) := by decide +kernel
theorem dX2_readItem_47 : decode cX2_readItem 47 = .ok (.getfield 21, 3) := by decide +kernel
theorem dX2_readItem_50 : decode cX2_readItem 50 = .ok (.bipush 6, 2) := by decide +kernel
theorem dX2_readItem_52 : decode cX2_readItem 52 = .ok (.if_icmp .ge 15, 3) := by decide +kernel
theorem dX2_readItem_55 : decode cX2_readItem 55 = .ok (.aload_n 0, 1) := by decide +kernel
theorem dX2_readItem_56 : decode cX2_readItem 56 = .ok (.aload_n 2, 1) := by decide +kernel
theorem dX2_readItem_57 : decode cX2_readItem 57 = .ok (.invokevirtual 42, 3) := by decide +kernel
theorem dX2_readItem_60 : decode cX2_readItem 60 = .ok (.ifCond .eq 7, 3) := by decide +kernel
theorem dX2_readItem_63 : decode cX2_readItem 63 = .ok (.iconst 1, 1) := by decide +kernel
theorem dX2_readItem_64 : decode cX2_readItem 64 = .ok (.goto 4, 3) := by decide +kernel
theorem dX2_readItem_67 : decode cX2_readItem 67 = .ok (.iconst 0, 1) := by decide +kernel
theorem dX2_readItem_68 : decode cX2_readItem 68 = .ok (.ireturn, 1) := by decide +kernel
theorem dX2_readItem_69 : decode cX2_readItem 69 = .ok (.iconst 0, 1) := by decide +kernel
theorem dX2_readItem_70 : decode cX2_readItem 70 = .ok (.ireturn, 1) := by decide +kernel
theorem dX2_readCrop_0 : decode cX2_readCrop 0 = .ok (.aload_n 1, 1) := by decide +kernel
theorem dX2_readCrop_1 : decode cX2_readCrop 1 = .ok (.getfield 15, 3) := by decide +kernel
theorem dX2_readCrop_4 : decode cX2_readCrop 4 = .ok (.istore_n 2, 1) := by decide +kernel
theorem dX2_readCrop_5 : decode cX2_readCrop 5 = .ok (.aload_n 0, 1) := by decide +kernel
theorem dX2_readCrop_6 : decode cX2_readCrop 6 = .ok (.iconst 1, 1) := by decide +kernel
theorem dX2_readCrop_7 : decode cX2_readCrop 7 = .ok (.bipush 9, 2) := by decide +kernel
theorem dX2_readCrop_9 : decode cX2_readCrop 9 = .ok (.invokevirtual 45, 3) := by decide +kernel
theorem dX2_readCrop_12 : decode cX2_readCrop 12 = .ok (.ifCond .ne 5, 3) := by decide +kernel
theorem dX2_readCrop_15 : decode cX2_readCrop 15 = .ok (.iconst 0, 1) := by decide +kernel
theorem dX2_readCrop_16 : decode cX2_readCrop 16 = .ok (.ireturn, 1) := by decide +kernel
theorem dX2_readCrop_17 : decode cX2_readCrop 17 = .ok (.aload_n 1, 1) := by decide +kernel
theorem dX2_readCrop_18 : decode cX2_readCrop 18 = .ok (.getfield 49, 3) := by decide +kernel
theorem dX2_readCrop_21 : decode cX2_readCrop 21 = .ok (.iload_n 2, 1) := by decide +kernel
theorem dX2_readCrop_22 : decode cX2_readCrop 22 = .ok (.aload_n 0, 1) := by decide +kernel
theorem dX2_readCrop_23 : decode cX2_readCrop 23 = .ok (.getfield 52, 3) := by decide +kernel
theorem dX2_readCrop_26 : decode cX2_readCrop 26 = .ok (.iastore, 1) := by decide +kernel
theorem dX2_readCrop_27 : decode cX2_readCrop 27 = .ok (.aload_n 0, 1) := by decide +kernel
theorem dX2_readCrop_28 : decode cX2_readCrop 28 = .ok (.iconst 1, 1) := by decide +kernel
theorem dX2_readCrop_29 : decode cX2_readCrop 29 = .ok (.bipush 9, 2) := by decide +kernel
theorem dX2_readCrop_31 : decode cX2_readCrop 31 = .ok (.invokevirtual 45, 3) := by decide +kernel
theorem dX2_readCrop_34 : decode cX2_readCrop 34 = .ok (.ifCond .ne 5, 3) := by decide +kernel
theorem dX2_readCrop_37 : decode cX2_readCrop 37 = .ok (.iconst 0, 1) := by decide +kernel
theorem dX2_readCrop_38 : decode cX2_readCrop 38 = .ok (.ireturn, 1) := by decide +kernel
theorem dX2_readCrop_39 : decode cX2_readCrop 39 = .ok (.aload_n 1, 1) := by decide +kernel
theorem dX2_readCrop_40 : decode cX2_readCrop 40 = .ok (.getfield 55, 3) := by decide +kernel
theorem dX2_readCrop_43 : decode cX2_readCrop 43 = .ok (.iload_n 2, 1) := by decide +kernel
theorem dX2_readCrop_44 : decode cX2_readCrop 44 = .ok (.aload_n 0, 1) := by decide +kernel
theorem dX2_readCrop_45 : decode cX2_readCrop 45 = .ok (.getfield 52, 3) := by decide +kernel
theorem dX2_readCrop_48 : decode cX2_readCrop 48 = .ok (.iastore, 1) := by decide +kernel
theorem dX2_readCrop_49 : decode cX2_readCrop 49 = .ok (.aload_n 1, 1) := by decide +kernel
theorem dX2_readCrop_50 : decode cX2_readCrop 50 = .ok (.dup, 1) := by decide +kernel
theorem dX2_readCrop_51 : decode cX2_readCrop 51 = .ok (.getfield 15, 3) := by decide +kernel
theorem dX2_readCrop_54 : decode cX2_readCrop 54 = .ok (.iconst 1, 1) := by decide +kernel
theorem dX2_readCrop_55 : decode cX2_readCrop 55 = .ok (.iadd, 1) := by decide +kernel
theorem dX2_readCrop_56 : decode cX2_readCrop 56 = .ok (.putfield 15, 3) := by decide +kernel
theorem dX2_readCrop_59 : decode cX2_readCrop 59 = .ok (.aload_n 0, 1) := by decide +kernel
theorem dX2_readCrop_60 : decode cX2_readCrop 60 = .ok (.invokevirtual 27, 3) := by decide +kernel
theorem dX2_readCrop_63 : decode cX2_readCrop 63 = .ok (.iconst 4, 1) := by decide +kernel
theorem dX2_readCrop_64 : decode cX2_readCrop 64 = .ok (.if_icmp .ne 7, 3) := by decide +kernel
theorem dX2_readCrop_67 : decode cX2_readCrop 67 = .ok (.iconst 1, 1) := by decide +kernel
theorem dX2_readCrop_68 : decode cX2_readCrop 68 = .ok (.goto 4, 3) := by decide +kernel
theorem dX2_readCrop_71 : decode cX2_readCrop 71 = .ok (.iconst 0, 1) := by decide +kernel
theorem dX2_readCrop_72 : decode cX2_readCrop 72 = .ok (.ireturn, 1) := by decide +kernel
theorem dX2_readMan_0 : decode cX2_readMan 0 = .ok (.aload_n 1, 1) := by decide +kernel
theorem dX2_readMan_1 : decode cX2_readMan 1 = .ok (.getfield 21, 3) := by decide +kernel
theorem dX2_readMan_4 : decode cX2_readMan 4 = .ok (.istore_n 2, 1) := by decide +kernel
theorem dX2_readMan_5 : decode cX2_readMan 5 = .ok (.aload_n 0, 1) := by decide +kernel
theorem dX2_readMan_6 : decode cX2_readMan 6 = .ok (.iconst 1, 1) := by decide +kernel
theorem dX2_readMan_7 : decode cX2_readMan 7 = .ok (.bipush 20, 2) := by decide +kernel
theorem dX2_readMan_9 : decode cX2_readMan 9 = .ok (.invokevirtual 45, 3) := by decide +kernel
theorem dX2_readMan_12 : decode cX2_readMan 12 = .ok (.ifCond .ne 5, 3) := by decide +kernel
theorem dX2_readMan_15 : decode cX2_readMan 15 = .ok (.iconst 0, 1) := by decide +kernel
theorem dX2_readMan_16 : decode cX2_readMan 16 = .ok (.ireturn, 1) := by decide +kernel
theorem dX2_readMan_17 : decode cX2_readMan 17 = .ok (.aload_n 1, 1) := by decide +kernel
theorem dX2_readMan_18 : decode cX2_readMan 18 = .ok (.getfield 58, 3) := by decide +kernel
theorem dX2_readMan_21 : decode cX2_readMan 21 = .ok (.iload_n 2, 1) := by decide +kernel
theorem dX2_readMan_22 : decode cX2_readMan 22 = .ok (.aload_n 0, 1) := by decide +kernel
theorem dX2_readMan_23 : decode cX2_readMan 23 = .ok (.getfield 52, 3) := by decide +kernel
theorem dX2_readMan_26 : decode cX2_readMan 26 = .ok (.iastore, 1) := by decide +kernel
theorem dX2_readMan_27 : decode cX2_readMan 27 = .ok (.aload_n 0, 1) := by decide +kernel
theorem dX2_readMan_28 : decode cX2_readMan 28 = .ok (.iconst 0, 1) := by decide +kernel
theorem dX2_readMan_29 : decode cX2_readMan 29 = .ok (.bipush 9, 2) := by decide +kernel
theorem dX2_readMan_31 : decode cX2_readMan 31 = .ok (.invokevirtual 45, 3) := by decide +kernel
theorem dX2_readMan_34 : decode cX2_readMan 34 = .ok (.ifCond .ne 5, 3) := by decide +kernel
theorem dX2_readMan_37 : decode cX2_readMan 37 = .ok (.iconst 0, 1) := by decide +kernel
theorem dX2_readMan_38 : decode cX2_readMan 38 = .ok (.ireturn, 1) := by decide +kernel
theorem dX2_readMan_39 : decode cX2_readMan 39 = .ok (.aload_n 1, 1) := by decide +kernel
theorem dX2_readMan_40 : decode cX2_readMan 40 = .ok (.getfield 61, 3) := by decide +kernel
theorem dX2_readMan_43 : decode cX2_readMan 43 = .ok (.iload_n 2, 1) := by decide +kernel
theorem dX2_readMan_44 : decode cX2_readMan 44 = .ok (.aload_n 0, 1) := by decide +kernel
theorem dX2_readMan_45 : decode cX2_readMan 45 = .ok (.getfield 52, 3) := by decide +kernel
theorem dX2_readMan_48 : decode cX2_readMan 48 = .ok (.iastore, 1) := by decide +kernel
theorem dX2_readMan_49 : decode cX2_readMan 49 = .ok (.aload_n 0, 1) := by decide +kernel
theorem dX2_readMan_50 : decode cX2_readMan 50 = .ok (.iconst 0, 1) := by decide +kernel
theorem dX2_readMan_51 : decode cX2_readMan 51 = .ok (.bipush 99, 2) := by decide +kernel
theorem dX2_readMan_53 : decode cX2_readMan 53 = .ok (.invokevirtual 45, 3) := by decide +kernel
theorem dX2_readMan_56 : decode cX2_readMan 56 = .ok (.ifCond .ne 5, 3) := by decide +kernel
theorem dX2_readMan_59 : decode cX2_readMan 59 = .ok (.iconst 0, 1) := by decide +kernel
theorem dX2_readMan_60 : decode cX2_readMan 60 = .ok (.ireturn, 1) := by decide +kernel
theorem dX2_readMan_61 : decode cX2_readMan 61 = .ok (.aload_n 1, 1) := by decide +kernel
theorem dX2_readMan_62 : decode cX2_readMan 62 = .ok (.getfield 64, 3) := by decide +kernel
theorem dX2_readMan_65 : decode cX2_readMan 65 = .ok (.iload_n 2, 1) := by decide +kernel
theorem dX2_readMan_66 : decode cX2_readMan 66 = .ok (.aload_n 0, 1) := by decide +kernel
theorem dX2_readMan_67 : decode cX2_readMan 67 = .ok (.getfield 52, 3) := by decide +kernel
theorem dX2_readMan_70 : decode cX2_readMan 70 = .ok (.iastore, 1) := by decide +kernel
theorem dX2_readMan_71 : decode cX2_readMan 71 = .ok (.iconst 0, 1) := by decide +kernel
theorem dX2_readMan_72 : decode cX2_readMan 72 = .ok (.istore_n 3, 1) := by decide +kernel
theorem dX2_readMan_73 : decode cX2_readMan 73 = .ok (.iload_n 3, 1) := by decide +kernel
theorem dX2_readMan_74 : decode cX2_readMan 74 = .ok (.aload_n 1, 1) := by decide +kernel
theorem dX2_readMan_75 : decode cX2_readMan 75 = .ok (.getfield 15, 3) := by decide +kernel
theorem dX2_readMan_78 : decode cX2_readMan 78 = .ok (.if_icmp .ge 33, 3) := by decide +kernel
theorem dX2_readMan_81 : decode cX2_readMan 81 = .ok (.aload_n 0, 1) := by decide +kernel
theorem dX2_readMan_82 : decode cX2_readMan 82 = .ok (.iconst 0, 1) := by decide +kernel
theorem dX2_readMan_83 : decode cX2_readMan 83 = .ok (.bipush 40, 2) := by decide +kernel
theorem dX2_readMan_85 : decode cX2_readMan 85 = .ok (.invokevirtual 45, 3) := by decide +kernel
theorem dX2_readMan_88 : decode cX2_readMan 88 = .ok (.ifCond .ne 5, 3) := by decide +kernel
theorem dX2_readMan_91 : decode cX2_readMan 91 = .ok (.iconst 0, 1) := by decide +kernel
theorem dX2_readMan_92 : decode cX2_readMan 92 = .ok (.ireturn, 1) := by decide +kernel
theorem dX2_readMan_93 : decode cX2_readMan 93 = .ok (.aload_n 1, 1) := by decide +kernel
theorem dX2_readMan_94 : decode cX2_readMan 94 = .ok (.getfield 67, 3) := by decide +kernel
theorem dX2_readMan_97 : decode cX2_readMan 97 = .ok (.iload_n 2, 1) := by decide +kernel
theorem dX2_readMan_98 : decode cX2_readMan 98 = .ok (.aaload, 1) := by decide +kernel
theorem dX2_readMan_99 : decode cX2_readMan 99 = .ok (.iload_n 3, 1) := by decide +kernel
theorem dX2_readMan_100 : decode cX2_readMan 100 = .ok (.aload_n 0, 1) := by decide +kernel
theorem dX2_readMan_101 : decode cX2_readMan 101 = .ok (.getfield 52, 3) := by decide +kernel
theorem dX2_readMan_104 : decode cX2_readMan 104 = .ok (.iastore, 1) := by decide +kernel
theorem dX2_readMan_105 : decode cX2_readMan 105 = .ok (.iinc 3 1, 3) := by decide +kernel
theorem dX2_readMan_108 : decode cX2_readMan 108 = .ok (.goto (-35), 3) := by decide +kernel
theorem dX2_readMan_111 : decode cX2_readMan 111 = .ok (.aload_n 1, 1) := by decide +kernel
theorem dX2_readMan_112 : decode cX2_readMan 112 = .ok (.dup, 1) := by decide +kernel
theorem dX2_readMan_113 : decode cX2_readMan 113 = .ok (.getfield 21, 3) := by decide +kernel
theorem dX2_readMan_116 : decode cX2_readMan 116 = .ok (.iconst 1, 1) := by decide +kernel
theorem dX2_readMan_117 : decode cX2_readMan 117 = .ok (.iadd, 1) := by decide +kernel
theorem dX2_readMan_118 : decode cX2_readMan 118 = .ok (.putfield 21, 3) := by decide +kernel
theorem dX2_readMan_121 : decode cX2_readMan 121 = .ok (.aload_n 0, 1) := by decide +kernel
theorem dX2_readMan_122 : decode cX2_readMan 122 = .ok (.invokevirtual 27, 3) := by decide +kernel
theorem dX2_readMan_125 : decode cX2_readMan 125 = .ok (.iconst 4, 1) := by decide +kernel
theorem dX2_readMan_126 : decode cX2_readMan 126 = .ok (.if_icmp .ne 7, 3) := by decide +kernel
theorem dX2_readMan_129 : decode cX2_readMan 129 = .ok (.iconst 1, 1) := by decide +kernel
theorem dX2_readMan_130 : decode cX2_readMan 130 = .ok (.goto 4, 3) := by decide +kernel
theorem dX2_readMan_133 : decode cX2_readMan 133 = .ok (.iconst 0, 1) := by decide +kernel
theorem dX2_readMan_134 : decode cX2_readMan 134 = .ok (.ireturn, 1) := by decide +kernel
theorem dX2_readNumber_0 : decode cX2_readNumber 0 = .ok (.aload_n 0, 1) := by decide +kernel
theorem dX2_readNumber_1 : decode cX2_readNumber 1 = .ok (.invokevirtual 27, 3) := by decide +kernel
theorem dX2_readNumber_4 : decode cX2_readNumber 4 = .ok (.iconst 3, 1) := by decide +kernel
theorem dX2_readNumber_5 : decode cX2_readNumber 5 = .ok (.if_icmp .ne 23, 3) := by decide +kernel
theorem dX2_readNumber_8 : decode cX2_readNumber 8 = .ok (.aload_n 0, 1) := by decide +kernel
theorem dX2_readNumber_9 : decode cX2_readNumber 9 = .ok (.getfield 52, 3) := by decide +kernel
theorem dX2_readNumber_12 : decode cX2_readNumber 12 = .ok (.iload_n 1, 1) := by decide +kernel
theorem dX2_readNumber_13 : decode cX2_readNumber 13 = .ok (.if_icmp .lt 15, 3) := by decide +kernel
theorem dX2_readNumber_16 : decode cX2_readNumber 16 = .ok (.aload_n 0, 1) := by decide +kernel
theorem dX2_readNumber_17 : decode cX2_readNumber 17 = .ok (.getfield 52, 3) := by decide +kernel
theorem dX2_readNumber_20 : decode cX2_readNumber 20 = .ok (.iload_n 2, 1) := by decide +kernel
theorem dX2_readNumber_21 : decode cX2_readNumber 21 = .ok (.if_icmp .gt 7, 3) := by decide +kernel
theorem dX2_readNumber_24 : decode cX2_readNumber 24 = .ok (.iconst 1, 1) := by decide +kernel
theorem dX2_readNumber_25 : decode cX2_readNumber 25 = .ok (.goto 4, 3) := by decide +kernel
theorem dX2_readNumber_28 : decode cX2_readNumber 28 = .ok (.iconst 0, 1) := by decide +kernel
theorem dX2_readNumber_29 : decode cX2_readNumber 29 = .ok (.ireturn, 1) := by decide +kernel
theorem dX2_nextToken_0 : decode cX2_nextToken 0 = .ok (.aload_n 0, 1) := by decide +kernel
theorem dX2_nextToken_1 : decode cX2_nextToken 1 = .ok (.getfield 24, 3) := by decide +kernel
theorem dX2_nextToken_4 : decode cX2_nextToken 4 = .ok (.aload_n 0, 1) := by decide +kernel
theorem dX2_nextToken_5 : decode cX2_nextToken 5 = .ok (.getfield 71, 3) := by decide +kernel
theorem dX2_nextToken_8 : decode cX2_nextToken 8 = .ok (.if_icmp .ge 30, 3) := by decide +kernel
theorem dX2_nextToken_11 : decode cX2_nextToken 11 = .ok (.aload_n 0, 1) := by decide +kernel
theorem dX2_nextToken_12 : decode cX2_nextToken 12 = .ok (.getfield 9, 3) := by decide +kernel
theorem dX2_nextToken_15 : decode cX2_nextToken 15 = .ok (.aload_n 0, 1) := by decide +kernel
theorem dX2_nextToken_16 : decode cX2_nextToken 16 = .ok (.getfield 24, 3) := by decide +kernel
theorem dX2_nextToken_19 : decode cX2_nextToken 19 = .ok (.iaload, 1) := by decide +kernel
theorem dX2_nextToken_20 : decode cX2_nextToken 20 = .ok (.bipush 32, 2) := by decide +kernel
theorem dX2_nextToken_22 : decode cX2_nextToken 22 = .ok (.if_icmp .ne 16, 3) := by decide +kernel
theorem dX2_nextToken_25 : decode cX2_nextToken 25 = .ok (.aload_n 0, 1) := by decide +kernel
theorem dX2_nextToken_26 : decode cX2_nextToken 26 = .ok (.dup, 1) := by decide +kernel
theorem dX2_nextToken_27 : decode cX2_nextToken 27 = .ok (.getfield 24, 3) := by decide +kernel
theorem dX2_nextToken_30 : decode cX2_nextToken 30 = .ok (.iconst 1, 1) := by decide +kernel
theorem dX2_nextToken_31 : decode cX2_nextToken 31 = .ok (.iadd, 1) := by decide +kernel
theorem dX2_nextToken_32 : decode cX2_nextToken 32 = .ok (.putfield 24, 3) := by decide +kernel
theorem dX2_nextToken_35 : decode cX2_nextToken 35 = .ok (.goto (-35), 3) := by decide +kernel
theorem dX2_nextToken_38 : decode cX2_nextToken 38 = .ok (.aload_n 0, 1) := by decide +kernel
theorem dX2_nextToken_39 : decode cX2_nextToken 39 = .ok (.aload_n 0, 1) := by decide +kernel
theorem dX2_nextToken_40 : decode cX2_nextToken 40 = .ok (.getfield 24, 3) := by decide +kernel
theorem dX2_nextToken_43 : decode cX2_nextToken 43 = .ok (.putfield 35, 3) := by decide +kernel
theorem dX2_nextToken_46 : decode cX2_nextToken 46 = .ok (.aload_n 0, 1) := by decide +kernel
theorem dX2_nextToken_47 : decode cX2_nextToken 47 = .ok (.getfield 35, 3) := by decide +kernel
theorem dX2_nextToken_50 : decode cX2_nextToken 50 = .ok (.aload_n 0, 1) := by decide +kernel
theorem dX2_nextToken_51 : decode cX2_nextToken 51 = .ok (.getfield 71, 3) := by decide +kernel
theorem dX2_nextToken_54 : decode cX2_nextToken 54 = .ok (.if_icmp .lt 5, 3) := by decide +kernel
theorem dX2_nextToken_57 : decode cX2_nextToken 57 = .ok (.iconst 0, 1) := by decide +kernel
theorem dX2_nextToken_58 : decode cX2_nextToken 58 = .ok (.ireturn, 1) := by decide +kernel
theorem dX2_nextToken_59 : decode cX2_nextToken 59 = .ok (.aload_n 0, 1) := by decide +kernel
theorem dX2_nextToken_60 : decode cX2_nextToken 60 = .ok (.getfield 9, 3) := by decide +kernel
theorem dX2_nextToken_63 : decode cX2_nextToken 63 = .ok (.aload_n 0, 1) := by decide +kernel
theorem dX2_nextToken_64 : decode cX2_nextToken 64 = .ok (.getfield 35, 3) := by decide +kernel
theorem dX2_nextToken_67 : decode cX2_nextToken 67 = .ok (.iaload, 1) := by decide +kernel
theorem dX2_nextToken_68 : decode cX2_nextToken 68 = .ok (.invokestatic 74, 3) := by decide +kernel
theorem dX2_nextToken_71 : decode cX2_nextToken 71 = .ok (.ifCond .eq 8, 3) := by decide +kernel
theorem dX2_nextToken_74 : decode cX2_nextToken 74 = .ok (.aload_n 0, 1) := by decide +kernel
theorem dX2_nextToken_75 : decode cX2_nextToken 75 = .ok (.invokevirtual 78, 3) := by decide +kernel
theorem dX2_nextToken_78 : decode cX2_nextToken 78 = .ok (.ireturn, 1) := by decide +kernel
theorem dX2_nextToken_79 : decode cX2_nextToken 79 = .ok (.aload_n 0, 1) := by decide +kernel
theorem dX2_nextToken_80 : decode cX2_nextToken 80 = .ok (.dup, 1) := by decide +kernel
theorem dX2_nextToken_81 : decode cX2_nextToken 81 = .ok (.getfield 24, 3) := by decide +kernel
theorem dX2_nextToken_84 : decode cX2_nextToken 84 = .ok (.iconst 1, 1) := by decide +kernel
theorem dX2_nextToken_85 : decode cX2_nextToken 85 = .ok (.iadd, 1) := by decide +kernel
theorem dX2_nextToken_86 : decode cX2_nextToken 86 = .ok (.putfield 24, 3) := by decide +kernel
theorem dX2_nextToken_89 : decode cX2_nextToken 89 = .ok (.aload_n 0, 1) := by decide +kernel
theorem dX2_nextToken_90 : decode cX2_nextToken 90 = .ok (.getfield 9, 3) := by decide +kernel
theorem dX2_nextToken_93 : decode cX2_nextToken 93 = .ok (.aload_n 0, 1) := by decide +kernel
theorem dX2_nextToken_94 : decode cX2_nextToken 94 = .ok (.getfield 35, 3) := by decide +kernel
theorem dX2_nextToken_97 : decode cX2_nextToken 97 = .ok (.iaload, 1) := by decide +kernel
theorem dX2_nextToken_98 : decode cX2_nextToken 98 = .ok (.lookupswitch 40 #[(59, 38), (99, 34), (109, 36)], 34) := by decide +kernel
theorem dX2_nextToken_132 : decode cX2_nextToken 132 = .ok (.iconst 1, 1) := by decide +kernel
theorem dX2_nextToken_133 : decode cX2_nextToken 133 = .ok (.ireturn, 1) := by decide +kernel
theorem dX2_nextToken_134 : decode cX2_nextToken 134 = .ok (.iconst 2, 1) := by decide +kernel
theorem dX2_nextToken_135 : decode cX2_nextToken 135 = .ok (.ireturn, 1) := by decide +kernel
theorem dX2_nextToken_136 : decode cX2_nextToken 136 = .ok (.iconst 4, 1) := by decide +kernel
theorem dX2_nextToken_137 : decode cX2_nextToken 137 = .ok (.ireturn, 1) := by decide +kernel
theorem dX2_nextToken_138 : decode cX2_nextToken 138 = .ok (.iconst 5, 1) := by decide +kernel
theorem dX2_nextToken_139 : decode cX2_nextToken 139 = .ok (.ireturn, 1) := by decide +kernel
theorem dX2_numberToken_0 : decode cX2_numberToken 0 = .ok (.aload_n 0, 1) := by decide +kernel
theorem dX2_numberToken_1 : decode cX2_numberToken 1 = .ok (.iconst 0, 1) := by decide +kernel
theorem dX2_numberToken_2 : decode cX2_numberToken 2 = .ok (.putfield 52, 3) := by decide +kernel
theorem dX2_numberToken_5 : decode cX2_numberToken 5 = .ok (.aload_n 0, 1) := by decide +kernel
theorem dX2_numberToken_6 : decode cX2_numberToken 6 = .ok (.getfield 24, 3) := by decide +kernel
theorem dX2_numberToken_9 : decode cX2_numberToken 9 = .ok (.aload_n 0, 1) := by decide +kernel
theorem dX2_numberToken_10 : decode cX2_numberToken 10 = .ok (.getfield 71, 3) := by decide +kernel
theorem dX2_numberToken_13 : decode cX2_numberToken 13 = .ok (.if_icmp .ge 60, 3) := by decide +kernel
theorem dX2_numberToken_16 : decode cX2_numberToken 16 = .ok (.aload_n 0, 1) := by decide +kernel
theorem dX2_numberToken_17 : decode cX2_numberToken 17 = .ok (.getfield 9, 3) := by decide +kernel
theorem dX2_numberToken_20 : decode cX2_numberToken 20 = .ok (.aload_n 0, 1) := by decide +kernel
theorem dX2_numberToken_21 : decode cX2_numberToken 21 = .ok (.getfield 24, 3) := by decide +kernel
theorem dX2_numberToken_24 : decode cX2_numberToken 24 = .ok (.iaload, 1) := by decide +kernel
theorem dX2_numberToken_25 : decode cX2_numberToken 25 = .ok (.invokestatic 74, 3) := by decide +kernel
theorem dX2_numberToken_28 : decode cX2_numberToken 28 = .ok (.ifCond .eq 45, 3) := by decide +kernel
theorem dX2_numberToken_31 : decode cX2_numberToken 31 = .ok (.aload_n 0, 1) := by decide +kernel
theorem dX2_numberToken_32 : decode cX2_numberToken 32 = .ok (.bipush 10, 2) := by decide +kernel
theorem dX2_numberToken_34 : decode cX2_numberToken 34 = .ok (.aload_n 0, 1) := by decide +kernel
theorem dX2_numberToken_35 : decode cX2_numberToken 35 = .ok (.getfield 52, 3) := by decide +kernel
theorem dX2_numberToken_38 : decode cX2_numberToken 38 = .ok (.imul, 1) := by decide +kernel
theorem dX2_numberToken_39 : decode cX2_numberToken 39 = .ok (.aload_n 0, 1) := by decide +kernel
theorem dX2_numberToken_40 : decode cX2_numberToken 40 = .ok (.getfield 9, 3) := by decide +kernel
theorem dX2_numberToken_43 : decode cX2_numberToken 43 = .ok (.aload_n 0, 1) := by decide +kernel
theorem dX2_numberToken_44 : decode cX2_numberToken 44 = .ok (.getfield 24, 3) := by decide +kernel
theorem dX2_numberToken_47 : decode cX2_numberToken 47 = .ok (.iaload, 1) := by decide +kernel
theorem dX2_numberToken_48 : decode cX2_numberToken 48 = .ok (.iadd, 1) := by decide +kernel
theorem dX2_numberToken_49 : decode cX2_numberToken 49 = .ok (.bipush 48, 2) := by decide +kernel
theorem dX2_numberToken_51 : decode cX2_numberToken 51 = .ok (.isub, 1) := by decide +kernel
theorem dX2_numberToken_52 : decode cX2_numberToken 52 = .ok (.bipush 100, 2) := by decide +kernel
theorem dX2_numberToken_54 : decode cX2_numberToken 54 = .ok (.invokestatic 81, 3) := by decide +kernel
theorem dX2_numberToken_57 : decode cX2_numberToken 57 = .ok (.putfield 52, 3) := by decide +kernel
theorem dX2_numberToken_60 : decode cX2_numberToken 60 = .ok (.aload_n 0, 1) := by decide +kernel
theorem dX2_numberToken_61 : decode cX2_numberToken 61 = .ok (.dup, 1) := by decide +kernel
theorem dX2_numberToken_62 : decode cX2_numberToken 62 = .ok (.getfield 24, 3) := by decide +kernel
theorem dX2_numberToken_65 : decode cX2_numberToken 65 = .ok (.iconst 1, 1) := by decide +kernel
theorem dX2_numberToken_66 : decode cX2_numberToken 66 = .ok (.iadd, 1) := by decide +kernel
theorem dX2_numberToken_67 : decode cX2_numberToken 67 = .ok (.putfield 24, 3) := by decide +kernel
theorem dX2_numberToken_70 : decode cX2_numberToken 70 = .ok (.goto (-65), 3) := by decide +kernel
theorem dX2_numberToken_73 : decode cX2_numberToken 73 = .ok (.aload_n 0, 1) := by decide +kernel
theorem dX2_numberToken_74 : decode cX2_numberToken 74 = .ok (.getfield 9, 3) := by decide +kernel
theorem dX2_numberToken_77 : decode cX2_numberToken 77 = .ok (.aload_n 0, 1) := by decide +kernel
theorem dX2_numberToken_78 : decode cX2_numberToken 78 = .ok (.getfield 35, 3) := by decide +kernel
theorem dX2_numberToken_81 : decode cX2_numberToken 81 = .ok (.iaload, 1) := by decide +kernel
theorem dX2_numberToken_82 : decode cX2_numberToken 82 = .ok (.bipush 48, 2) := by decide +kernel
theorem dX2_numberToken_84 : decode cX2_numberToken 84 = .ok (.if_icmp .ne 20, 3) := by decide +kernel
theorem dX2_numberToken_87 : decode cX2_numberToken 87 = .ok (.aload_n 0, 1) := by decide +kernel
theorem dX2_numberToken_88 : decode cX2_numberToken 88 = .ok (.getfield 24, 3) := by decide +kernel
theorem dX2_numberToken_91 : decode cX2_numberToken 91 = .ok (.aload_n 0, 1) := by decide +kernel
theorem dX2_numberToken_92 : decode cX2_numberToken 92 = .ok (.getfield 35, 3) := by decide +kernel
theorem dX2_numberToken_95 : decode cX2_numberToken 95 = .ok (.isub, 1) := by decide +kernel
theorem dX2_numberToken_96 : decode cX2_numberToken 96 = .ok (.iconst 1, 1) := by decide +kernel
theorem dX2_numberToken_97 : decode cX2_numberToken 97 = .ok (.if_icmp .le 7, 3) := by decide +kernel
theorem dX2_numberToken_100 : decode cX2_numberToken 100 = .ok (.iconst 1, 1) := by decide +kernel
theorem dX2_numberToken_101 : decode cX2_numberToken 101 = .ok (.goto 4, 3) := by decide +kernel
theorem dX2_numberToken_104 : decode cX2_numberToken 104 = .ok (.iconst 0, 1) := by decide +kernel
theorem dX2_numberToken_105 : decode cX2_numberToken 105 = .ok (.istore_n 1, 1) := by decide +kernel
theorem dX2_numberToken_106 : decode cX2_numberToken 106 = .ok (.iload_n 1, 1) := by decide +kernel
theorem dX2_numberToken_107 : decode cX2_numberToken 107 = .ok (.ifCond .ne 12, 3) := by decide +kernel
theorem dX2_numberToken_110 : decode cX2_numberToken 110 = .ok (.aload_n 0, 1) := by decide +kernel
theorem dX2_numberToken_111 : decode cX2_numberToken 111 = .ok (.getfield 52, 3) := by decide +kernel
theorem dX2_numberToken_114 : decode cX2_numberToken 114 = .ok (.bipush 99, 2) := by decide +kernel
theorem dX2_numberToken_116 : decode cX2_numberToken 116 = .ok (.if_icmp .le 7, 3) := by decide +kernel
theorem dX2_numberToken_119 : decode cX2_numberToken 119 = .ok (.iconst 5, 1) := by decide +kernel
theorem dX2_numberToken_120 : decode cX2_numberToken 120 = .ok (.goto 4, 3) := by decide +kernel
theorem dX2_numberToken_123 : decode cX2_numberToken 123 = .ok (.iconst 3, 1) := by decide +kernel
theorem dX2_numberToken_124 : decode cX2_numberToken 124 = .ok (.ireturn, 1) := by decide +kernel
theorem dX2_isDigit_0 : decode cX2_isDigit 0 = .ok (.iload_n 0, 1) := by decide +kernel
theorem dX2_isDigit_1 : decode cX2_isDigit 1 = .ok (.bipush 48, 2) := by decide +kernel
theorem dX2_isDigit_3 : decode cX2_isDigit 3 = .ok (.if_icmp .lt 13, 3) := by decide +kernel
theorem dX2_isDigit_6 : decode cX2_isDigit 6 = .ok (.iload_n 0, 1) := by decide +kernel
theorem dX2_isDigit_7 : decode cX2_isDigit 7 = .ok (.bipush 57, 2) := by decide +kernel
theorem dX2_isDigit_9 : decode cX2_isDigit 9 = .ok (.if_icmp .gt 7, 3) := by decide +kernel
theorem dX2_isDigit_12 : decode cX2_isDigit 12 = .ok (.iconst 1, 1) := by decide +kernel
theorem dX2_isDigit_13 : decode cX2_isDigit 13 = .ok (.goto 4, 3) := by decide +kernel
theorem dX2_isDigit_16 : decode cX2_isDigit 16 = .ok (.iconst 0, 1) := by decide +kernel
theorem dX2_isDigit_17 : decode cX2_isDigit 17 = .ok (.ireturn, 1) := by decide +kernel
theorem dX3_init_0 : decode cX3_init 0 = .ok (.aload_n 0, 1) := by decide +kernel
theorem dX3_init_1 : decode cX3_init 1 = .ok (.invokespecial 3, 3) := by decide +kernel
theorem dX3_init_4 : decode cX3_init 4 = .ok (.aload_n 0, 1) := by decide +kernel
theorem dX3_init_5 : decode cX3_init 5 = .ok (.iconst 3, 1) := by decide +kernel
theorem dX3_init_6 : decode cX3_init 6 = .ok (.newarray .int, 2) := by decide +kernel
theorem dX3_init_8 : decode cX3_init 8 = .ok (.putfield 9, 3) := by decide +kernel
theorem dX3_init_11 : decode cX3_init 11 = .ok (.aload_n 0, 1) := by decide +kernel
theorem dX3_init_12 : decode cX3_init 12 = .ok (.iconst 3, 1) := by decide +kernel
theorem dX3_init_13 : decode cX3_init 13 = .ok (.newarray .int, 2) := by decide +kernel
theorem dX3_init_15 : decode cX3_init 15 = .ok (.putfield 15, 3) := by decide +kernel
theorem dX3_init_18 : decode cX3_init 18 = .ok (.aload_n 0, 1) := by decide +kernel
theorem dX3_init_19 : decode cX3_init 19 = .ok (.bipush 6, 2) := by decide +kernel
theorem dX3_init_21 : decode cX3_init 21 = .ok (.newarray .int, 2) := by decide +kernel
theorem dX3_init_23 : decode cX3_init 23 = .ok (.putfield 18, 3) := by decide +kernel
theorem dX3_init_26 : decode cX3_init 26 = .ok (.aload_n 0, 1) := by decide +kernel
theorem dX3_init_27 : decode cX3_init 27 = .ok (.bipush 6, 2) := by decide +kernel
theorem dX3_init_29 : decode cX3_init 29 = .ok (.newarray .int, 2) := by decide +kernel
theorem dX3_init_31 : decode cX3_init 31 = .ok (.putfield 21, 3) := by decide +kernel
theorem dX3_init_34 : decode cX3_init 34 = .ok (.aload_n 0, 1) := by decide +kernel
theorem dX3_init_35 : decode cX3_init 35 = .ok (.bipush 6, 2) := by decide +kernel
theorem dX3_init_37 : decode cX3_init 37 = .ok (.newarray .int, 2) := by decide +kernel
theorem dX3_init_39 : decode cX3_init 39 = .ok (.putfield 24, 3) := by decide +kernel
theorem dX3_init_42 : decode cX3_init 42 = .ok (.aload_n 0, 1) := by decide +kernel
theorem dX3_init_43 : decode cX3_init 43 = .ok (.bipush 6, 2) := by decide +kernel
theorem dX3_init_45 : decode cX3_init 45 = .ok (.iconst 3, 1) := by decide +kernel
theorem dX3_init_46 : decode cX3_init 46 = .ok (.multianewarray 27 2, 4) := by decide +kernel
theorem dX3_init_50 : decode cX3_init 50 = .ok (.putfield 29, 3) := by decide +kernel
theorem dX3_init_53 : decode cX3_init 53 = .ok (.return_, 1) := by decide +kernel
end
section
theorem dX4_init_0 : decode cX4_init 0 = .ok (.aload_n 0, 1) := by decide +kernel
theorem dX4_init_1 : decode cX4_init 1 = .ok (.invokespecial 1, 3) := by decide +kernel
theorem dX4_init_4 : decode cX4_init 4 = .ok (.aload_n 0, 1) := by decide +kernel
theorem dX4_init_5 : decode cX4_init 5 = .ok (.new 7, 3) := by decide +kernel
theorem dX4_init_8 : decode cX4_init 8 = .ok (.dup, 1) := by decide +kernel
theorem dX4_init_9 : decode cX4_init 9 = .ok (.invokespecial 9, 3) := by decide +kernel
theorem dX4_init_12 : decode cX4_init 12 = .ok (.putfield 10, 3) := by decide +kernel
theorem dX4_init_15 : decode cX4_init 15 = .ok (.aload_n 0, 1) := by decide +kernel
theorem dX4_init_16 : decode cX4_init 16 = .ok (.new 16, 3) := by decide +kernel
theorem dX4_init_19 : decode cX4_init 19 = .ok (.dup, 1) := by decide +kernel
theorem dX4_init_20 : decode cX4_init 20 = .ok (.invokespecial 18, 3) := by decide +kernel
theorem dX4_init_23 : decode cX4_init 23 = .ok (.putfield 19, 3) := by decide +kernel
theorem dX4_init_26 : decode cX4_init 26 = .ok (.aload_n 0, 1) := by decide +kernel
theorem dX4_init_27 : decode cX4_init 27 = .ok (.new 16, 3) := by decide +kernel
theorem dX4_init_30 : decode cX4_init 30 = .ok (.dup, 1) := by decide +kernel
theorem dX4_init_31 : decode cX4_init 31 = .ok (.invokespecial 18, 3) := by decide +kernel
theorem dX4_init_34 : decode cX4_init 34 = .ok (.putfield 23, 3) := by decide +kernel
theorem dX4_init_37 : decode cX4_init 37 = .ok (.aload_n 0, 1) := by decide +kernel
theorem dX4_init_38 : decode cX4_init 38 = .ok (.new 26, 3) := by decide +kernel
theorem dX4_init_41 : decode cX4_init 41 = .ok (.dup, 1) := by decide +kernel
theorem dX4_init_42 : decode cX4_init 42 = .ok (.invokespecial 28, 3) := by decide +kernel
theorem dX4_init_45 : decode cX4_init 45 = .ok (.putfield 29, 3) := by decide +kernel
theorem dX4_init_48 : decode cX4_init 48 = .ok (.aload_n 0, 1) := by decide +kernel
theorem dX4_init_49 : decode cX4_init 49 = .ok (.new 26, 3) := by decide +kernel
theorem dX4_init_52 : decode cX4_init 52 = .ok (.dup, 1) := by decide +kernel
theorem dX4_init_53 : decode cX4_init 53 = .ok (.invokespecial 28, 3) := by decide +kernel
theorem dX4_init_56 : decode cX4_init 56 = .ok (.putfield 33, 3) := by decide +kernel
theorem dX4_init_59 : decode cX4_init 59 = .ok (.aload_n 0, 1) := by decide +kernel
theorem dX4_init_60 : decode cX4_init 60 = .ok (.new 36, 3) := by decide +kernel
theorem dX4_init_63 : decode cX4_init 63 = .ok (.dup, 1) := by decide +kernel
theorem dX4_init_64 : decode cX4_init 64 = .ok (.invokespecial 38, 3) := by decide +kernel
theorem dX4_init_67 : decode cX4_init 67 = .ok (.putfield 39, 3) := by decide +kernel
theorem dX4_init_70 : decode cX4_init 70 = .ok (.aload_n 0, 1) := by decide +kernel
theorem dX4_init_71 : decode cX4_init 71 = .ok (.iconst 2, 1) := by decide +kernel
theorem dX4_init_72 : decode cX4_init 72 = .ok (.anewarray 26, 3) := by decide +kernel
theorem dX4_init_75 : decode cX4_init 75 = .ok (.putfield 43, 3) := by decide +kernel
theorem dX4_init_78 : decode cX4_init 78 = .ok (.aload_n 0, 1) := by decide +kernel
theorem dX4_init_79 : decode cX4_init 79 = .ok (.iconst 2, 1) := by decide +kernel
theorem dX4_init_80 : decode cX4_init 80 = .ok (.newarray .boolean, 2) := by decide +kernel
theorem dX4_init_82 : decode cX4_init 82 = .ok (.putfield 47, 3) := by decide +kernel
theorem dX4_init_85 : decode cX4_init 85 = .ok (.aload_n 0, 1) := by decide +kernel
theorem dX4_init_86 : decode cX4_init 86 = .ok (.iconst 5, 1) := by decide +kernel
theorem dX4_init_87 : decode cX4_init 87 = .ok (.newarray .int, 2) := by decide +kernel
theorem dX4_init_89 : decode cX4_init 89 = .ok (.putfield 51, 3) := by decide +kernel
theorem dX4_init_92 : decode cX4_init 92 = .ok (.aload_n 0, 1) := by decide +kernel
theorem dX4_init_93 : decode cX4_init 93 = .ok (.iconst 5, 1) := by decide +kernel
theorem dX4_init_94 : decode cX4_init 94 = .ok (.newarray .int, 2) := by decide +kernel
theorem dX4_init_96 : decode cX4_init 96 = .ok (.putfield 55, 3) := by decide +kernel
theorem dX4_init_99 : decode cX4_init 99 = .ok (.aload_n 0, 1) := by decide +kernel
theorem dX4_init_100 : decode cX4_init 100 = .ok (.bipush 6, 2) := by decide +kernel
theorem dX4_init_102 : decode cX4_init 102 = .ok (.newarray .int, 2) := by decide +kernel
theorem dX4_init_104 : decode cX4_init 104 = .ok (.putfield 58, 3) := by decide +kernel
theorem dX4_init_107 : decode cX4_init 107 = .ok (.aload_n 0, 1) := by decide +kernel
theorem dX4_init_108 : decode cX4_init 108 = .ok (.getfield 29, 3) := by decide +kernel
theorem dX4_init_111 : decode cX4_init 111 = .ok (.iconst 0, 1) := by decide +kernel
theorem dX4_init_112 : decode cX4_init 112 = .ok (.invokevirtual 61, 3) := by decide +kernel
theorem dX4_init_115 : decode cX4_init 115 = .ok (.iconst 0, 1) := by decide +kernel
theorem dX4_init_116 : decode cX4_init 116 = .ok (.istore_n 1, 1) := by decide +kernel
theorem dX4_init_117 : decode cX4_init 117 = .ok (.iload_n 1, 1) := by decide +kernel
theorem dX4_init_118 : decode cX4_init 118 = .ok (.iconst 2, 1) := by decide +kernel
theorem dX4_init_119 : decode cX4_init 119 = .ok (.if_icmp .ge 22, 3) := by decide +kernel
theorem dX4_init_122 : decode cX4_init 122 = .ok (.aload_n 0, 1) := by decide +kernel
theorem dX4_init_123 : decode cX4_init 123 = .ok (.getfield 43, 3) := by decide +kernel
theorem dX4_init_126 : decode cX4_init 126 = .ok (.iload_n 1, 1) := by decide +kernel
theorem dX4_init_127 : decode cX4_init 127 = .ok (.new 26, 3) := by decide +kernel
theorem dX4_init_130 : decode cX4_init 130 = .ok (.dup, 1) := by decide +kernel
theorem dX4_init_131 : decode cX4_init 131 = .ok (.invokespecial 28, 3) := by decide +kernel
theorem dX4_init_134 : decode cX4_init 134 = .ok (.aastore, 1) := by decide +kernel
theorem dX4_init_135 : decode cX4_init 135 = .ok (.iinc 1 1, 3) := by decide +kernel
theorem dX4_init_138 : decode cX4_init 138 = .ok (.goto (-21), 3) := by decide +kernel
theorem dX4_init_141 : decode cX4_init 141 = .ok (.return_, 1) := by decide +kernel
theorem dX4_type_0 : decode cX4_type 0 = .ok (.iload_n 1, 1) := by decide +kernel
theorem dX4_type_1 : decode cX4_type 1 = .ok (.ifCond .lt 10, 3) := by decide +kernel
theorem dX4_type_4 : decode cX4_type 4 = .ok (.iload_n 1, 1) := by decide +kernel
theorem dX4_type_5 : decode cX4_type 5 = .ok (.sipush 255, 3) := by decide +kernel
theorem dX4_type_8 : decode cX4_type 8 = .ok (.if_icmp .le 5, 3) := by decide +kernel
theorem dX4_type_11 : decode cX4_type 11 = .ok (.iconst (-1), 1) := by decide +kernel
theorem dX4_type_12 : decode cX4_type 12 = .ok (.ireturn, 1) := by decide +kernel
theorem dX4_type_13 : decode cX4_type 13 = .ok (.aload_n 0, 1) := by decide +kernel
theorem dX4_type_14 : decode cX4_type 14 = .ok (.getfield 10, 3) := by decide +kernel
theorem dX4_type_17 : decode cX4_type 17 = .ok (.getfield 65, 3) := by decide +kernel
theorem dX4_type_20 : decode cX4_type 20 = .ok (.sipush 200, 3) := by decide +kernel
theorem dX4_type_23 : decode cX4_type 23 = .ok (.if_icmp .lt 6, 3) := by decide +kernel
theorem dX4_type_26 : decode cX4_type 26 = .ok (.bipush (-3), 2) := by decide +kernel
theorem dX4_type_28 : decode cX4_type 28 = .ok (.ireturn, 1) := by decide +kernel
theorem dX4_type_29 : decode cX4_type 29 = .ok (.aload_n 0, 1) := by decide +kernel
theorem dX4_type_30 : decode cX4_type 30 = .ok (.getfield 10, 3) := by decide +kernel
theorem dX4_type_33 : decode cX4_type 33 = .ok (.getfield 69, 3) := by decide +kernel
theorem dX4_type_36 : decode cX4_type 36 = .ok (.aload_n 0, 1) := by decide +kernel
theorem dX4_type_37 : decode cX4_type 37 = .ok (.getfield 10, 3) := by decide +kernel
theorem dX4_type_40 : decode cX4_type 40 = .ok (.getfield 65, 3) := by decide +kernel
theorem dX4_type_43 : decode cX4_type 43 = .ok (.iload_n 1, 1) := by decide +kernel
theorem dX4_type_44 : decode cX4_type 44 = .ok (.iastore, 1) := by decide +kernel
theorem dX4_type_45 : decode cX4_type 45 = .ok (.aload_n 0, 1) := by decide +kernel
theorem dX4_type_46 : decode cX4_type 46 = .ok (.getfield 10, 3) := by decide +kernel
theorem dX4_type_49 : decode cX4_type 49 = .ok (.dup, 1) := by decide +kernel
theorem dX4_type_50 : decode cX4_type 50 = .ok (.getfield 65, 3) := by decide +kernel
theorem dX4_type_53 : decode cX4_type 53 = .ok (.iconst 1, 1) := by decide +kernel
theorem dX4_type_54 : decode cX4_type 54 = .ok (.iadd, 1) := by decide +kernel
theorem dX4_type_55 : decode cX4_type 55 = .ok (.putfield 65, 3) := by decide +kernel
theorem dX4_type_58 : decode cX4_type 58 = .ok (.aload_n 0, 1) := by decide +kernel
theorem dX4_type_59 : decode cX4_type 59 = .ok (.getfield 10, 3) := by decide +kernel
theorem dX4_type_62 : decode cX4_type 62 = .ok (.getfield 65, 3) := by decide +kernel
theorem dX4_type_65 : decode cX4_type 65 = .ok (.ireturn, 1) := by decide +kernel
theorem dX4_clear_0 : decode cX4_clear 0 = .ok (.aload_n 0, 1) := by decide +kernel
theorem dX4_clear_1 : decode cX4_clear 1 = .ok (.getfield 10, 3) := by decide +kernel
theorem dX4_clear_4 : decode cX4_clear 4 = .ok (.getfield 65, 3) := by decide +kernel
theorem dX4_clear_7 : decode cX4_clear 7 = .ok (.istore_n 1, 1) := by decide +kernel
theorem dX4_clear_8 : decode cX4_clear 8 = .ok (.aload_n 0, 1) := by decide +kernel
theorem dX4_clear_9 : decode cX4_clear 9 = .ok (.getfield 10, 3) := by decide +kernel
theorem dX4_clear_12 : decode cX4_clear 12 = .ok (.iconst 0, 1) := by decide +kernel
theorem dX4_clear_13 : decode cX4_clear 13 = .ok (.putfield 65, 3) := by decide +kernel
theorem dX4_clear_16 : decode cX4_clear 16 = .ok (.iload_n 1, 1) := by decide +kernel
theorem dX4_clear_17 : decode cX4_clear 17 = .ok (.ireturn, 1) := by decide +kernel
theorem dX4_valley_0 : decode cX4_valley 0 = .ok (.aload_n 0, 1) := by decide +kernel
theorem dX4_valley_1 : decode cX4_valley 1 = .ok (.getfield 10, 3) := by decide +kernel
theorem dX4_valley_4 : decode cX4_valley 4 = .ok (.aload_n 0, 1) := by decide +kernel
theorem dX4_valley_5 : decode cX4_valley 5 = .ok (.getfield 23, 3) := by decide +kernel
theorem dX4_valley_8 : decode cX4_valley 8 = .ok (.invokevirtual 72, 3) := by decide +kernel
theorem dX4_valley_11 : decode cX4_valley 11 = .ok (.istore_n 1, 1) := by decide +kernel
theorem dX4_valley_12 : decode cX4_valley 12 = .ok (.iload_n 1, 1) := by decide +kernel
theorem dX4_valley_13 : decode cX4_valley 13 = .ok (.ifCond .ge 5, 3) := by decide +kernel
theorem dX4_valley_16 : decode cX4_valley 16 = .ok (.iload_n 1, 1) := by decide +kernel
theorem dX4_valley_17 : decode cX4_valley 17 = .ok (.ireturn, 1) := by decide +kernel
theorem dX4_valley_18 : decode cX4_valley 18 = .ok (.aload_n 0, 1) := by decide +kernel
theorem dX4_valley_19 : decode cX4_valley 19 = .ok (.getfield 19, 3) := by decide +kernel
theorem dX4_valley_22 : decode cX4_valley 22 = .ok (.astore_n 2, 1) := by decide +kernel
theorem dX4_valley_23 : decode cX4_valley 23 = .ok (.aload_n 0, 1) := by decide +kernel
theorem dX4_valley_24 : decode cX4_valley 24 = .ok (.aload_n 0, 1) := by decide +kernel
theorem dX4_valley_25 : decode cX4_valley 25 = .ok (.getfield 23, 3) := by decide +kernel
theorem dX4_valley_28 : decode cX4_valley 28 = .ok (.putfield 19, 3) := by decide +kernel
theorem dX4_valley_31 : decode cX4_valley 31 = .ok (.aload_n 0, 1) := by decide +kernel
theorem dX4_valley_32 : decode cX4_valley 32 = .ok (.aload_n 2, 1) := by decide +kernel
theorem dX4_valley_33 : decode cX4_valley 33 = .ok (.putfield 23, 3) := by decide +kernel
theorem dX4_valley_36 : decode cX4_valley 36 = .ok (.aload_n 0, 1) := by decide +kernel
theorem dX4_valley_37 : decode cX4_valley 37 = .ok (.getfield 10, 3) := by decide +kernel
theorem dX4_valley_40 : decode cX4_valley 40 = .ok (.iconst 0, 1) := by decide +kernel
theorem dX4_valley_41 : decode cX4_valley 41 = .ok (.putfield 65, 3) := by decide +kernel
theorem dX4_valley_44 : decode cX4_valley 44 = .ok (.aload_n 0, 1) := by decide +kernel
theorem dX4_valley_45 : decode cX4_valley 45 = .ok (.getfield 29, 3) := by decide +kernel
theorem dX4_valley_48 : decode cX4_valley 48 = .ok (.aload_n 0, 1) := by decide +kernel
theorem dX4_valley_49 : decode cX4_valley 49 = .ok (.getfield 19, 3) := by decide +kernel
theorem dX4_valley_52 : decode cX4_valley 52 = .ok (.getfield 76, 3) := by decide +kernel
theorem dX4_valley_55 : decode cX4_valley 55 = .ok (.invokevirtual 61, 3) := by decide +kernel
theorem dX4_valley_58 : decode cX4_valley 58 = .ok (.aload_n 0, 1) := by decide +kernel
theorem dX4_valley_59 : decode cX4_valley 59 = .ok (.getfield 39, 3) := by decide +kernel
theorem dX4_valley_62 : decode cX4_valley 62 = .ok (.iconst 0, 1) := by decide +kernel
theorem dX4_valley_63 : decode cX4_valley 63 = .ok (.putfield 79, 3) := by decide +kernel
theorem dX4_valley_66 : decode cX4_valley 66 = .ok (.aload_n 0, 1) := by decide +kernel
theorem dX4_valley_67 : decode cX4_valley 67 = .ok (.iconst 0, 1) := by decide +kernel
theorem dX4_valley_68 : decode cX4_valley 68 = .ok (.putfield 82, 3) := by decide +kernel
theorem dX4_valley_71 : decode cX4_valley 71 = .ok (.iconst 0, 1) := by decide +kernel
theorem dX4_valley_72 : decode cX4_valley 72 = .ok (.istore_n 3, 1) := by decide +kernel
theorem dX4_valley_73 : decode cX4_valley 73 = .ok (.iload_n 3, 1) := by decide +kernel
theorem dX4_valley_74 : decode cX4_valley 74 = .ok (.iconst 2, 1) := by decide +kernel
theorem dX4_valley_75 : decode cX4_valley 75 = .ok (.if_icmp .ge 16, 3) := by decide +kernel
theorem dX4_valley_78 : decode cX4_valley 78 = .ok (.aload_n 0, 1) := by decide +kernel
theorem dX4_valley_79 : decode cX4_valley 79 = .ok (.getfield 47, 3) := by decide +kernel
theorem dX4_valley_82 : decode cX4_valley 82 = .ok (.iload_n 3, 1) := by decide +kernel
theorem dX4_valley_83 : decode cX4_valley 83 = .ok (.iconst 0, 1) := by decide +kernel
theorem dX4_valley_84 : decode cX4_valley 84 = .ok (.bastore, 1) := by decide +kernel
theorem dX4_valley_85 : decode cX4_valley 85 = .ok (.iinc 3 1, 3) := by decide +kernel
theorem dX4_valley_88 : decode cX4_valley 88 = .ok (.goto (-15), 3) := by decide +kernel
theorem dX4_valley_91 : decode cX4_valley 91 = .ok (.iload_n 1, 1) := by decide +kernel
theorem dX4_valley_92 : decode cX4_valley 92 = .ok (.ireturn, 1) := by decide +kernel
theorem dX4_man_0 : decode cX4_man 0 = .ok (.aload_n 0, 1) := by decide +kernel
theorem dX4_man_1 : decode cX4_man 1 = .ok (.iload_n 1, 1) := by decide +kernel
theorem dX4_man_2 : decode cX4_man 2 = .ok (.invokevirtual 85, 3) := by decide +kernel
theorem dX4_man_5 : decode cX4_man 5 = .ok (.ifCond .ne 5, 3) := by decide +kernel
theorem dX4_man_8 : decode cX4_man 8 = .ok (.iconst (-1), 1) := by decide +kernel
theorem dX4_man_9 : decode cX4_man 9 = .ok (.ireturn, 1) := by decide +kernel
theorem dX4_man_10 : decode cX4_man 10 = .ok (.iload_n 2, 1) := by decide +kernel
theorem dX4_man_11 : decode cX4_man 11 = .ok (.tableswitch 111 0 6 #[41, 51, 61, 71, 81, 91, 101], 41) := by decide +kernel
theorem dX4_man_52 : decode cX4_man 52 = .ok (.aload_n 0, 1) := by decide +kernel
theorem dX4_man_53 : decode cX4_man 53 = .ok (.getfield 19, 3) := by decide +kernel
theorem dX4_man_56 : decode cX4_man 56 = .ok (.getfield 89, 3) := by decide +kernel
theorem dX4_man_59 : decode cX4_man 59 = .ok (.iload_n 1, 1) := by decide +kernel
theorem dX4_man_60 : decode cX4_man 60 = .ok (.iaload, 1) := by decide +kernel
theorem dX4_man_61 : decode cX4_man 61 = .ok (.ireturn, 1) := by decide +kernel
theorem dX4_man_62 : decode cX4_man 62 = .ok (.aload_n 0, 1) := by decide +kernel
theorem dX4_man_63 : decode cX4_man 63 = .ok (.getfield 19, 3) := by decide +kernel
theorem dX4_man_66 : decode cX4_man 66 = .ok (.getfield 92, 3) := by decide +kernel
theorem dX4_man_69 : decode cX4_man 69 = .ok (.iload_n 1, 1) := by decide +kernel
theorem dX4_man_70 : decode cX4_man 70 = .ok (.iaload, 1) := by decide +kernel
theorem dX4_man_71 : decode cX4_man 71 = .ok (.ireturn, 1) := by decide +kernel
theorem dX4_man_72 : decode cX4_man 72 = .ok (.aload_n 0, 1) := by decide +kernel
theorem dX4_man_73 : decode cX4_man 73 = .ok (.getfield 19, 3) := by decide +kernel
theorem dX4_man_76 : decode cX4_man 76 = .ok (.getfield 95, 3) := by decide +kernel
theorem dX4_man_79 : decode cX4_man 79 = .ok (.iload_n 1, 1) := by decide +kernel
theorem dX4_man_80 : decode cX4_man 80 = .ok (.iaload, 1) := by decide +kernel
theorem dX4_man_81 : decode cX4_man 81 = .ok (.ireturn, 1) := by decide +kernel
theorem dX4_man_82 : decode cX4_man 82 = .ok (.aload_n 0, 1) := by decide +kernel
theorem dX4_man_83 : decode cX4_man 83 = .ok (.getfield 29, 3) := by decide +kernel
theorem dX4_man_86 : decode cX4_man 86 = .ok (.getfield 98, 3) := by decide +kernel
theorem dX4_man_89 : decode cX4_man 89 = .ok (.iload_n 1, 1) := by decide +kernel
theorem dX4_man_90 : decode cX4_man 90 = .ok (.iaload, 1) := by decide +kernel
theorem dX4_man_91 : decode cX4_man 91 = .ok (.ireturn, 1) := by decide +kernel
theorem dX4_man_92 : decode cX4_man 92 = .ok (.aload_n 0, 1) := by decide +kernel
theorem dX4_man_93 : decode cX4_man 93 = .ok (.getfield 29, 3) := by decide +kernel
theorem dX4_man_96 : decode cX4_man 96 = .ok (.getfield 101, 3) := by decide +kernel
theorem dX4_man_99 : decode cX4_man 99 = .ok (.iload_n 1, 1) := by decide +kernel
theorem dX4_man_100 : decode cX4_man 100 = .ok (.iaload, 1) := by decide +kernel
theorem dX4_man_101 : decode cX4_man 101 = .ok (.ireturn, 1) := by decide +kernel
theorem dX4_man_102 : decode cX4_man 102 = .ok (.aload_n 0, 1) := by decide +kernel
theorem dX4_man_103 : decode cX4_man 103 = .ok (.getfield 29, 3) := by decide +kernel
theorem dX4_man_106 : decode cX4_man 106 = .ok (.getfield 104, 3) := by decide +kernel
theorem dX4_man_109 : decode cX4_man 109 = .ok (.iload_n 1, 1) := by decide +kernel
theorem dX4_man_110 : decode cX4_man 110 = .ok (.iaload, 1) := by decide +kernel
theorem dX4_man_111 : decode cX4_man 111 = .ok (.ireturn, 1) := by decide +kernel
theorem dX4_man_112 : decode cX4_man 112 = .ok (.aload_n 0, 1) := by decide +kernel
theorem dX4_man_113 : decode cX4_man 113 = .ok (.getfield 29, 3) := by decide +kernel
theorem dX4_man_116 : decode cX4_man 116 = .ok (.getfield 107, 3) := by decide +kernel
theorem dX4_man_119 : decode cX4_man 119 = .ok (.iload_n 1, 1) := by decide +kernel
theorem dX4_man_120 : decode cX4_man 120 = .ok (.iaload, 1) := by decide +kernel
theorem dX4_man_121 : decode cX4_man 121 = .ok (.ireturn, 1) := by decide +kernel
theorem dX4_man_122 : decode cX4_man 122 = .ok (.iconst (-1), 1) := by decide +kernel
theorem dX4_man_123 : decode cX4_man 123 = .ok (.ireturn, 1) := by decide +kernel
theorem dX4_yieldOf_0 : decode cX4_yieldOf 0 = .ok (.aload_n 0, 1) := by decide +kernel
theorem dX4_yieldOf_1 : decode cX4_yieldOf 1 = .ok (.iload_n 1, 1) := by decide +kernel
theorem dX4_yieldOf_2 : decode cX4_yieldOf 2 = .ok (.invokevirtual 85, 3) := by decide +kernel
theorem dX4_yieldOf_5 : decode cX4_yieldOf 5 = .ok (.ifCond .eq 11, 3) := by decide +kernel
theorem dX4_yieldOf_8 : decode cX4_yieldOf 8 = .ok (.aload_n 0, 1) := by decide +kernel
theorem dX4_yieldOf_9 : decode cX4_yieldOf 9 = .ok (.iload_n 2, 1) := by decide +kernel
theorem dX4_yieldOf_10 : decode cX4_yieldOf 10 = .ok (.invokevirtual 110, 3) := by decide +kernel
theorem dX4_yieldOf_13 : decode cX4_yieldOf 13 = .ok (.ifCond .ne 5, 3) := by decide +kernel
theorem dX4_yieldOf_16 : decode cX4_yieldOf 16 = .ok (.iconst (-1), 1) := by decide +kernel
theorem dX4_yieldOf_17 : decode cX4_yieldOf 17 = .ok (.ireturn, 1) := by decide +kernel
theorem dX4_yieldOf_18 : decode cX4_yieldOf 18 = .ok (.aload_n 0, 1) := by decide +kernel
theorem dX4_yieldOf_19 : decode cX4_yieldOf 19 = .ok (.getfield 19, 3) := by decide +kernel
theorem dX4_yieldOf_22 : decode cX4_yieldOf 22 = .ok (.getfield 113, 3) := by decide +kernel
theorem dX4_yieldOf_25 : decode cX4_yieldOf 25 = .ok (.iload_n 1, 1) := by decide +kernel
theorem dX4_yieldOf_26 : decode cX4_yieldOf 26 = .ok (.aaload, 1) := by decide +kernel
theorem dX4_yieldOf_27 : decode cX4_yieldOf 27 = .ok (.iload_n 2, 1) := by decide +kernel
theorem dX4_yieldOf_28 : decode cX4_yieldOf 28 = .ok (.iaload, 1) := by decide +kernel
theorem dX4_yieldOf_29 : decode cX4_yieldOf 29 = .ok (.ireturn, 1) := by decide +kernel
theorem dX4_carries_0 : decode cX4_carries 0 = .ok (.aload_n 0, 1) := by decide +kernel
theorem dX4_carries_1 : decode cX4_carries 1 = .ok (.iload_n 1, 1) := by decide +kernel
theorem dX4_carries_2 : decode cX4_carries 2 = .ok (.invokevirtual 85, 3) := by decide +kernel
theorem dX4_carries_5 : decode cX4_carries 5 = .ok (.ifCond .eq 11, 3) := by decide +kernel
theorem dX4_carries_8 : decode cX4_carries 8 = .ok (.aload_n 0, 1) := by decide +kernel
theorem dX4_carries_9 : decode cX4_carries 9 = .ok (.iload_n 2, 1) := by decide +kernel
theorem dX4_carries_10 : decode cX4_carries 10 = .ok (.invokevirtual 110, 3) := by decide +kernel
theorem dX4_carries_13 : decode cX4_carries 13 = .ok (.ifCond .ne 5, 3) := by decide +kernel
theorem dX4_carries_16 : decode cX4_carries 16 = .ok (.iconst (-1), 1) := by decide +kernel
theorem dX4_carries_17 : decode cX4_carries 17 = .ok (.ireturn, 1) := by decide +kernel
theorem dX4_carries_18 : decode cX4_carries 18 = .ok (.aload_n 0, 1) := by decide +kernel
theorem dX4_carries_19 : decode cX4_carries 19 = .ok (.aload_n 0, 1) := by decide +kernel
theorem dX4_carries_20 : decode cX4_carries 20 = .ok (.getfield 29, 3) := by decide +kernel
theorem dX4_carries_23 : decode cX4_carries 23 = .ok (.iload_n 1, 1) := by decide +kernel
theorem dX4_carries_24 : decode cX4_carries 24 = .ok (.iload_n 2, 1) := by decide +kernel
theorem dX4_carries_25 : decode cX4_carries 25 = .ok (.invokevirtual 117, 3) := by decide +kernel
theorem dX4_carries_28 : decode cX4_carries 28 = .ok (.ireturn, 1) := by decide +kernel
theorem dX4_has_0 : decode cX4_has 0 = .ok (.aload_n 0, 1) := by decide +kernel
theorem dX4_has_1 : decode cX4_has 1 = .ok (.iload_n 1, 1) := by decide +kernel
theorem dX4_has_2 : decode cX4_has 2 = .ok (.invokevirtual 85, 3) := by decide +kernel
theorem dX4_has_5 : decode cX4_has 5 = .ok (.ifCond .ne 6, 3) := by decide +kernel
theorem dX4_has_8 : decode cX4_has 8 = .ok (.ldc 121, 2) := by decide +kernel
theorem dX4_has_10 : decode cX4_has 10 = .ok (.ireturn, 1) := by decide +kernel
theorem dX4_has_11 : decode cX4_has 11 = .ok (.iload_n 2, 1) := by decide +kernel
theorem dX4_has_12 : decode cX4_has 12 = .ok (.tableswitch 72 0 3 #[32, 42, 52, 62], 32) := by decide +kernel
theorem dX4_has_44 : decode cX4_has 44 = .ok (.aload_n 0, 1) := by decide +kernel
theorem dX4_has_45 : decode cX4_has 45 = .ok (.aload_n 0, 1) := by decide +kernel
theorem dX4_has_46 : decode cX4_has 46 = .ok (.getfield 29, 3) := by decide +kernel
theorem dX4_has_49 : decode cX4_has 49 = .ok (.iload_n 1, 1) := by decide +kernel
theorem dX4_has_50 : decode cX4_has 50 = .ok (.invokevirtual 122, 3) := by decide +kernel
theorem dX4_has_53 : decode cX4_has 53 = .ok (.ireturn, 1) := by decide +kernel
theorem dX4_has_54 : decode cX4_has 54 = .ok (.aload_n 0, 1) := by decide +kernel
theorem dX4_has_55 : decode cX4_has 55 = .ok (.aload_n 0, 1) := by decide +kernel
theorem dX4_has_56 : decode cX4_has 56 = .ok (.getfield 29, 3) := by decide +kernel
theorem dX4_has_59 : decode cX4_has 59 = .ok (.iload_n 1, 1) := by decide +kernel
theorem dX4_has_60 : decode cX4_has 60 = .ok (.invokevirtual 126, 3) := by decide +kernel
theorem dX4_has_63 : decode cX4_has 63 = .ok (.ireturn, 1) := by decide +kernel
theorem dX4_has_64 : decode cX4_has 64 = .ok (.aload_n 0, 1) := by decide +kernel
theorem dX4_has_65 : decode cX4_has 65 = .ok (.aload_n 0, 1) := by decide +kernel
theorem dX4_has_66 : decode cX4_has 66 = .ok (.getfield 29, 3) := by decide +kernel
theorem dX4_has_69 : decode cX4_has 69 = .ok (.iload_n 1, 1) := by decide +kernel
theorem dX4_has_70 : decode cX4_has 70 = .ok (.invokevirtual 129, 3) := by decide +kernel
theorem dX4_has_73 : decode cX4_has 73 = .ok (.ireturn, 1) := by decide +kernel
theorem dX4_has_74 : decode cX4_has 74 = .ok (.aload_n 0, 1) := by decide +kernel
theorem dX4_has_75 : decode cX4_has 75 = .ok (.getfield 29, 3) := by decide +kernel
theorem dX4_has_78 : decode cX4_has 78 = .ok (.getfield 132, 3) := by decide +kernel
theorem dX4_has_81 : decode cX4_has 81 = .ok (.iload_n 1, 1) := by decide +kernel
theorem dX4_has_82 : decode cX4_has 82 = .ok (.iaload, 1) := by decide +kernel
theorem dX4_has_83 : decode cX4_has 83 = .ok (.ireturn, 1) := by decide +kernel
theorem dX4_has_84 : decode cX4_has 84 = .ok (.ldc 121, 2) := by decide +kernel
theorem dX4_has_86 : decode cX4_has 86 = .ok (.ireturn, 1) := by decide +kernel
theorem dX4_now_0 : decode cX4_now 0 = .ok (.iload_n 1, 1) := by decide +kernel
theorem dX4_now_1 : decode cX4_now 1 = .ok (.tableswitch 78 0 5 #[39, 47, 55, 60, 65, 70], 39) := by decide +kernel
theorem dX4_now_40 : decode cX4_now 40 = .ok (.aload_n 0, 1) := by decide +kernel
theorem dX4_now_41 : decode cX4_now 41 = .ok (.getfield 29, 3) := by decide +kernel
theorem dX4_now_44 : decode cX4_now 44 = .ok (.getfield 135, 3) := by decide +kernel
theorem dX4_now_47 : decode cX4_now 47 = .ok (.ireturn, 1) := by decide +kernel
theorem dX4_now_48 : decode cX4_now 48 = .ok (.aload_n 0, 1) := by decide +kernel
theorem dX4_now_49 : decode cX4_now 49 = .ok (.getfield 29, 3) := by decide +kernel
theorem dX4_now_52 : decode cX4_now 52 = .ok (.getfield 138, 3) := by decide +kernel
theorem dX4_now_55 : decode cX4_now 55 = .ok (.ireturn, 1) := by decide +kernel
theorem dX4_now_56 : decode cX4_now 56 = .ok (.aload_n 0, 1) := by decide +kernel
theorem dX4_now_57 : decode cX4_now 57 = .ok (.invokevirtual 141, 3) := by decide +kernel
theorem dX4_now_60 : decode cX4_now 60 = .ok (.ireturn, 1) := by decide +kernel
theorem dX4_now_61 : decode cX4_now 61 = .ok (.aload_n 0, 1) := by decide +kernel
theorem dX4_now_62 : decode cX4_now 62 = .ok (.invokevirtual 145, 3) := by decide +kernel
theorem dX4_now_65 : decode cX4_now 65 = .ok (.ireturn, 1) := by decide +kernel
theorem dX4_now_66 : decode cX4_now 66 = .ok (.aload_n 0, 1) := by decide +kernel
theorem dX4_now_67 : decode cX4_now 67 = .ok (.invokevirtual 148, 3) := by decide +kernel
theorem dX4_now_70 : decode cX4_now 70 = .ok (.ireturn, 1) := by decide +kernel
theorem dX4_now_71 : decode cX4_now 71 = .ok (.aload_n 0, 1) := by decide +kernel
theorem dX4_now_72 : decode cX4_now 72 = .ok (.getfield 39, 3) := by decide +kernel
theorem dX4_now_75 : decode cX4_now 75 = .ok (.getfield 79, 3) := by decide +kernel
theorem dX4_now_78 : decode cX4_now 78 = .ok (.ireturn, 1) := by decide +kernel
theorem dX4_now_79 : decode cX4_now 79 = .ok (.iconst (-1), 1) := by decide +kernel
theorem dX4_now_80 : decode cX4_now 80 = .ok (.ireturn, 1) := by decide +kernel
theorem dX4_sows_0 : decode cX4_sows 0 = .ok (.aload_n 0, 1) := by decide +kernel
theorem dX4_sows_1 : decode cX4_sows 1 = .ok (.iload_n 1, 1) := by decide +kernel
theorem dX4_sows_2 : decode cX4_sows 2 = .ok (.invokevirtual 85, 3) := by decide +kernel
theorem dX4_sows_5 : decode cX4_sows 5 = .ok (.ifCond .eq 11, 3) := by decide +kernel
theorem dX4_sows_8 : decode cX4_sows 8 = .ok (.aload_n 0, 1) := by decide +kernel
theorem dX4_sows_9 : decode cX4_sows 9 = .ok (.iload_n 2, 1) := by decide +kernel
theorem dX4_sows_10 : decode cX4_sows 10 = .ok (.invokevirtual 110, 3) := by decide +kernel
theorem dX4_sows_13 : decode cX4_sows 13 = .ok (.ifCond .ne 5, 3) := by decide +kernel
theorem dX4_sows_16 : decode cX4_sows 16 = .ok (.iconst (-1), 1) := by decide +kernel
theorem dX4_sows_17 : decode cX4_sows 17 = .ok (.ireturn, 1) := by decide +kernel
theorem dX4_sows_18 : decode cX4_sows 18 = .ok (.aload_n 0, 1) := by decide +kernel
theorem dX4_sows_19 : decode cX4_sows 19 = .ok (.getfield 39, 3) := by decide +kernel
theorem dX4_sows_22 : decode cX4_sows 22 = .ok (.aload_n 0, 1) := by decide +kernel
theorem dX4_sows_23 : decode cX4_sows 23 = .ok (.getfield 29, 3) := by decide +kernel
theorem dX4_sows_26 : decode cX4_sows 26 = .ok (.invokevirtual 151, 3) := by decide +kernel
theorem dX4_sows_29 : decode cX4_sows 29 = .ok (.aload_n 0, 1) := by decide +kernel
theorem dX4_sows_30 : decode cX4_sows 30 = .ok (.getfield 29, 3) := by decide +kernel
theorem dX4_sows_33 : decode cX4_sows 33 = .ok (.getfield 98, 3) := by decide +kernel
theorem dX4_sows_36 : decode cX4_sows 36 = .ok (.iload_n 1, 1) := by decide +kernel
theorem dX4_sows_37 : decode cX4_sows 37 = .ok (.iaload, 1) := by decide +kernel
theorem dX4_sows_38 : decode cX4_sows 38 = .ok (.istore_n 3, 1) := by decide +kernel
theorem dX4_sows_39 : decode cX4_sows 39 = .ok (.aload_n 0, 1) := by decide +kernel
theorem dX4_sows_40 : decode cX4_sows 40 = .ok (.getfield 29, 3) := by decide +kernel
theorem dX4_sows_43 : decode cX4_sows 43 = .ok (.getfield 98, 3) := by decide +kernel
theorem dX4_sows_46 : decode cX4_sows 46 = .ok (.iload_n 1, 1) := by decide +kernel
theorem dX4_sows_47 : decode cX4_sows 47 = .ok (.iload_n 2, 1) := by decide +kernel
theorem dX4_sows_48 : decode cX4_sows 48 = .ok (.iastore, 1) := by decide +kernel
theorem dX4_sows_49 : decode cX4_sows 49 = .ok (.iload_n 3, 1) := by decide +kernel
theorem dX4_sows_50 : decode cX4_sows 50 = .ok (.ireturn, 1) := by decide +kernel
theorem dX4_rains_0 : decode cX4_rains 0 = .ok (.iload_n 1, 1) := by decide +kernel
theorem dX4_rains_1 : decode cX4_rains 1 = .ok (.iconst 2, 1) := by decide +kernel
theorem dX4_rains_2 : decode cX4_rains 2 = .ok (.invokestatic 155, 3) := by decide +kernel
theorem dX4_rains_5 : decode cX4_rains 5 = .ok (.ifCond .ne 5, 3) := by decide +kernel
theorem dX4_rains_8 : decode cX4_rains 8 = .ok (.iconst (-1), 1) := by decide +kernel
theorem dX4_rains_9 : decode cX4_rains 9 = .ok (.ireturn, 1) := by decide +kernel
theorem dX4_rains_10 : decode cX4_rains 10 = .ok (.aload_n 0, 1) := by decide +kernel
theorem dX4_rains_11 : decode cX4_rains 11 = .ok (.getfield 39, 3) := by decide +kernel
theorem dX4_rains_14 : decode cX4_rains 14 = .ok (.aload_n 0, 1) := by decide +kernel
theorem dX4_rains_15 : decode cX4_rains 15 = .ok (.getfield 29, 3) := by decide +kernel
theorem dX4_rains_18 : decode cX4_rains 18 = .ok (.invokevirtual 151, 3) := by decide +kernel
theorem dX4_rains_21 : decode cX4_rains 21 = .ok (.aload_n 0, 1) := by decide +kernel
theorem dX4_rains_22 : decode cX4_rains 22 = .ok (.getfield 29, 3) := by decide +kernel
theorem dX4_rains_25 : decode cX4_rains 25 = .ok (.getfield 138, 3) := by decide +kernel
theorem dX4_rains_28 : decode cX4_rains 28 = .ok (.istore_n 2, 1) := by decide +kernel
theorem dX4_rains_29 : decode cX4_rains 29 = .ok (.aload_n 0, 1) := by decide +kernel
theorem dX4_rains_30 : decode cX4_rains 30 = .ok (.getfield 29, 3) := by decide +kernel
theorem dX4_rains_33 : decode cX4_rains 33 = .ok (.iload_n 1, 1) := by decide +kernel
theorem dX4_rains_34 : decode cX4_rains 34 = .ok (.putfield 138, 3) := by decide +kernel
theorem dX4_rains_37 : decode cX4_rains 37 = .ok (.iload_n 2, 1) := by decide +kernel
theorem dX4_rains_38 : decode cX4_rains 38 = .ok (.ireturn, 1) := by decide +kernel
theorem dX4_ropes_0 : decode cX4_ropes 0 = .ok (.aload_n 0, 1) := by decide +kernel
theorem dX4_ropes_1 : decode cX4_ropes 1 = .ok (.iload_n 1, 1) := by decide +kernel
theorem dX4_ropes_2 : decode cX4_ropes 2 = .ok (.invokevirtual 85, 3) := by decide +kernel
theorem dX4_ropes_5 : decode cX4_ropes 5 = .ok (.ifCond .eq 12, 3) := by decide +kernel
theorem dX4_ropes_8 : decode cX4_ropes 8 = .ok (.iload_n 2, 1) := by decide +kernel
theorem dX4_ropes_9 : decode cX4_ropes 9 = .ok (.ifCond .lt 8, 3) := by decide +kernel
theorem dX4_ropes_12 : decode cX4_ropes 12 = .ok (.iload_n 2, 1) := by decide +kernel
theorem dX4_ropes_13 : decode cX4_ropes 13 = .ok (.iconst 3, 1) := by decide +kernel
theorem dX4_ropes_14 : decode cX4_ropes 14 = .ok (.if_icmp .le 5, 3) := by decide +kernel
theorem dX4_ropes_17 : decode cX4_ropes 17 = .ok (.iconst (-1), 1) := by decide +kernel
theorem dX4_ropes_18 : decode cX4_ropes 18 = .ok (.ireturn, 1) := by decide +kernel
theorem dX4_ropes_19 : decode cX4_ropes 19 = .ok (.aload_n 0, 1) := by decide +kernel
theorem dX4_ropes_20 : decode cX4_ropes 20 = .ok (.getfield 39, 3) := by decide +kernel
theorem dX4_ropes_23 : decode cX4_ropes 23 = .ok (.aload_n 0, 1) := by decide +kernel
theorem dX4_ropes_24 : decode cX4_ropes 24 = .ok (.getfield 29, 3) := by decide +kernel
theorem dX4_ropes_27 : decode cX4_ropes 27 = .ok (.invokevirtual 151, 3) := by decide +kernel
theorem dX4_ropes_30 : decode cX4_ropes 30 = .ok (.aload_n 0, 1) := by decide +kernel
theorem dX4_ropes_31 : decode cX4_ropes 31 = .ok (.getfield 29, 3) := by decide +kernel
theorem dX4_ropes_34 : decode cX4_ropes 34 = .ok (.getfield 104, 3) := by decide +kernel
theorem dX4_ropes_37 : decode cX4_ropes 37 = .ok (.iload_n 1, 1) := by decide +kernel
theorem dX4_ropes_38 : decode cX4_ropes 38 = .ok (.iaload, 1) := by decide +kernel
theorem dX4_ropes_39 : decode cX4_ropes 39 = .ok (.istore_n 3, 1) := by decide +kernel
theorem dX4_ropes_40 : decode cX4_ropes 40 = .ok (.aload_n 0, 1) := by decide +kernel
theorem dX4_ropes_41 : decode cX4_ropes 41 = .ok (.getfield 29, 3) := by decide +kernel
theorem dX4_ropes_44 : decode cX4_ropes 44 = .ok (.getfield 104, 3) := by decide +kernel
theorem dX4_ropes_47 : decode cX4_ropes 47 = .ok (.iload_n 1, 1) := by decide +kernel
theorem dX4_ropes_48 : decode cX4_ropes 48 = .ok (.iload_n 2, 1) := by decide +kernel
theorem dX4_ropes_49 : decode cX4_ropes 49 = .ok (.iastore, 1) := by decide +kernel
theorem dX4_ropes_50 : decode cX4_ropes 50 = .ok (.iload_n 3, 1) := by decide +kernel
theorem dX4_ropes_51 : decode cX4_ropes 51 = .ok (.ireturn, 1) := by decide +kernel
theorem dX4_mules_0 : decode cX4_mules 0 = .ok (.aload_n 0, 1) := by decide +kernel
theorem dX4_mules_1 : decode cX4_mules 1 = .ok (.iload_n 1, 1) := by decide +kernel
theorem dX4_mules_2 : decode cX4_mules 2 = .ok (.invokevirtual 85, 3) := by decide +kernel
theorem dX4_mules_5 : decode cX4_mules 5 = .ok (.ifCond .eq 11, 3) := by decide +kernel
theorem dX4_mules_8 : decode cX4_mules 8 = .ok (.iload_n 2, 1) := by decide +kernel
theorem dX4_mules_9 : decode cX4_mules 9 = .ok (.iconst 2, 1) := by decide +kernel
theorem dX4_mules_10 : decode cX4_mules 10 = .ok (.invokestatic 155, 3) := by decide +kernel
theorem dX4_mules_13 : decode cX4_mules 13 = .ok (.ifCond .ne 5, 3) := by decide +kernel
theorem dX4_mules_16 : decode cX4_mules 16 = .ok (.iconst (-1), 1) := by decide +kernel
theorem dX4_mules_17 : decode cX4_mules 17 = .ok (.ireturn, 1) := by decide +kernel
theorem dX4_mules_18 : decode cX4_mules 18 = .ok (.aload_n 0, 1) := by decide +kernel
theorem dX4_mules_19 : decode cX4_mules 19 = .ok (.getfield 39, 3) := by decide +kernel
theorem dX4_mules_22 : decode cX4_mules 22 = .ok (.aload_n 0, 1) := by decide +kernel
theorem dX4_mules_23 : decode cX4_mules 23 = .ok (.getfield 29, 3) := by decide +kernel
theorem dX4_mules_26 : decode cX4_mules 26 = .ok (.invokevirtual 151, 3) := by decide +kernel
theorem dX4_mules_29 : decode cX4_mules 29 = .ok (.aload_n 0, 1) := by decide +kernel
theorem dX4_mules_30 : decode cX4_mules 30 = .ok (.getfield 29, 3) := by decide +kernel
theorem dX4_mules_33 : decode cX4_mules 33 = .ok (.getfield 107, 3) := by decide +kernel
theorem dX4_mules_36 : decode cX4_mules 36 = .ok (.iload_n 1, 1) := by decide +kernel
theorem dX4_mules_37 : decode cX4_mules 37 = .ok (.iaload, 1) := by decide +kernel
theorem dX4_mules_38 : decode cX4_mules 38 = .ok (.istore_n 3, 1) := by decide +kernel
theorem dX4_mules_39 : decode cX4_mules 39 = .ok (.aload_n 0, 1) := by decide +kernel
theorem dX4_mules_40 : decode cX4_mules 40 = .ok (.getfield 29, 3) := by decide +kernel
theorem dX4_mules_43 : decode cX4_mules 43 = .ok (.getfield 107, 3) := by decide +kernel
theorem dX4_mules_46 : decode cX4_mules 46 = .ok (.iload_n 1, 1) := by decide +kernel
theorem dX4_mules_47 : decode cX4_mules 47 = .ok (.iload_n 2, 1) := by decide +kernel
theorem dX4_mules_48 : decode cX4_mules 48 = .ok (.iastore, 1) := by decide +kernel
theorem dX4_mules_49 : decode cX4_mules 49 = .ok (.iload_n 3, 1) := by decide +kernel
theorem dX4_mules_50 : decode cX4_mules 50 = .ok (.ireturn, 1) := by decide +kernel
theorem dX4_marries_0 : decode cX4_marries 0 = .ok (.aload_n 0, 1) := by decide +kernel
theorem dX4_marries_1 : decode cX4_marries 1 = .ok (.iload_n 1, 1) := by decide +kernel
theorem dX4_marries_2 : decode cX4_marries 2 = .ok (.invokevirtual 85, 3) := by decide +kernel
theorem dX4_marries_5 : decode cX4_marries 5 = .ok (.ifCond .eq 16, 3) := by decide +kernel
theorem dX4_marries_8 : decode cX4_marries 8 = .ok (.aload_n 0, 1) := by decide +kernel
theorem dX4_marries_9 : decode cX4_marries 9 = .ok (.iload_n 2, 1) := by decide +kernel
theorem dX4_marries_10 : decode cX4_marries 10 = .ok (.invokevirtual 85, 3) := by decide +kernel
theorem dX4_marries_13 : decode cX4_marries 13 = .ok (.ifCond .eq 8, 3) := by decide +kernel
theorem dX4_marries_16 : decode cX4_marries 16 = .ok (.iload_n 1, 1) := by decide +kernel
theorem dX4_marries_17 : decode cX4_marries 17 = .ok (.iload_n 2, 1) := by decide +kernel
theorem dX4_marries_18 : decode cX4_marries 18 = .ok (.if_icmp .ne 5, 3) := by decide +kernel
theorem dX4_marries_21 : decode cX4_marries 21 = .ok (.iconst (-1), 1) := by decide +kernel
theorem dX4_marries_22 : decode cX4_marries 22 = .ok (.ireturn, 1) := by decide +kernel
theorem dX4_marries_23 : decode cX4_marries 23 = .ok (.aload_n 0, 1) := by decide +kernel
theorem dX4_marries_24 : decode cX4_marries 24 = .ok (.getfield 39, 3) := by decide +kernel
theorem dX4_marries_27 : decode cX4_marries 27 = .ok (.aload_n 0, 1) := by decide +kernel
theorem dX4_marries_28 : decode cX4_marries 28 = .ok (.getfield 29, 3) := by decide +kernel
theorem dX4_marries_31 : decode cX4_marries 31 = .ok (.invokevirtual 151, 3) := by decide +kernel
theorem dX4_marries_34 : decode cX4_marries 34 = .ok (.aload_n 0, 1) := by decide +kernel
theorem dX4_marries_35 : decode cX4_marries 35 = .ok (.iload_n 1, 1) := by decide +kernel
theorem dX4_marries_36 : decode cX4_marries 36 = .ok (.iload_n 2, 1) := by decide +kernel
theorem dX4_marries_37 : decode cX4_marries 37 = .ok (.invokevirtual 159, 3) := by decide +kernel
theorem dX4_marries_40 : decode cX4_marries 40 = .ok (.aload_n 0, 1) := by decide +kernel
theorem dX4_marries_41 : decode cX4_marries 41 = .ok (.getfield 29, 3) := by decide +kernel
theorem dX4_marries_44 : decode cX4_marries 44 = .ok (.getfield 101, 3) := by decide +kernel
theorem dX4_marries_47 : decode cX4_marries 47 = .ok (.iload_n 1, 1) := by decide +kernel
theorem dX4_marries_48 : decode cX4_marries 48 = .ok (.iaload, 1) := by decide +kernel
theorem dX4_marries_49 : decode cX4_marries 49 = .ok (.ireturn, 1) := by decide +kernel
theorem dX4_year_0 : decode cX4_year 0 = .ok (.aload_n 0, 1) := by decide +kernel
theorem dX4_year_1 : decode cX4_year 1 = .ok (.getfield 29, 3) := by decide +kernel
theorem dX4_year_4 : decode cX4_year 4 = .ok (.getfield 135, 3) := by decide +kernel
theorem dX4_year_7 : decode cX4_year 7 = .ok (.sipush 999, 3) := by decide +kernel
theorem dX4_year_10 : decode cX4_year 10 = .ok (.if_icmp .lt 6, 3) := by decide +kernel
theorem dX4_year_13 : decode cX4_year 13 = .ok (.bipush (-2), 2) := by decide +kernel
theorem dX4_year_15 : decode cX4_year 15 = .ok (.ireturn, 1) := by decide +kernel
theorem dX4_year_16 : decode cX4_year 16 = .ok (.aload_n 0, 1) := by decide +kernel
theorem dX4_year_17 : decode cX4_year 17 = .ok (.getfield 39, 3) := by decide +kernel
theorem dX4_year_20 : decode cX4_year 20 = .ok (.aload_n 0, 1) := by decide +kernel
theorem dX4_year_21 : decode cX4_year 21 = .ok (.getfield 29, 3) := by decide +kernel
theorem dX4_year_24 : decode cX4_year 24 = .ok (.invokevirtual 151, 3) := by decide +kernel
theorem dX4_year_27 : decode cX4_year 27 = .ok (.iconst 0, 1) := by decide +kernel
theorem dX4_year_28 : decode cX4_year 28 = .ok (.istore_n 1, 1) := by decide +kernel
theorem dX4_year_29 : decode cX4_year 29 = .ok (.iconst 0, 1) := by decide +kernel
theorem dX4_year_30 : decode cX4_year 30 = .ok (.istore_n 2, 1) := by decide +kernel
theorem dX4_year_31 : decode cX4_year 31 = .ok (.iload_n 2, 1) := by decide +kernel
theorem dX4_year_32 : decode cX4_year 32 = .ok (.aload_n 0, 1) := by decide +kernel
theorem dX4_year_33 : decode cX4_year 33 = .ok (.getfield 19, 3) := by decide +kernel
theorem dX4_year_36 : decode cX4_year 36 = .ok (.getfield 76, 3) := by decide +kernel
theorem dX4_year_39 : decode cX4_year 39 = .ok (.if_icmp .ge 48, 3) := by decide +kernel
theorem dX4_year_42 : decode cX4_year 42 = .ok (.aload_n 0, 1) := by decide +kernel
theorem dX4_year_43 : decode cX4_year 43 = .ok (.aload_n 0, 1) := by decide +kernel
theorem dX4_year_44 : decode cX4_year 44 = .ok (.getfield 29, 3) := by decide +kernel
theorem dX4_year_47 : decode cX4_year 47 = .ok (.iload_n 2, 1) := by decide +kernel
theorem dX4_year_48 : decode cX4_year 48 = .ok (.invokevirtual 163, 3) := by decide +kernel
theorem dX4_year_51 : decode cX4_year 51 = .ok (.istore_n 3, 1) := by decide +kernel
theorem dX4_year_52 : decode cX4_year 52 = .ok (.iload_n 3, 1) := by decide +kernel
theorem dX4_year_53 : decode cX4_year 53 = .ok (.ifCond .lt 6, 3) := by decide +kernel
theorem dX4_year_56 : decode cX4_year 56 = .ok (.iinc 1 1, 3) := by decide +kernel
theorem dX4_year_59 : decode cX4_year 59 = .ok (.aload_n 0, 1) := by decide +kernel
theorem dX4_year_60 : decode cX4_year 60 = .ok (.getfield 29, 3) := by decide +kernel
theorem dX4_year_63 : decode cX4_year 63 = .ok (.getfield 132, 3) := by decide +kernel
theorem dX4_year_66 : decode cX4_year 66 = .ok (.iload_n 2, 1) := by decide +kernel
theorem dX4_year_67 : decode cX4_year 67 = .ok (.aload_n 0, 1) := by decide +kernel
theorem dX4_year_68 : decode cX4_year 68 = .ok (.getfield 29, 3) := by decide +kernel
theorem dX4_year_71 : decode cX4_year 71 = .ok (.getfield 132, 3) := by decide +kernel
theorem dX4_year_74 : decode cX4_year 74 = .ok (.iload_n 2, 1) := by decide +kernel
theorem dX4_year_75 : decode cX4_year 75 = .ok (.iaload, 1) := by decide +kernel
theorem dX4_year_76 : decode cX4_year 76 = .ok (.iload_n 3, 1) := by decide +kernel
theorem dX4_year_77 : decode cX4_year 77 = .ok (.invokestatic 166, 3) := by decide +kernel
theorem dX4_year_80 : decode cX4_year 80 = .ok (.iastore, 1) := by decide +kernel
theorem dX4_year_81 : decode cX4_year 81 = .ok (.iinc 2 1, 3) := by decide +kernel
theorem dX4_year_84 : decode cX4_year 84 = .ok (.goto (-53), 3) := by decide +kernel
theorem dX4_year_87 : decode cX4_year 87 = .ok (.aload_n 0, 1) := by decide +kernel
theorem dX4_year_88 : decode cX4_year 88 = .ok (.getfield 29, 3) := by decide +kernel
theorem dX4_year_91 : decode cX4_year 91 = .ok (.dup, 1) := by decide +kernel
theorem dX4_year_92 : decode cX4_year 92 = .ok (.getfield 135, 3) := by decide +kernel
theorem dX4_year_95 : decode cX4_year 95 = .ok (.iconst 1, 1) := by decide +kernel
theorem dX4_year_96 : decode cX4_year 96 = .ok (.iadd, 1) := by decide +kernel
theorem dX4_year_97 : decode cX4_year 97 = .ok (.putfield 135, 3) := by decide +kernel
theorem dX4_year_100 : decode cX4_year 100 = .ok (.iload_n 1, 1) := by decide +kernel
theorem dX4_year_101 : decode cX4_year 101 = .ok (.ireturn, 1) := by decide +kernel
theorem dX4_undo_0 : decode cX4_undo 0 = .ok (.aload_n 0, 1) := by decide +kernel
theorem dX4_undo_1 : decode cX4_undo 1 = .ok (.getfield 39, 3) := by decide +kernel
theorem dX4_undo_4 : decode cX4_undo 4 = .ok (.getfield 79, 3) := by decide +kernel
theorem dX4_undo_7 : decode cX4_undo 7 = .ok (.ifCond .ne 6, 3) := by decide +kernel
theorem dX4_undo_10 : decode cX4_undo 10 = .ok (.bipush (-2), 2) := by decide +kernel
theorem dX4_undo_12 : decode cX4_undo 12 = .ok (.ireturn, 1) := by decide +kernel
theorem dX4_undo_13 : decode cX4_undo 13 = .ok (.aload_n 0, 1) := by decide +kernel
theorem dX4_undo_14 : decode cX4_undo 14 = .ok (.getfield 39, 3) := by decide +kernel
theorem dX4_undo_17 : decode cX4_undo 17 = .ok (.aload_n 0, 1) := by decide +kernel
theorem dX4_undo_18 : decode cX4_undo 18 = .ok (.getfield 29, 3) := by decide +kernel
theorem dX4_undo_21 : decode cX4_undo 21 = .ok (.invokevirtual 170, 3) := by decide +kernel
theorem dX4_undo_24 : decode cX4_undo 24 = .ok (.aload_n 0, 1) := by decide +kernel
theorem dX4_undo_25 : decode cX4_undo 25 = .ok (.getfield 39, 3) := by decide +kernel
theorem dX4_undo_28 : decode cX4_undo 28 = .ok (.getfield 79, 3) := by decide +kernel
theorem dX4_undo_31 : decode cX4_undo 31 = .ok (.ireturn, 1) := by decide +kernel
theorem dX4_best_0 : decode cX4_best 0 = .ok (.aload_n 0, 1) := by decide +kernel
theorem dX4_best_1 : decode cX4_best 1 = .ok (.iload_n 1, 1) := by decide +kernel
theorem dX4_best_2 : decode cX4_best 2 = .ok (.invokevirtual 85, 3) := by decide +kernel
theorem dX4_best_5 : decode cX4_best 5 = .ok (.ifCond .eq 22, 3) := by decide +kernel
theorem dX4_best_8 : decode cX4_best 8 = .ok (.iload_n 2, 1) := by decide +kernel
theorem dX4_best_9 : decode cX4_best 9 = .ok (.ifCond .lt 18, 3) := by decide +kernel
theorem dX4_best_12 : decode cX4_best 12 = .ok (.iload_n 2, 1) := by decide +kernel
theorem dX4_best_13 : decode cX4_best 13 = .ok (.sipush 999, 3) := by decide +kernel
theorem dX4_best_16 : decode cX4_best 16 = .ok (.if_icmp .gt 11, 3) := by decide +kernel
theorem dX4_best_19 : decode cX4_best 19 = .ok (.iload_n 3, 1) := by decide +kernel
theorem dX4_best_20 : decode cX4_best 20 = .ok (.iconst 2, 1) := by decide +kernel
theorem dX4_best_21 : decode cX4_best 21 = .ok (.invokestatic 155, 3) := by decide +kernel
theorem dX4_best_24 : decode cX4_best 24 = .ok (.ifCond .ne 5, 3) := by decide +kernel
theorem dX4_best_27 : decode cX4_best 27 = .ok (.iconst (-1), 1) := by decide +kernel
theorem dX4_best_28 : decode cX4_best 28 = .ok (.ireturn, 1) := by decide +kernel
theorem dX4_best_29 : decode cX4_best 29 = .ok (.aload_n 0, 1) := by decide +kernel
theorem dX4_best_30 : decode cX4_best 30 = .ok (.getfield 29, 3) := by decide +kernel
theorem dX4_best_33 : decode cX4_best 33 = .ok (.getfield 101, 3) := by decide +kernel
theorem dX4_best_36 : decode cX4_best 36 = .ok (.iload_n 1, 1) := by decide +kernel
theorem dX4_best_37 : decode cX4_best 37 = .ok (.iaload, 1) := by decide +kernel
theorem dX4_best_38 : decode cX4_best 38 = .ok (.istore 4, 2) := by decide +kernel
theorem dX4_best_40 : decode cX4_best 40 = .ok (.bipush (-9), 2) := by decide +kernel
theorem dX4_best_42 : decode cX4_best 42 = .ok (.istore 5, 2) := by decide +kernel
theorem dX4_best_44 : decode cX4_best 44 = .ok (.bipush (-9), 2) := by decide +kernel
theorem dX4_best_46 : decode cX4_best 46 = .ok (.istore 6, 2) := by decide +kernel
theorem dX4_best_48 : decode cX4_best 48 = .ok (.aload_n 0, 1) := by decide +kernel
theorem dX4_best_49 : decode cX4_best 49 = .ok (.getfield 33, 3) := by decide +kernel
theorem dX4_best_52 : decode cX4_best 52 = .ok (.aload_n 0, 1) := by decide +kernel
theorem dX4_best_53 : decode cX4_best 53 = .ok (.getfield 29, 3) := by decide +kernel
theorem dX4_best_56 : decode cX4_best 56 = .ok (.invokevirtual 173, 3) := by decide +kernel
theorem dX4_best_59 : decode cX4_best 59 = .ok (.iconst 0, 1) := by decide +kernel
theorem dX4_best_60 : decode cX4_best 60 = .ok (.istore 7, 2) := by decide +kernel
theorem dX4_best_62 : decode cX4_best 62 = .ok (.iload 7, 2) := by decide +kernel
theorem dX4_best_64 : decode cX4_best 64 = .ok (.aload_n 0, 1) := by decide +kernel
theorem dX4_best_65 : decode cX4_best 65 = .ok (.getfield 19, 3) := by decide +kernel
theorem dX4_best_68 : decode cX4_best 68 = .ok (.getfield 176, 3) := by decide +kernel
theorem dX4_best_71 : decode cX4_best 71 = .ok (.if_icmp .ge 95, 3) := by decide +kernel
theorem dX4_best_74 : decode cX4_best 74 = .ok (.aload_n 0, 1) := by decide +kernel
theorem dX4_best_75 : decode cX4_best 75 = .ok (.getfield 33, 3) := by decide +kernel
theorem dX4_best_78 : decode cX4_best 78 = .ok (.getfield 98, 3) := by decide +kernel
theorem dX4_best_81 : decode cX4_best 81 = .ok (.iload_n 1, 1) := by decide +kernel
theorem dX4_best_82 : decode cX4_best 82 = .ok (.iload 7, 2) := by decide +kernel
theorem dX4_best_84 : decode cX4_best 84 = .ok (.iastore, 1) := by decide +kernel
theorem dX4_best_85 : decode cX4_best 85 = .ok (.iload 4, 2) := by decide +kernel
theorem dX4_best_87 : decode cX4_best 87 = .ok (.ifCond .lt 28, 3) := by decide +kernel
theorem dX4_best_90 : decode cX4_best 90 = .ok (.aload_n 0, 1) := by decide +kernel
theorem dX4_best_91 : decode cX4_best 91 = .ok (.aload_n 0, 1) := by decide +kernel
theorem dX4_best_92 : decode cX4_best 92 = .ok (.getfield 33, 3) := by decide +kernel
theorem dX4_best_95 : decode cX4_best 95 = .ok (.iload 4, 2) := by decide +kernel
theorem dX4_best_97 : decode cX4_best 97 = .ok (.invokevirtual 122, 3) := by decide +kernel
theorem dX4_best_100 : decode cX4_best 100 = .ok (.aload_n 0, 1) := by decide +kernel
theorem dX4_best_101 : decode cX4_best 101 = .ok (.getfield 19, 3) := by decide +kernel
theorem dX4_best_104 : decode cX4_best 104 = .ok (.getfield 179, 3) := by decide +kernel
theorem dX4_best_107 : decode cX4_best 107 = .ok (.iload 7, 2) := by decide +kernel
theorem dX4_best_109 : decode cX4_best 109 = .ok (.iaload, 1) := by decide +kernel
theorem dX4_best_110 : decode cX4_best 110 = .ok (.imul, 1) := by decide +kernel
theorem dX4_best_111 : decode cX4_best 111 = .ok (.iload_n 2, 1) := by decide +kernel
theorem dX4_best_112 : decode cX4_best 112 = .ok (.if_icmp .lt 7, 3) := by decide +kernel
theorem dX4_best_115 : decode cX4_best 115 = .ok (.iconst 1, 1) := by decide +kernel
theorem dX4_best_116 : decode cX4_best 116 = .ok (.goto 4, 3) := by decide +kernel
theorem dX4_best_119 : decode cX4_best 119 = .ok (.iconst 0, 1) := by decide +kernel
theorem dX4_best_120 : decode cX4_best 120 = .ok (.istore 8, 2) := by decide +kernel
theorem dX4_best_122 : decode cX4_best 122 = .ok (.aload_n 0, 1) := by decide +kernel
theorem dX4_best_123 : decode cX4_best 123 = .ok (.aload_n 0, 1) := by decide +kernel
theorem dX4_best_124 : decode cX4_best 124 = .ok (.getfield 33, 3) := by decide +kernel
theorem dX4_best_127 : decode cX4_best 127 = .ok (.iload_n 1, 1) := by decide +kernel
theorem dX4_best_128 : decode cX4_best 128 = .ok (.invokevirtual 129, 3) := by decide +kernel
theorem dX4_best_131 : decode cX4_best 131 = .ok (.istore 9, 2) := by decide +kernel
theorem dX4_best_133 : decode cX4_best 133 = .ok (.iload 8, 2) := by decide +kernel
theorem dX4_best_135 : decode cX4_best 135 = .ok (.ifCond .eq 25, 3) := by decide +kernel
theorem dX4_best_138 : decode cX4_best 138 = .ok (.iload 5, 2) := by decide +kernel
theorem dX4_best_140 : decode cX4_best 140 = .ok (.bipush (-9), 2) := by decide +kernel
theorem dX4_best_142 : decode cX4_best 142 = .ok (.if_icmp .eq 10, 3) := by decide +kernel
theorem dX4_best_145 : decode cX4_best 145 = .ok (.iload 9, 2) := by decide +kernel
theorem dX4_best_147 : decode cX4_best 147 = .ok (.iload 6, 2) := by decide +kernel
theorem dX4_best_149 : decode cX4_best 149 = .ok (.if_icmp .le 11, 3) := by decide +kernel
theorem dX4_best_152 : decode cX4_best 152 = .ok (.iload 7, 2) := by decide +kernel
theorem dX4_best_154 : decode cX4_best 154 = .ok (.istore 5, 2) := by decide +kernel
theorem dX4_best_156 : decode cX4_best 156 = .ok (.iload 9, 2) := by decide +kernel
theorem dX4_best_158 : decode cX4_best 158 = .ok (.istore 6, 2) := by decide +kernel
theorem dX4_best_160 : decode cX4_best 160 = .ok (.iinc 7 1, 3) := by decide +kernel
theorem dX4_best_163 : decode cX4_best 163 = .ok (.goto (-101), 3) := by decide +kernel
theorem dX4_best_166 : decode cX4_best 166 = .ok (.iload_n 3, 1) := by decide +kernel
theorem dX4_best_167 : decode cX4_best 167 = .ok (.ifCond .ne 8, 3) := by decide +kernel
theorem dX4_best_170 : decode cX4_best 170 = .ok (.iload 5, 2) := by decide +kernel
theorem dX4_best_172 : decode cX4_best 172 = .ok (.goto 5, 3) := by decide +kernel
theorem dX4_best_175 : decode cX4_best 175 = .ok (.iload 6, 2) := by decide +kernel
theorem dX4_best_177 : decode cX4_best 177 = .ok (.ireturn, 1) := by decide +kernel
theorem dX4_rest_0 : decode cX4_rest 0 = .ok (.aload_n 0, 1) := by decide +kernel
theorem dX4_rest_1 : decode cX4_rest 1 = .ok (.iload_n 1, 1) := by decide +kernel
theorem dX4_rest_2 : decode cX4_rest 2 = .ok (.invokevirtual 85, 3) := by decide +kernel
theorem dX4_rest_5 : decode cX4_rest 5 = .ok (.ifCond .eq 11, 3) := by decide +kernel
theorem dX4_rest_8 : decode cX4_rest 8 = .ok (.iload_n 2, 1) := by decide +kernel
theorem dX4_rest_9 : decode cX4_rest 9 = .ok (.iconst 2, 1) := by decide +kernel
theorem dX4_rest_10 : decode cX4_rest 10 = .ok (.invokestatic 155, 3) := by decide +kernel
theorem dX4_rest_13 : decode cX4_rest 13 = .ok (.ifCond .ne 5, 3) := by decide +kernel
theorem dX4_rest_16 : decode cX4_rest 16 = .ok (.iconst (-1), 1) := by decide +kernel
theorem dX4_rest_17 : decode cX4_rest 17 = .ok (.ireturn, 1) := by decide +kernel
theorem dX4_rest_18 : decode cX4_rest 18 = .ok (.aload_n 0, 1) := by decide +kernel
theorem dX4_rest_19 : decode cX4_rest 19 = .ok (.getfield 29, 3) := by decide +kernel
theorem dX4_rest_22 : decode cX4_rest 22 = .ok (.getfield 101, 3) := by decide +kernel
theorem dX4_rest_25 : decode cX4_rest 25 = .ok (.iload_n 1, 1) := by decide +kernel
theorem dX4_rest_26 : decode cX4_rest 26 = .ok (.iaload, 1) := by decide +kernel
theorem dX4_rest_27 : decode cX4_rest 27 = .ok (.istore_n 3, 1) := by decide +kernel
theorem dX4_rest_28 : decode cX4_rest 28 = .ok (.iload_n 3, 1) := by decide +kernel
theorem dX4_rest_29 : decode cX4_rest 29 = .ok (.ifCond .ge 6, 3) := by decide +kernel
theorem dX4_rest_32 : decode cX4_rest 32 = .ok (.bipush (-2), 2) := by decide +kernel
theorem dX4_rest_34 : decode cX4_rest 34 = .ok (.ireturn, 1) := by decide +kernel
theorem dX4_rest_35 : decode cX4_rest 35 = .ok (.iconst 0, 1) := by decide +kernel
theorem dX4_rest_36 : decode cX4_rest 36 = .ok (.istore 4, 2) := by decide +kernel
theorem dX4_rest_38 : decode cX4_rest 38 = .ok (.bipush (-9), 2) := by decide +kernel
theorem dX4_rest_40 : decode cX4_rest 40 = .ok (.istore 5, 2) := by decide +kernel
theorem dX4_rest_42 : decode cX4_rest 42 = .ok (.aload_n 0, 1) := by decide +kernel
theorem dX4_rest_43 : decode cX4_rest 43 = .ok (.getfield 33, 3) := by decide +kernel
theorem dX4_rest_46 : decode cX4_rest 46 = .ok (.aload_n 0, 1) := by decide +kernel
theorem dX4_rest_47 : decode cX4_rest 47 = .ok (.getfield 29, 3) := by decide +kernel
theorem dX4_rest_50 : decode cX4_rest 50 = .ok (.invokevirtual 173, 3) := by decide +kernel
theorem dX4_rest_53 : decode cX4_rest 53 = .ok (.iconst 0, 1) := by decide +kernel
theorem dX4_rest_54 : decode cX4_rest 54 = .ok (.istore 6, 2) := by decide +kernel
theorem dX4_rest_56 : decode cX4_rest 56 = .ok (.iload 6, 2) := by decide +kernel
theorem dX4_rest_58 : decode cX4_rest 58 = .ok (.aload_n 0, 1) := by decide +kernel
theorem dX4_rest_59 : decode cX4_rest 59 = .ok (.getfield 19, 3) := by decide +kernel
theorem dX4_rest_62 : decode cX4_rest 62 = .ok (.getfield 176, 3) := by decide +kernel
theorem dX4_rest_65 : decode cX4_rest 65 = .ok (.if_icmp .ge 91, 3) := by decide +kernel
theorem dX4_rest_68 : decode cX4_rest 68 = .ok (.iconst 0, 1) := by decide +kernel
theorem dX4_rest_69 : decode cX4_rest 69 = .ok (.istore 7, 2) := by decide +kernel
theorem dX4_rest_71 : decode cX4_rest 71 = .ok (.iload 7, 2) := by decide +kernel
theorem dX4_rest_73 : decode cX4_rest 73 = .ok (.aload_n 0, 1) := by decide +kernel
theorem dX4_rest_74 : decode cX4_rest 74 = .ok (.getfield 19, 3) := by decide +kernel
theorem dX4_rest_77 : decode cX4_rest 77 = .ok (.getfield 176, 3) := by decide +kernel
theorem dX4_rest_80 : decode cX4_rest 80 = .ok (.if_icmp .ge 70, 3) := by decide +kernel
theorem dX4_rest_83 : decode cX4_rest 83 = .ok (.aload_n 0, 1) := by decide +kernel
theorem dX4_rest_84 : decode cX4_rest 84 = .ok (.getfield 33, 3) := by decide +kernel
theorem dX4_rest_87 : decode cX4_rest 87 = .ok (.getfield 98, 3) := by decide +kernel
theorem dX4_rest_90 : decode cX4_rest 90 = .ok (.iload_n 1, 1) := by decide +kernel
theorem dX4_rest_91 : decode cX4_rest 91 = .ok (.iload 6, 2) := by decide +kernel
theorem dX4_rest_93 : decode cX4_rest 93 = .ok (.iastore, 1) := by decide +kernel
theorem dX4_rest_94 : decode cX4_rest 94 = .ok (.aload_n 0, 1) := by decide +kernel
theorem dX4_rest_95 : decode cX4_rest 95 = .ok (.getfield 33, 3) := by decide +kernel
theorem dX4_rest_98 : decode cX4_rest 98 = .ok (.getfield 98, 3) := by decide +kernel
theorem dX4_rest_101 : decode cX4_rest 101 = .ok (.iload_n 3, 1) := by decide +kernel
theorem dX4_rest_102 : decode cX4_rest 102 = .ok (.iload 7, 2) := by decide +kernel
theorem dX4_rest_104 : decode cX4_rest 104 = .ok (.iastore, 1) := by decide +kernel
theorem dX4_rest_105 : decode cX4_rest 105 = .ok (.aload_n 0, 1) := by decide +kernel
theorem dX4_rest_106 : decode cX4_rest 106 = .ok (.iload_n 1, 1) := by decide +kernel
theorem dX4_rest_107 : decode cX4_rest 107 = .ok (.invokevirtual 182, 3) := by decide +kernel
theorem dX4_rest_110 : decode cX4_rest 110 = .ok (.ifCond .eq 34, 3) := by decide +kernel
theorem dX4_rest_113 : decode cX4_rest 113 = .ok (.aload_n 0, 1) := by decide +kernel
theorem dX4_rest_114 : decode cX4_rest 114 = .ok (.iload_n 3, 1) := by decide +kernel
theorem dX4_rest_115 : decode cX4_rest 115 = .ok (.invokevirtual 182, 3) := by decide +kernel
theorem dX4_rest_118 : decode cX4_rest 118 = .ok (.ifCond .eq 26, 3) := by decide +kernel
theorem dX4_rest_121 : decode cX4_rest 121 = .ok (.iload 4, 2) := by decide +kernel
theorem dX4_rest_123 : decode cX4_rest 123 = .ok (.ifCond .ne 14, 3) := by decide +kernel
theorem dX4_rest_126 : decode cX4_rest 126 = .ok (.bipush 10, 2) := by decide +kernel
theorem dX4_rest_128 : decode cX4_rest 128 = .ok (.iload 6, 2) := by decide +kernel
theorem dX4_rest_130 : decode cX4_rest 130 = .ok (.imul, 1) := by decide +kernel
theorem dX4_rest_131 : decode cX4_rest 131 = .ok (.iload 7, 2) := by decide +kernel
theorem dX4_rest_133 : decode cX4_rest 133 = .ok (.iadd, 1) := by decide +kernel
theorem dX4_rest_134 : decode cX4_rest 134 = .ok (.goto 5, 3) := by decide +kernel
theorem dX4_rest_137 : decode cX4_rest 137 = .ok (.iload 5, 2) := by decide +kernel
theorem dX4_rest_139 : decode cX4_rest 139 = .ok (.istore 5, 2) := by decide +kernel
theorem dX4_rest_141 : decode cX4_rest 141 = .ok (.iinc 4 1, 3) := by decide +kernel
theorem dX4_rest_144 : decode cX4_rest 144 = .ok (.iinc 7 1, 3) := by decide +kernel
theorem dX4_rest_147 : decode cX4_rest 147 = .ok (.goto (-76), 3) := by decide +kernel
theorem dX4_rest_150 : decode cX4_rest 150 = .ok (.iinc 6 1, 3) := by decide +kernel
theorem dX4_rest_153 : decode cX4_rest 153 = .ok (.goto (-97), 3) := by decide +kernel
theorem dX4_rest_156 : decode cX4_rest 156 = .ok (.iload_n 2, 1) := by decide +kernel
theorem dX4_rest_157 : decode cX4_rest 157 = .ok (.ifCond .ne 8, 3) := by decide +kernel
theorem dX4_rest_160 : decode cX4_rest 160 = .ok (.iload 4, 2) := by decide +kernel
theorem dX4_rest_162 : decode cX4_rest 162 = .ok (.goto 5, 3) := by decide +kernel
theorem dX4_rest_165 : decode cX4_rest 165 = .ok (.iload 5, 2) := by decide +kernel
theorem dX4_rest_167 : decode cX4_rest 167 = .ok (.ireturn, 1) := by decide +kernel
theorem dX4_hungry_0 : decode cX4_hungry 0 = .ok (.aload_n 0, 1) := by decide +kernel
theorem dX4_hungry_1 : decode cX4_hungry 1 = .ok (.iload_n 1, 1) := by decide +kernel
theorem dX4_hungry_2 : decode cX4_hungry 2 = .ok (.invokevirtual 85, 3) := by decide +kernel
theorem dX4_hungry_5 : decode cX4_hungry 5 = .ok (.ifCond .ne 5, 3) := by decide +kernel
theorem dX4_hungry_8 : decode cX4_hungry 8 = .ok (.iconst (-1), 1) := by decide +kernel
theorem dX4_hungry_9 : decode cX4_hungry 9 = .ok (.ireturn, 1) := by decide +kernel
theorem dX4_hungry_10 : decode cX4_hungry 10 = .ok (.aload_n 0, 1) := by decide +kernel
theorem dX4_hungry_11 : decode cX4_hungry 11 = .ok (.iload_n 1, 1) := by decide +kernel
theorem dX4_hungry_12 : decode cX4_hungry 12 = .ok (.invokevirtual 185, 3) := by decide +kernel
theorem dX4_hungry_15 : decode cX4_hungry 15 = .ok (.ifCond .eq 7, 3) := by decide +kernel
theorem dX4_hungry_18 : decode cX4_hungry 18 = .ok (.iconst 1, 1) := by decide +kernel
theorem dX4_hungry_19 : decode cX4_hungry 19 = .ok (.goto 4, 3) := by decide +kernel
theorem dX4_hungry_22 : decode cX4_hungry 22 = .ok (.iconst 0, 1) := by decide +kernel
theorem dX4_hungry_23 : decode cX4_hungry 23 = .ok (.ireturn, 1) := by decide +kernel
theorem dX4_faces_0 : decode cX4_faces 0 = .ok (.aload_n 0, 1) := by decide +kernel
theorem dX4_faces_1 : decode cX4_faces 1 = .ok (.getfield 19, 3) := by decide +kernel
theorem dX4_faces_4 : decode cX4_faces 4 = .ok (.getfield 76, 3) := by decide +kernel
theorem dX4_faces_7 : decode cX4_faces 7 = .ok (.ifCond .eq 16, 3) := by decide +kernel
theorem dX4_faces_10 : decode cX4_faces 10 = .ok (.iload_n 1, 1) := by decide +kernel
theorem dX4_faces_11 : decode cX4_faces 11 = .ok (.iconst (-1), 1) := by decide +kernel
theorem dX4_faces_12 : decode cX4_faces 12 = .ok (.if_icmp .eq 14, 3) := by decide +kernel
theorem dX4_faces_15 : decode cX4_faces 15 = .ok (.aload_n 0, 1) := by decide +kernel
theorem dX4_faces_16 : decode cX4_faces 16 = .ok (.iload_n 1, 1) := by decide +kernel
theorem dX4_faces_17 : decode cX4_faces 17 = .ok (.invokevirtual 85, 3) := by decide +kernel
theorem dX4_faces_20 : decode cX4_faces 20 = .ok (.ifCond .ne 6, 3) := by decide +kernel
theorem dX4_faces_23 : decode cX4_faces 23 = .ok (.ldc 121, 2) := by decide +kernel
theorem dX4_faces_25 : decode cX4_faces 25 = .ok (.ireturn, 1) := by decide +kernel
theorem dX4_faces_26 : decode cX4_faces 26 = .ok (.aload_n 0, 1) := by decide +kernel
theorem dX4_faces_27 : decode cX4_faces 27 = .ok (.getfield 33, 3) := by decide +kernel
theorem dX4_faces_30 : decode cX4_faces 30 = .ok (.aload_n 0, 1) := by decide +kernel
theorem dX4_faces_31 : decode cX4_faces 31 = .ok (.getfield 29, 3) := by decide +kernel
theorem dX4_faces_34 : decode cX4_faces 34 = .ok (.invokevirtual 173, 3) := by decide +kernel
theorem dX4_faces_37 : decode cX4_faces 37 = .ok (.iconst 0, 1) := by decide +kernel
theorem dX4_faces_38 : decode cX4_faces 38 = .ok (.istore_n 2, 1) := by decide +kernel
theorem dX4_faces_39 : decode cX4_faces 39 = .ok (.iload_n 2, 1) := by decide +kernel
theorem dX4_faces_40 : decode cX4_faces 40 = .ok (.aload_n 0, 1) := by decide +kernel
theorem dX4_faces_41 : decode cX4_faces 41 = .ok (.getfield 19, 3) := by decide +kernel
theorem dX4_faces_44 : decode cX4_faces 44 = .ok (.getfield 76, 3) := by decide +kernel
theorem dX4_faces_47 : decode cX4_faces 47 = .ok (.if_icmp .ge 20, 3) := by decide +kernel
theorem dX4_faces_50 : decode cX4_faces 50 = .ok (.aload_n 0, 1) := by decide +kernel
theorem dX4_faces_51 : decode cX4_faces 51 = .ok (.getfield 33, 3) := by decide +kernel
theorem dX4_faces_54 : decode cX4_faces 54 = .ok (.getfield 101, 3) := by decide +kernel
theorem dX4_faces_57 : decode cX4_faces 57 = .ok (.iload_n 2, 1) := by decide +kernel
theorem dX4_faces_58 : decode cX4_faces 58 = .ok (.bipush (-10), 2) := by decide +kernel
theorem dX4_faces_60 : decode cX4_faces 60 = .ok (.iastore, 1) := by decide +kernel
theorem dX4_faces_61 : decode cX4_faces 61 = .ok (.iinc 2 1, 3) := by decide +kernel
theorem dX4_faces_64 : decode cX4_faces 64 = .ok (.goto (-25), 3) := by decide +kernel
theorem dX4_faces_67 : decode cX4_faces 67 = .ok (.aload_n 0, 1) := by decide +kernel
theorem dX4_faces_68 : decode cX4_faces 68 = .ok (.iconst 0, 1) := by decide +kernel
theorem dX4_faces_69 : decode cX4_faces 69 = .ok (.putfield 188, 3) := by decide +kernel
theorem dX4_faces_72 : decode cX4_faces 72 = .ok (.aload_n 0, 1) := by decide +kernel
theorem dX4_faces_73 : decode cX4_faces 73 = .ok (.iconst 0, 1) := by decide +kernel
theorem dX4_faces_74 : decode cX4_faces 74 = .ok (.aload_n 0, 1) := by decide +kernel
theorem dX4_faces_75 : decode cX4_faces 75 = .ok (.getfield 19, 3) := by decide +kernel
theorem dX4_faces_78 : decode cX4_faces 78 = .ok (.getfield 76, 3) := by decide +kernel
theorem dX4_faces_81 : decode cX4_faces 81 = .ok (.iconst 2, 1) := by decide +kernel
theorem dX4_faces_82 : decode cX4_faces 82 = .ok (.irem, 1) := by decide +kernel
theorem dX4_faces_83 : decode cX4_faces 83 = .ok (.iconst 1, 1) := by decide +kernel
theorem dX4_faces_84 : decode cX4_faces 84 = .ok (.if_icmp .ne 7, 3) := by decide +kernel
theorem dX4_faces_87 : decode cX4_faces 87 = .ok (.iconst 1, 1) := by decide +kernel
theorem dX4_faces_88 : decode cX4_faces 88 = .ok (.goto 4, 3) := by decide +kernel
theorem dX4_faces_91 : decode cX4_faces 91 = .ok (.iconst 0, 1) := by decide +kernel
theorem dX4_faces_92 : decode cX4_faces 92 = .ok (.invokevirtual 192, 3) := by decide +kernel
theorem dX4_faces_95 : decode cX4_faces 95 = .ok (.iload_n 1, 1) := by decide +kernel
theorem dX4_faces_96 : decode cX4_faces 96 = .ok (.iconst (-1), 1) := by decide +kernel
theorem dX4_faces_97 : decode cX4_faces 97 = .ok (.if_icmp .ne 10, 3) := by decide +kernel
theorem dX4_faces_100 : decode cX4_faces 100 = .ok (.aload_n 0, 1) := by decide +kernel
theorem dX4_faces_101 : decode cX4_faces 101 = .ok (.getfield 196, 3) := by decide +kernel
theorem dX4_faces_104 : decode cX4_faces 104 = .ok (.goto 9, 3) := by decide +kernel
theorem dX4_faces_107 : decode cX4_faces 107 = .ok (.aload_n 0, 1) := by decide +kernel
theorem dX4_faces_108 : decode cX4_faces 108 = .ok (.getfield 58, 3) := by decide +kernel
theorem dX4_faces_111 : decode cX4_faces 111 = .ok (.iload_n 1, 1) := by decide +kernel
theorem dX4_faces_112 : decode cX4_faces 112 = .ok (.iaload, 1) := by decide +kernel
theorem dX4_faces_113 : decode cX4_faces 113 = .ok (.ireturn, 1) := by decide +kernel
theorem dX4_needed_0 : decode cX4_needed 0 = .ok (.iload_n 1, 1) := by decide +kernel
theorem dX4_needed_1 : decode cX4_needed 1 = .ok (.iconst (-1), 1) := by decide +kernel
theorem dX4_needed_2 : decode cX4_needed 2 = .ok (.if_icmp .eq 13, 3) := by decide +kernel
theorem dX4_needed_5 : decode cX4_needed 5 = .ok (.aload_n 0, 1) := by decide +kernel
theorem dX4_needed_6 : decode cX4_needed 6 = .ok (.iload_n 1, 1) := by decide +kernel
theorem dX4_needed_7 : decode cX4_needed 7 = .ok (.invokevirtual 85, 3) := by decide +kernel
theorem dX4_needed_10 : decode cX4_needed 10 = .ok (.ifCond .ne 5, 3) := by decide +kernel
theorem dX4_needed_13 : decode cX4_needed 13 = .ok (.iconst (-1), 1) := by decide +kernel
theorem dX4_needed_14 : decode cX4_needed 14 = .ok (.ireturn, 1) := by decide +kernel
theorem dX4_needed_15 : decode cX4_needed 15 = .ok (.aload_n 0, 1) := by decide +kernel
theorem dX4_needed_16 : decode cX4_needed 16 = .ok (.invokevirtual 199, 3) := by decide +kernel
theorem dX4_needed_19 : decode cX4_needed 19 = .ok (.istore_n 2, 1) := by decide +kernel
theorem dX4_needed_20 : decode cX4_needed 20 = .ok (.iload_n 2, 1) := by decide +kernel
theorem dX4_needed_21 : decode cX4_needed 21 = .ok (.bipush (-9), 2) := by decide +kernel
theorem dX4_needed_23 : decode cX4_needed 23 = .ok (.if_icmp .eq 8, 3) := by decide +kernel
theorem dX4_needed_26 : decode cX4_needed 26 = .ok (.iload_n 1, 1) := by decide +kernel
theorem dX4_needed_27 : decode cX4_needed 27 = .ok (.iconst (-1), 1) := by decide +kernel
theorem dX4_needed_28 : decode cX4_needed 28 = .ok (.if_icmp .ne 5, 3) := by decide +kernel
theorem dX4_needed_31 : decode cX4_needed 31 = .ok (.iload_n 2, 1) := by decide +kernel
theorem dX4_needed_32 : decode cX4_needed 32 = .ok (.ireturn, 1) := by decide +kernel
theorem dX4_needed_33 : decode cX4_needed 33 = .ok (.aload_n 0, 1) := by decide +kernel
theorem dX4_needed_34 : decode cX4_needed 34 = .ok (.getfield 33, 3) := by decide +kernel
theorem dX4_needed_37 : decode cX4_needed 37 = .ok (.getfield 104, 3) := by decide +kernel
theorem dX4_needed_40 : decode cX4_needed 40 = .ok (.iload_n 1, 1) := by decide +kernel
theorem dX4_needed_41 : decode cX4_needed 41 = .ok (.iaload, 1) := by decide +kernel
theorem dX4_needed_42 : decode cX4_needed 42 = .ok (.ireturn, 1) := by decide +kernel
theorem dX4_stubble_0 : decode cX4_stubble 0 = .ok (.aload_n 0, 1) := by decide +kernel
theorem dX4_stubble_1 : decode cX4_stubble 1 = .ok (.iload_n 1, 1) := by decide +kernel
theorem dX4_stubble_2 : decode cX4_stubble 2 = .ok (.invokevirtual 85, 3) := by decide +kernel
theorem dX4_stubble_5 : decode cX4_stubble 5 = .ok (.ifCond .eq 14, 3) := by decide +kernel
theorem dX4_stubble_8 : decode cX4_stubble 8 = .ok (.iload_n 2, 1) := by decide +kernel
theorem dX4_stubble_9 : decode cX4_stubble 9 = .ok (.ifCond .lt 10, 3) := by decide +kernel
theorem dX4_stubble_12 : decode cX4_stubble 12 = .ok (.iload_n 2, 1) := by decide +kernel
theorem dX4_stubble_13 : decode cX4_stubble 13 = .ok (.sipush 180, 3) := by decide +kernel
theorem dX4_stubble_16 : decode cX4_stubble 16 = .ok (.if_icmp .le 5, 3) := by decide +kernel
theorem dX4_stubble_19 : decode cX4_stubble 19 = .ok (.iconst (-1), 1) := by decide +kernel
theorem dX4_stubble_20 : decode cX4_stubble 20 = .ok (.ireturn, 1) := by decide +kernel
theorem dX4_stubble_21 : decode cX4_stubble 21 = .ok (.aload_n 0, 1) := by decide +kernel
theorem dX4_stubble_22 : decode cX4_stubble 22 = .ok (.getfield 82, 3) := by decide +kernel
theorem dX4_stubble_25 : decode cX4_stubble 25 = .ok (.iconst 5, 1) := by decide +kernel
theorem dX4_stubble_26 : decode cX4_stubble 26 = .ok (.if_icmp .lt 6, 3) := by decide +kernel
theorem dX4_stubble_29 : decode cX4_stubble 29 = .ok (.bipush (-3), 2) := by decide +kernel
theorem dX4_stubble_31 : decode cX4_stubble 31 = .ok (.ireturn, 1) := by decide +kernel
theorem dX4_stubble_32 : decode cX4_stubble 32 = .ok (.aload_n 0, 1) := by decide +kernel
theorem dX4_stubble_33 : decode cX4_stubble 33 = .ok (.getfield 51, 3) := by decide +kernel
theorem dX4_stubble_36 : decode cX4_stubble 36 = .ok (.aload_n 0, 1) := by decide +kernel
theorem dX4_stubble_37 : decode cX4_stubble 37 = .ok (.getfield 82, 3) := by decide +kernel
theorem dX4_stubble_40 : decode cX4_stubble 40 = .ok (.iload_n 1, 1) := by decide +kernel
theorem dX4_stubble_41 : decode cX4_stubble 41 = .ok (.iastore, 1) := by decide +kernel
theorem dX4_stubble_42 : decode cX4_stubble 42 = .ok (.aload_n 0, 1) := by decide +kernel
theorem dX4_stubble_43 : decode cX4_stubble 43 = .ok (.getfield 55, 3) := by decide +kernel
theorem dX4_stubble_46 : decode cX4_stubble 46 = .ok (.aload_n 0, 1) := by decide +kernel
theorem dX4_stubble_47 : decode cX4_stubble 47 = .ok (.getfield 82, 3) := by decide +kernel
theorem dX4_stubble_50 : decode cX4_stubble 50 = .ok (.iload_n 2, 1) := by decide +kernel
theorem dX4_stubble_51 : decode cX4_stubble 51 = .ok (.iastore, 1) := by decide +kernel
theorem dX4_stubble_52 : decode cX4_stubble 52 = .ok (.aload_n 0, 1) := by decide +kernel
theorem dX4_stubble_53 : decode cX4_stubble 53 = .ok (.dup, 1) := by decide +kernel
theorem dX4_stubble_54 : decode cX4_stubble 54 = .ok (.getfield 82, 3) := by decide +kernel
theorem dX4_stubble_57 : decode cX4_stubble 57 = .ok (.iconst 1, 1) := by decide +kernel
theorem dX4_stubble_58 : decode cX4_stubble 58 = .ok (.iadd, 1) := by decide +kernel
theorem dX4_stubble_59 : decode cX4_stubble 59 = .ok (.putfield 82, 3) := by decide +kernel
theorem dX4_stubble_62 : decode cX4_stubble 62 = .ok (.aload_n 0, 1) := by decide +kernel
theorem dX4_stubble_63 : decode cX4_stubble 63 = .ok (.getfield 82, 3) := by decide +kernel
theorem dX4_stubble_66 : decode cX4_stubble 66 = .ok (.ireturn, 1) := by decide +kernel
theorem dX4_forget_0 : decode cX4_forget 0 = .ok (.aload_n 0, 1) := by decide +kernel
theorem dX4_forget_1 : decode cX4_forget 1 = .ok (.getfield 82, 3) := by decide +kernel
theorem dX4_forget_4 : decode cX4_forget 4 = .ok (.istore_n 1, 1) := by decide +kernel
theorem dX4_forget_5 : decode cX4_forget 5 = .ok (.aload_n 0, 1) := by decide +kernel
theorem dX4_forget_6 : decode cX4_forget 6 = .ok (.iconst 0, 1) := by decide +kernel
theorem dX4_forget_7 : decode cX4_forget 7 = .ok (.putfield 82, 3) := by decide +kernel
theorem dX4_forget_10 : decode cX4_forget 10 = .ok (.iload_n 1, 1) := by decide +kernel
theorem dX4_forget_11 : decode cX4_forget 11 = .ok (.ireturn, 1) := by decide +kernel
theorem dX4_cut_0 : decode cX4_cut 0 = .ok (.aload_n 0, 1) := by decide +kernel
theorem dX4_cut_1 : decode cX4_cut 1 = .ok (.iload_n 1, 1) := by decide +kernel
theorem dX4_cut_2 : decode cX4_cut 2 = .ok (.invokevirtual 85, 3) := by decide +kernel
theorem dX4_cut_5 : decode cX4_cut 5 = .ok (.ifCond .ne 5, 3) := by decide +kernel
theorem dX4_cut_8 : decode cX4_cut 8 = .ok (.iconst (-1), 1) := by decide +kernel
theorem dX4_cut_9 : decode cX4_cut 9 = .ok (.ireturn, 1) := by decide +kernel
theorem dX4_cut_10 : decode cX4_cut 10 = .ok (.aload_n 0, 1) := by decide +kernel
theorem dX4_cut_11 : decode cX4_cut 11 = .ok (.getfield 29, 3) := by decide +kernel
theorem dX4_cut_14 : decode cX4_cut 14 = .ok (.getfield 101, 3) := by decide +kernel
theorem dX4_cut_17 : decode cX4_cut 17 = .ok (.iload_n 1, 1) := by decide +kernel
theorem dX4_cut_18 : decode cX4_cut 18 = .ok (.iaload, 1) := by decide +kernel
theorem dX4_cut_19 : decode cX4_cut 19 = .ok (.ifCond .ge 5, 3) := by decide +kernel
theorem dX4_cut_22 : decode cX4_cut 22 = .ok (.iconst 0, 1) := by decide +kernel
theorem dX4_cut_23 : decode cX4_cut 23 = .ok (.ireturn, 1) := by decide +kernel
theorem dX4_cut_24 : decode cX4_cut 24 = .ok (.iconst 0, 1) := by decide +kernel
theorem dX4_cut_25 : decode cX4_cut 25 = .ok (.istore_n 2, 1) := by decide +kernel
theorem dX4_cut_26 : decode cX4_cut 26 = .ok (.iconst 0, 1) := by decide +kernel
theorem dX4_cut_27 : decode cX4_cut 27 = .ok (.istore_n 3, 1) := by decide +kernel
theorem dX4_cut_28 : decode cX4_cut 28 = .ok (.iload_n 3, 1) := by decide +kernel
theorem dX4_cut_29 : decode cX4_cut 29 = .ok (.aload_n 0, 1) := by decide +kernel
theorem dX4_cut_30 : decode cX4_cut 30 = .ok (.getfield 19, 3) := by decide +kernel
theorem dX4_cut_33 : decode cX4_cut 33 = .ok (.getfield 176, 3) := by decide +kernel
theorem dX4_cut_36 : decode cX4_cut 36 = .ok (.if_icmp .ge 33, 3) := by decide +kernel
theorem dX4_cut_39 : decode cX4_cut 39 = .ok (.aload_n 0, 1) := by decide +kernel
theorem dX4_cut_40 : decode cX4_cut 40 = .ok (.iload_n 1, 1) := by decide +kernel
theorem dX4_cut_41 : decode cX4_cut 41 = .ok (.aload_n 0, 1) := by decide +kernel
theorem dX4_cut_42 : decode cX4_cut 42 = .ok (.aload_n 0, 1) := by decide +kernel
theorem dX4_cut_43 : decode cX4_cut 43 = .ok (.getfield 29, 3) := by decide +kernel
theorem dX4_cut_46 : decode cX4_cut 46 = .ok (.iload_n 1, 1) := by decide +kernel
theorem dX4_cut_47 : decode cX4_cut 47 = .ok (.iload_n 3, 1) := by decide +kernel
theorem dX4_cut_48 : decode cX4_cut 48 = .ok (.invokevirtual 202, 3) := by decide +kernel
theorem dX4_cut_51 : decode cX4_cut 51 = .ok (.invokevirtual 205, 3) := by decide +kernel
theorem dX4_cut_54 : decode cX4_cut 54 = .ok (.ifCond .eq 9, 3) := by decide +kernel
theorem dX4_cut_57 : decode cX4_cut 57 = .ok (.iload_n 2, 1) := by decide +kernel
theorem dX4_cut_58 : decode cX4_cut 58 = .ok (.iconst 1, 1) := by decide +kernel
theorem dX4_cut_59 : decode cX4_cut 59 = .ok (.iload_n 3, 1) := by decide +kernel
theorem dX4_cut_60 : decode cX4_cut 60 = .ok (.ishl, 1) := by decide +kernel
theorem dX4_cut_61 : decode cX4_cut 61 = .ok (.ior, 1) := by decide +kernel
theorem dX4_cut_62 : decode cX4_cut 62 = .ok (.istore_n 2, 1) := by decide +kernel
theorem dX4_cut_63 : decode cX4_cut 63 = .ok (.iinc 3 1, 3) := by decide +kernel
theorem dX4_cut_66 : decode cX4_cut 66 = .ok (.goto (-38), 3) := by decide +kernel
theorem dX4_cut_69 : decode cX4_cut 69 = .ok (.iload_n 2, 1) := by decide +kernel
theorem dX4_cut_70 : decode cX4_cut 70 = .ok (.ireturn, 1) := by decide +kernel
theorem dX4_odds_0 : decode cX4_odds 0 = .ok (.iload_n 1, 1) := by decide +kernel
theorem dX4_odds_1 : decode cX4_odds 1 = .ok (.ifCond .lt 27, 3) := by decide +kernel
theorem dX4_odds_4 : decode cX4_odds 4 = .ok (.iload_n 1, 1) := by decide +kernel
theorem dX4_odds_5 : decode cX4_odds 5 = .ok (.bipush 10, 2) := by decide +kernel
theorem dX4_odds_7 : decode cX4_odds 7 = .ok (.if_icmp .gt 21, 3) := by decide +kernel
theorem dX4_odds_10 : decode cX4_odds 10 = .ok (.iload_n 2, 1) := by decide +kernel
theorem dX4_odds_11 : decode cX4_odds 11 = .ok (.ifCond .lt 17, 3) := by decide +kernel
theorem dX4_odds_14 : decode cX4_odds 14 = .ok (.iload_n 2, 1) := by decide +kernel
theorem dX4_odds_15 : decode cX4_odds 15 = .ok (.bipush 6, 2) := by decide +kernel
theorem dX4_odds_17 : decode cX4_odds 17 = .ok (.if_icmp .gt 11, 3) := by decide +kernel
theorem dX4_odds_20 : decode cX4_odds 20 = .ok (.aload_n 0, 1) := by decide +kernel
theorem dX4_odds_21 : decode cX4_odds 21 = .ok (.iload_n 3, 1) := by decide +kernel
theorem dX4_odds_22 : decode cX4_odds 22 = .ok (.invokevirtual 85, 3) := by decide +kernel
theorem dX4_odds_25 : decode cX4_odds 25 = .ok (.ifCond .ne 5, 3) := by decide +kernel
theorem dX4_odds_28 : decode cX4_odds 28 = .ok (.iconst (-1), 1) := by decide +kernel
theorem dX4_odds_29 : decode cX4_odds 29 = .ok (.ireturn, 1) := by decide +kernel
theorem dX4_odds_30 : decode cX4_odds 30 = .ok (.iload 4, 2) := by decide +kernel
theorem dX4_odds_32 : decode cX4_odds 32 = .ok (.invokestatic 208, 3) := by decide +kernel
theorem dX4_odds_35 : decode cX4_odds 35 = .ok (.ifCond .eq 12, 3) := by decide +kernel
theorem dX4_odds_38 : decode cX4_odds 38 = .ok (.iload 5, 2) := by decide +kernel
theorem dX4_odds_40 : decode cX4_odds 40 = .ok (.iconst 2, 1) := by decide +kernel
theorem dX4_odds_41 : decode cX4_odds 41 = .ok (.invokestatic 155, 3) := by decide +kernel
theorem dX4_odds_44 : decode cX4_odds 44 = .ok (.ifCond .ne 5, 3) := by decide +kernel
theorem dX4_odds_47 : decode cX4_odds 47 = .ok (.iconst (-1), 1) := by decide +kernel
theorem dX4_odds_48 : decode cX4_odds 48 = .ok (.ireturn, 1) := by decide +kernel
theorem dX4_odds_49 : decode cX4_odds 49 = .ok (.iconst 1, 1) := by decide +kernel
theorem dX4_odds_50 : decode cX4_odds 50 = .ok (.istore 6, 2) := by decide +kernel
theorem dX4_odds_52 : decode cX4_odds 52 = .ok (.iconst 0, 1) := by decide +kernel
theorem dX4_odds_53 : decode cX4_odds 53 = .ok (.istore 7, 2) := by decide +kernel
theorem dX4_odds_55 : decode cX4_odds 55 = .ok (.iload 7, 2) := by decide +kernel
theorem dX4_odds_57 : decode cX4_odds 57 = .ok (.iload_n 2, 1) := by decide +kernel
theorem dX4_odds_58 : decode cX4_odds 58 = .ok (.if_icmp .ge 16, 3) := by decide +kernel
theorem dX4_odds_61 : decode cX4_odds 61 = .ok (.iload 6, 2) := by decide +kernel
theorem dX4_odds_63 : decode cX4_odds 63 = .ok (.bipush 10, 2) := by decide +kernel
theorem dX4_odds_65 : decode cX4_odds 65 = .ok (.imul, 1) := by decide +kernel
theorem dX4_odds_66 : decode cX4_odds 66 = .ok (.istore 6, 2) := by decide +kernel
theorem dX4_odds_68 : decode cX4_odds 68 = .ok (.iinc 7 1, 3) := by decide +kernel
theorem dX4_odds_71 : decode cX4_odds 71 = .ok (.goto (-16), 3) := by decide +kernel
theorem dX4_odds_74 : decode cX4_odds 74 = .ok (.aload_n 0, 1) := by decide +kernel
theorem dX4_odds_75 : decode cX4_odds 75 = .ok (.iload_n 1, 1) := by decide +kernel
theorem dX4_odds_76 : decode cX4_odds 76 = .ok (.iload_n 2, 1) := by decide +kernel
theorem dX4_odds_77 : decode cX4_odds 77 = .ok (.iload_n 3, 1) := by decide +kernel
theorem dX4_odds_78 : decode cX4_odds 78 = .ok (.iload 4, 2) := by decide +kernel
theorem dX4_odds_80 : decode cX4_odds 80 = .ok (.invokevirtual 211, 3) := by decide +kernel
theorem dX4_odds_83 : decode cX4_odds 83 = .ok (.iload 6, 2) := by decide +kernel
theorem dX4_odds_85 : decode cX4_odds 85 = .ok (.iload 5, 2) := by decide +kernel
theorem dX4_odds_87 : decode cX4_odds 87 = .ok (.invokestatic 215, 3) := by decide +kernel
theorem dX4_odds_90 : decode cX4_odds 90 = .ok (.ireturn, 1) := by decide +kernel
theorem dX4_rich_0 : decode cX4_rich 0 = .ok (.aload_n 0, 1) := by decide +kernel
theorem dX4_rich_1 : decode cX4_rich 1 = .ok (.iload_n 1, 1) := by decide +kernel
theorem dX4_rich_2 : decode cX4_rich 2 = .ok (.invokevirtual 85, 3) := by decide +kernel
theorem dX4_rich_5 : decode cX4_rich 5 = .ok (.ifCond .eq 10, 3) := by decide +kernel
theorem dX4_rich_8 : decode cX4_rich 8 = .ok (.iload_n 2, 1) := by decide +kernel
theorem dX4_rich_9 : decode cX4_rich 9 = .ok (.invokestatic 208, 3) := by decide +kernel
theorem dX4_rich_12 : decode cX4_rich 12 = .ok (.ifCond .ne 5, 3) := by decide +kernel
theorem dX4_rich_15 : decode cX4_rich 15 = .ok (.iconst (-1), 1) := by decide +kernel
theorem dX4_rich_16 : decode cX4_rich 16 = .ok (.ireturn, 1) := by decide +kernel
theorem dX4_rich_17 : decode cX4_rich 17 = .ok (.aload_n 0, 1) := by decide +kernel
theorem dX4_rich_18 : decode cX4_rich 18 = .ok (.aload_n 0, 1) := by decide +kernel
theorem dX4_rich_19 : decode cX4_rich 19 = .ok (.getfield 29, 3) := by decide +kernel
theorem dX4_rich_22 : decode cX4_rich 22 = .ok (.iload_n 1, 1) := by decide +kernel
theorem dX4_rich_23 : decode cX4_rich 23 = .ok (.invokevirtual 163, 3) := by decide +kernel
theorem dX4_rich_26 : decode cX4_rich 26 = .ok (.istore_n 3, 1) := by decide +kernel
theorem dX4_rich_27 : decode cX4_rich 27 = .ok (.aload_n 0, 1) := by decide +kernel
theorem dX4_rich_28 : decode cX4_rich 28 = .ok (.getfield 29, 3) := by decide +kernel
theorem dX4_rich_31 : decode cX4_rich 31 = .ok (.getfield 132, 3) := by decide +kernel
theorem dX4_rich_34 : decode cX4_rich 34 = .ok (.iload_n 1, 1) := by decide +kernel
theorem dX4_rich_35 : decode cX4_rich 35 = .ok (.iaload, 1) := by decide +kernel
theorem dX4_rich_36 : decode cX4_rich 36 = .ok (.istore 4, 2) := by decide +kernel
theorem dX4_rich_38 : decode cX4_rich 38 = .ok (.iconst 0, 1) := by decide +kernel
theorem dX4_rich_39 : decode cX4_rich 39 = .ok (.istore 5, 2) := by decide +kernel
theorem dX4_rich_41 : decode cX4_rich 41 = .ok (.iload 5, 2) := by decide +kernel
theorem dX4_rich_43 : decode cX4_rich 43 = .ok (.sipush 400, 3) := by decide +kernel
theorem dX4_rich_46 : decode cX4_rich 46 = .ok (.if_icmp .gt 26, 3) := by decide +kernel
theorem dX4_rich_49 : decode cX4_rich 49 = .ok (.iload 4, 2) := by decide +kernel
theorem dX4_rich_51 : decode cX4_rich 51 = .ok (.iload_n 2, 1) := by decide +kernel
theorem dX4_rich_52 : decode cX4_rich 52 = .ok (.if_icmp .lt 6, 3) := by decide +kernel
theorem dX4_rich_55 : decode cX4_rich 55 = .ok (.iload 5, 2) := by decide +kernel
theorem dX4_rich_57 : decode cX4_rich 57 = .ok (.ireturn, 1) := by decide +kernel
theorem dX4_rich_58 : decode cX4_rich 58 = .ok (.iload 4, 2) := by decide +kernel
theorem dX4_rich_60 : decode cX4_rich 60 = .ok (.iload_n 3, 1) := by decide +kernel
theorem dX4_rich_61 : decode cX4_rich 61 = .ok (.invokestatic 166, 3) := by decide +kernel
theorem dX4_rich_64 : decode cX4_rich 64 = .ok (.istore 4, 2) := by decide +kernel
theorem dX4_rich_66 : decode cX4_rich 66 = .ok (.iinc 5 1, 3) := by decide +kernel
theorem dX4_rich_69 : decode cX4_rich 69 = .ok (.goto (-28), 3) := by decide +kernel
theorem dX4_rich_72 : decode cX4_rich 72 = .ok (.bipush (-9), 2) := by decide +kernel
theorem dX4_rich_74 : decode cX4_rich 74 = .ok (.ireturn, 1) := by decide +kernel
theorem dX4_poor_0 : decode cX4_poor 0 = .ok (.bipush (-9), 2) := by decide +kernel
theorem dX4_poor_2 : decode cX4_poor 2 = .ok (.istore_n 1, 1) := by decide +kernel
theorem dX4_poor_3 : decode cX4_poor 3 = .ok (.iconst 0, 1) := by decide +kernel
theorem dX4_poor_4 : decode cX4_poor 4 = .ok (.istore_n 2, 1) := by decide +kernel
theorem dX4_poor_5 : decode cX4_poor 5 = .ok (.iload_n 2, 1) := by decide +kernel
theorem dX4_poor_6 : decode cX4_poor 6 = .ok (.aload_n 0, 1) := by decide +kernel
theorem dX4_poor_7 : decode cX4_poor 7 = .ok (.getfield 19, 3) := by decide +kernel
theorem dX4_poor_10 : decode cX4_poor 10 = .ok (.getfield 76, 3) := by decide +kernel
theorem dX4_poor_13 : decode cX4_poor 13 = .ok (.if_icmp .ge 34, 3) := by decide +kernel
theorem dX4_poor_16 : decode cX4_poor 16 = .ok (.aload_n 0, 1) := by decide +kernel
theorem dX4_poor_17 : decode cX4_poor 17 = .ok (.iload_n 2, 1) := by decide +kernel
theorem dX4_poor_18 : decode cX4_poor 18 = .ok (.invokevirtual 219, 3) := by decide +kernel
theorem dX4_poor_21 : decode cX4_poor 21 = .ok (.istore_n 3, 1) := by decide +kernel
theorem dX4_poor_22 : decode cX4_poor 22 = .ok (.iload_n 3, 1) := by decide +kernel
theorem dX4_poor_23 : decode cX4_poor 23 = .ok (.bipush (-9), 2) := by decide +kernel
theorem dX4_poor_25 : decode cX4_poor 25 = .ok (.if_icmp .eq 16, 3) := by decide +kernel
theorem dX4_poor_28 : decode cX4_poor 28 = .ok (.iload_n 1, 1) := by decide +kernel
theorem dX4_poor_29 : decode cX4_poor 29 = .ok (.bipush (-9), 2) := by decide +kernel
theorem dX4_poor_31 : decode cX4_poor 31 = .ok (.if_icmp .eq 8, 3) := by decide +kernel
theorem dX4_poor_34 : decode cX4_poor 34 = .ok (.iload_n 3, 1) := by decide +kernel
theorem dX4_poor_35 : decode cX4_poor 35 = .ok (.iload_n 1, 1) := by decide +kernel
theorem dX4_poor_36 : decode cX4_poor 36 = .ok (.if_icmp .ge 5, 3) := by decide +kernel
theorem dX4_poor_39 : decode cX4_poor 39 = .ok (.iload_n 3, 1) := by decide +kernel
theorem dX4_poor_40 : decode cX4_poor 40 = .ok (.istore_n 1, 1) := by decide +kernel
theorem dX4_poor_41 : decode cX4_poor 41 = .ok (.iinc 2 1, 3) := by decide +kernel
theorem dX4_poor_44 : decode cX4_poor 44 = .ok (.goto (-39), 3) := by decide +kernel
theorem dX4_poor_47 : decode cX4_poor 47 = .ok (.iload_n 1, 1) := by decide +kernel
theorem dX4_poor_48 : decode cX4_poor 48 = .ok (.ireturn, 1) := by decide +kernel
theorem dX4_share_0 : decode cX4_share 0 = .ok (.aload_n 0, 1) := by decide +kernel
theorem dX4_share_1 : decode cX4_share 1 = .ok (.iload_n 1, 1) := by decide +kernel
theorem dX4_share_2 : decode cX4_share 2 = .ok (.invokevirtual 85, 3) := by decide +kernel
theorem dX4_share_5 : decode cX4_share 5 = .ok (.ifCond .eq 11, 3) := by decide +kernel
theorem dX4_share_8 : decode cX4_share 8 = .ok (.iload_n 2, 1) := by decide +kernel
theorem dX4_share_9 : decode cX4_share 9 = .ok (.iconst 2, 1) := by decide +kernel
theorem dX4_share_10 : decode cX4_share 10 = .ok (.invokestatic 155, 3) := by decide +kernel
theorem dX4_share_13 : decode cX4_share 13 = .ok (.ifCond .ne 5, 3) := by decide +kernel
theorem dX4_share_16 : decode cX4_share 16 = .ok (.iconst (-1), 1) := by decide +kernel
theorem dX4_share_17 : decode cX4_share 17 = .ok (.ireturn, 1) := by decide +kernel
theorem dX4_share_18 : decode cX4_share 18 = .ok (.aload_n 0, 1) := by decide +kernel
theorem dX4_share_19 : decode cX4_share 19 = .ok (.aload_n 0, 1) := by decide +kernel
theorem dX4_share_20 : decode cX4_share 20 = .ok (.getfield 29, 3) := by decide +kernel
theorem dX4_share_23 : decode cX4_share 23 = .ok (.iload_n 1, 1) := by decide +kernel
theorem dX4_share_24 : decode cX4_share 24 = .ok (.invokevirtual 129, 3) := by decide +kernel
theorem dX4_share_27 : decode cX4_share 27 = .ok (.aload_n 0, 1) := by decide +kernel
theorem dX4_share_28 : decode cX4_share 28 = .ok (.invokevirtual 148, 3) := by decide +kernel
theorem dX4_share_31 : decode cX4_share 31 = .ok (.iload_n 2, 1) := by decide +kernel
theorem dX4_share_32 : decode cX4_share 32 = .ok (.invokestatic 215, 3) := by decide +kernel
theorem dX4_share_35 : decode cX4_share 35 = .ok (.ireturn, 1) := by decide +kernel
theorem dX4_rate_0 : decode cX4_rate 0 = .ok (.aload_n 0, 1) := by decide +kernel
theorem dX4_rate_1 : decode cX4_rate 1 = .ok (.iload_n 2, 1) := by decide +kernel
theorem dX4_rate_2 : decode cX4_rate 2 = .ok (.invokevirtual 85, 3) := by decide +kernel
theorem dX4_rate_5 : decode cX4_rate 5 = .ok (.ifCond .ne 6, 3) := by decide +kernel
theorem dX4_rate_8 : decode cX4_rate 8 = .ok (.ldc 121, 2) := by decide +kernel
theorem dX4_rate_10 : decode cX4_rate 10 = .ok (.ireturn, 1) := by decide +kernel
theorem dX4_rate_11 : decode cX4_rate 11 = .ok (.iload_n 1, 1) := by decide +kernel
theorem dX4_rate_12 : decode cX4_rate 12 = .ok (.tableswitch 76 0 5 #[40, 46, 52, 58, 64, 70], 40) := by decide +kernel
theorem dX4_rate_52 : decode cX4_rate 52 = .ok (.aload_n 0, 1) := by decide +kernel
theorem dX4_rate_53 : decode cX4_rate 53 = .ok (.iload_n 2, 1) := by decide +kernel
theorem dX4_rate_54 : decode cX4_rate 54 = .ok (.invokevirtual 223, 3) := by decide +kernel
theorem dX4_rate_57 : decode cX4_rate 57 = .ok (.ireturn, 1) := by decide +kernel
theorem dX4_rate_58 : decode cX4_rate 58 = .ok (.aload_n 0, 1) := by decide +kernel
theorem dX4_rate_59 : decode cX4_rate 59 = .ok (.iload_n 2, 1) := by decide +kernel
theorem dX4_rate_60 : decode cX4_rate 60 = .ok (.invokevirtual 226, 3) := by decide +kernel
theorem dX4_rate_63 : decode cX4_rate 63 = .ok (.ireturn, 1) := by decide +kernel
theorem dX4_rate_64 : decode cX4_rate 64 = .ok (.aload_n 0, 1) := by decide +kernel
theorem dX4_rate_65 : decode cX4_rate 65 = .ok (.iload_n 2, 1) := by decide +kernel
theorem dX4_rate_66 : decode cX4_rate 66 = .ok (.invokevirtual 229, 3) := by decide +kernel
theorem dX4_rate_69 : decode cX4_rate 69 = .ok (.ireturn, 1) := by decide +kernel
theorem dX4_rate_70 : decode cX4_rate 70 = .ok (.aload_n 0, 1) := by decide +kernel
theorem dX4_rate_71 : decode cX4_rate 71 = .ok (.iload_n 2, 1) := by decide +kernel
theorem dX4_rate_72 : decode cX4_rate 72 = .ok (.invokevirtual 232, 3) := by decide +kernel
theorem dX4_rate_75 : decode cX4_rate 75 = .ok (.ireturn, 1) := by decide +kernel
theorem dX4_rate_76 : decode cX4_rate 76 = .ok (.aload_n 0, 1) := by decide +kernel
theorem dX4_rate_77 : decode cX4_rate 77 = .ok (.iload_n 2, 1) := by decide +kernel
theorem dX4_rate_78 : decode cX4_rate 78 = .ok (.invokevirtual 235, 3) := by decide +kernel
theorem dX4_rate_81 : decode cX4_rate 81 = .ok (.ireturn, 1) := by decide +kernel
theorem dX4_rate_82 : decode cX4_rate 82 = .ok (.aload_n 0, 1) := by decide +kernel
theorem dX4_rate_83 : decode cX4_rate 83 = .ok (.iload_n 2, 1) := by decide +kernel
theorem dX4_rate_84 : decode cX4_rate 84 = .ok (.invokevirtual 238, 3) := by decide +kernel
theorem dX4_rate_87 : decode cX4_rate 87 = .ok (.ireturn, 1) := by decide +kernel
theorem dX4_rate_88 : decode cX4_rate 88 = .ok (.ldc 121, 2) := by decide +kernel
theorem dX4_rate_90 : decode cX4_rate 90 = .ok (.ireturn, 1) := by decide +kernel
theorem dX4_keep_0 : decode cX4_keep 0 = .ok (.iload_n 1, 1) := by decide +kernel
theorem dX4_keep_1 : decode cX4_keep 1 = .ok (.iconst 2, 1) := by decide +kernel
theorem dX4_keep_2 : decode cX4_keep 2 = .ok (.invokestatic 155, 3) := by decide +kernel
theorem dX4_keep_5 : decode cX4_keep 5 = .ok (.ifCond .ne 5, 3) := by decide +kernel
theorem dX4_keep_8 : decode cX4_keep 8 = .ok (.iconst (-1), 1) := by decide +kernel
theorem dX4_keep_9 : decode cX4_keep 9 = .ok (.ireturn, 1) := by decide +kernel
theorem dX4_keep_10 : decode cX4_keep 10 = .ok (.aload_n 0, 1) := by decide +kernel
theorem dX4_keep_11 : decode cX4_keep 11 = .ok (.getfield 43, 3) := by decide +kernel
theorem dX4_keep_14 : decode cX4_keep 14 = .ok (.iload_n 1, 1) := by decide +kernel
theorem dX4_keep_15 : decode cX4_keep 15 = .ok (.aaload, 1) := by decide +kernel
theorem dX4_keep_16 : decode cX4_keep 16 = .ok (.aload_n 0, 1) := by decide +kernel
theorem dX4_keep_17 : decode cX4_keep 17 = .ok (.getfield 29, 3) := by decide +kernel
theorem dX4_keep_20 : decode cX4_keep 20 = .ok (.invokevirtual 173, 3) := by decide +kernel
theorem dX4_keep_23 : decode cX4_keep 23 = .ok (.aload_n 0, 1) := by decide +kernel
theorem dX4_keep_24 : decode cX4_keep 24 = .ok (.getfield 47, 3) := by decide +kernel
theorem dX4_keep_27 : decode cX4_keep 27 = .ok (.iload_n 1, 1) := by decide +kernel
theorem dX4_keep_28 : decode cX4_keep 28 = .ok (.iconst 1, 1) := by decide +kernel
theorem dX4_keep_29 : decode cX4_keep 29 = .ok (.bastore, 1) := by decide +kernel
theorem dX4_keep_30 : decode cX4_keep 30 = .ok (.aload_n 0, 1) := by decide +kernel
theorem dX4_keep_31 : decode cX4_keep 31 = .ok (.getfield 29, 3) := by decide +kernel
theorem dX4_keep_34 : decode cX4_keep 34 = .ok (.getfield 135, 3) := by decide +kernel
theorem dX4_keep_37 : decode cX4_keep 37 = .ok (.ireturn, 1) := by decide +kernel
theorem dX4_back_0 : decode cX4_back 0 = .ok (.iload_n 1, 1) := by decide +kernel
theorem dX4_back_1 : decode cX4_back 1 = .ok (.iconst 2, 1) := by decide +kernel
theorem dX4_back_2 : decode cX4_back 2 = .ok (.invokestatic 155, 3) := by decide +kernel
theorem dX4_back_5 : decode cX4_back 5 = .ok (.ifCond .ne 5, 3) := by decide +kernel
theorem dX4_back_8 : decode cX4_back 8 = .ok (.iconst (-1), 1) := by decide +kernel
theorem dX4_back_9 : decode cX4_back 9 = .ok (.ireturn, 1) := by decide +kernel
theorem dX4_back_10 : decode cX4_back 10 = .ok (.aload_n 0, 1) := by decide +kernel
theorem dX4_back_11 : decode cX4_back 11 = .ok (.getfield 47, 3) := by decide +kernel
theorem dX4_back_14 : decode cX4_back 14 = .ok (.iload_n 1, 1) := by decide +kernel
theorem dX4_back_15 : decode cX4_back 15 = .ok (.baload, 1) := by decide +kernel
theorem dX4_back_16 : decode cX4_back 16 = .ok (.ifCond .ne 6, 3) := by decide +kernel
theorem dX4_back_19 : decode cX4_back 19 = .ok (.bipush (-2), 2) := by decide +kernel
theorem dX4_back_21 : decode cX4_back 21 = .ok (.ireturn, 1) := by decide +kernel
theorem dX4_back_22 : decode cX4_back 22 = .ok (.aload_n 0, 1) := by decide +kernel
theorem dX4_back_23 : decode cX4_back 23 = .ok (.getfield 29, 3) := by decide +kernel
theorem dX4_back_26 : decode cX4_back 26 = .ok (.aload_n 0, 1) := by decide +kernel
theorem dX4_back_27 : decode cX4_back 27 = .ok (.getfield 43, 3) := by decide +kernel
theorem dX4_back_30 : decode cX4_back 30 = .ok (.iload_n 1, 1) := by decide +kernel
theorem dX4_back_31 : decode cX4_back 31 = .ok (.aaload, 1) := by decide +kernel
theorem dX4_back_32 : decode cX4_back 32 = .ok (.invokevirtual 173, 3) := by decide +kernel
theorem dX4_back_35 : decode cX4_back 35 = .ok (.aload_n 0, 1) := by decide +kernel
theorem dX4_back_36 : decode cX4_back 36 = .ok (.getfield 39, 3) := by decide +kernel
theorem dX4_back_39 : decode cX4_back 39 = .ok (.iconst 0, 1) := by decide +kernel
theorem dX4_back_40 : decode cX4_back 40 = .ok (.putfield 79, 3) := by decide +kernel
theorem dX4_back_43 : decode cX4_back 43 = .ok (.aload_n 0, 1) := by decide +kernel
theorem dX4_back_44 : decode cX4_back 44 = .ok (.getfield 29, 3) := by decide +kernel
theorem dX4_back_47 : decode cX4_back 47 = .ok (.getfield 135, 3) := by decide +kernel
theorem dX4_back_50 : decode cX4_back 50 = .ok (.ireturn, 1) := by decide +kernel
theorem dX4_count_0 : decode cX4_count 0 = .ok (.iload_n 1, 1) := by decide +kernel
theorem dX4_count_1 : decode cX4_count 1 = .ok (.tableswitch 60 0 3 #[31, 39, 47, 52], 31) := by decide +kernel
theorem dX4_count_32 : decode cX4_count 32 = .ok (.aload_n 0, 1) := by decide +kernel
theorem dX4_count_33 : decode cX4_count 33 = .ok (.getfield 19, 3) := by decide +kernel
theorem dX4_count_36 : decode cX4_count 36 = .ok (.getfield 176, 3) := by decide +kernel
theorem dX4_count_39 : decode cX4_count 39 = .ok (.ireturn, 1) := by decide +kernel
theorem dX4_count_40 : decode cX4_count 40 = .ok (.aload_n 0, 1) := by decide +kernel
theorem dX4_count_41 : decode cX4_count 41 = .ok (.getfield 19, 3) := by decide +kernel
theorem dX4_count_44 : decode cX4_count 44 = .ok (.getfield 76, 3) := by decide +kernel
theorem dX4_count_47 : decode cX4_count 47 = .ok (.ireturn, 1) := by decide +kernel
theorem dX4_count_48 : decode cX4_count 48 = .ok (.aload_n 0, 1) := by decide +kernel
theorem dX4_count_49 : decode cX4_count 49 = .ok (.getfield 82, 3) := by decide +kernel
theorem dX4_count_52 : decode cX4_count 52 = .ok (.ireturn, 1) := by decide +kernel
theorem dX4_count_53 : decode cX4_count 53 = .ok (.aload_n 0, 1) := by decide +kernel
theorem dX4_count_54 : decode cX4_count 54 = .ok (.getfield 10, 3) := by decide +kernel
theorem dX4_count_57 : decode cX4_count 57 = .ok (.getfield 65, 3) := by decide +kernel
theorem dX4_count_60 : decode cX4_count 60 = .ok (.ireturn, 1) := by decide +kernel
theorem dX4_count_61 : decode cX4_count 61 = .ok (.iconst (-1), 1) := by decide +kernel
theorem dX4_count_62 : decode cX4_count 62 = .ok (.ireturn, 1) := by decide +kernel
theorem dX4_trace_0 : decode cX4_trace 0 = .ok (.aload_n 0, 1) := by decide +kernel
theorem dX4_trace_1 : decode cX4_trace 1 = .ok (.getfield 241, 3) := by decide +kernel
theorem dX4_trace_4 : decode cX4_trace 4 = .ok (.lreturn, 1) := by decide +kernel
theorem dX4_isMan_0 : decode cX4_isMan 0 = .ok (.iload_n 1, 1) := by decide +kernel
theorem dX4_isMan_1 : decode cX4_isMan 1 = .ok (.aload_n 0, 1) := by decide +kernel
theorem dX4_isMan_2 : decode cX4_isMan 2 = .ok (.getfield 19, 3) := by decide +kernel
theorem dX4_isMan_5 : decode cX4_isMan 5 = .ok (.getfield 76, 3) := by decide +kernel
theorem dX4_isMan_8 : decode cX4_isMan 8 = .ok (.invokestatic 155, 3) := by decide +kernel
theorem dX4_isMan_11 : decode cX4_isMan 11 = .ok (.ireturn, 1) := by decide +kernel
theorem dX4_isCrop_0 : decode cX4_isCrop 0 = .ok (.iload_n 1, 1) := by decide +kernel
theorem dX4_isCrop_1 : decode cX4_isCrop 1 = .ok (.aload_n 0, 1) := by decide +kernel
theorem dX4_isCrop_2 : decode cX4_isCrop 2 = .ok (.getfield 19, 3) := by decide +kernel
theorem dX4_isCrop_5 : decode cX4_isCrop 5 = .ok (.getfield 176, 3) := by decide +kernel
theorem dX4_isCrop_8 : decode cX4_isCrop 8 = .ok (.invokestatic 155, 3) := by decide +kernel
theorem dX4_isCrop_11 : decode cX4_isCrop 11 = .ok (.ireturn, 1) := by decide +kernel
theorem dX4_isBelow_0 : decode cX4_isBelow 0 = .ok (.iload_n 0, 1) := by decide +kernel
theorem dX4_isBelow_1 : decode cX4_isBelow 1 = .ok (.ifCond .lt 12, 3) := by decide +kernel
theorem dX4_isBelow_4 : decode cX4_isBelow 4 = .ok (.iload_n 0, 1) := by decide +kernel
theorem dX4_isBelow_5 : decode cX4_isBelow 5 = .ok (.iload_n 1, 1) := by decide +kernel
theorem dX4_isBelow_6 : decode cX4_isBelow 6 = .ok (.if_icmp .ge 7, 3) := by decide +kernel
theorem dX4_isBelow_9 : decode cX4_isBelow 9 = .ok (.iconst 1, 1) := by decide +kernel
theorem dX4_isBelow_10 : decode cX4_isBelow 10 = .ok (.goto 4, 3) := by decide +kernel
theorem dX4_isBelow_13 : decode cX4_isBelow 13 = .ok (.iconst 0, 1) := by decide +kernel
theorem dX4_isBelow_14 : decode cX4_isBelow 14 = .ok (.ireturn, 1) := by decide +kernel
theorem dX4_isStorable_0 : decode cX4_isStorable 0 = .ok (.iload_n 0, 1) := by decide +kernel
theorem dX4_isStorable_1 : decode cX4_isStorable 1 = .ok (.sipush (-9999), 3) := by decide +kernel
theorem dX4_isStorable_4 : decode cX4_isStorable 4 = .ok (.if_icmp .lt 14, 3) := by decide +kernel
theorem dX4_isStorable_7 : decode cX4_isStorable 7 = .ok (.iload_n 0, 1) := by decide +kernel
theorem dX4_isStorable_8 : decode cX4_isStorable 8 = .ok (.sipush 9999, 3) := by decide +kernel
theorem dX4_isStorable_11 : decode cX4_isStorable 11 = .ok (.if_icmp .gt 7, 3) := by decide +kernel
theorem dX4_isStorable_14 : decode cX4_isStorable 14 = .ok (.iconst 1, 1) := by decide +kernel
theorem dX4_isStorable_15 : decode cX4_isStorable 15 = .ok (.goto 4, 3) := by decide +kernel
theorem dX4_isStorable_18 : decode cX4_isStorable 18 = .ok (.iconst 0, 1) := by decide +kernel
theorem dX4_isStorable_19 : decode cX4_isStorable 19 = .ok (.ireturn, 1) := by decide +kernel
theorem dX4_carriedBy_0 : decode cX4_carriedBy 0 = .ok (.aload_n 0, 1) := by decide +kernel
theorem dX4_carriedBy_1 : decode cX4_carriedBy 1 = .ok (.getfield 19, 3) := by decide +kernel
theorem dX4_carriedBy_4 : decode cX4_carriedBy 4 = .ok (.getfield 245, 3) := by decide +kernel
theorem dX4_carriedBy_7 : decode cX4_carriedBy 7 = .ok (.iload_n 3, 1) := by decide +kernel
theorem dX4_carriedBy_8 : decode cX4_carriedBy 8 = .ok (.iaload, 1) := by decide +kernel
theorem dX4_carriedBy_9 : decode cX4_carriedBy 9 = .ok (.aload_n 1, 1) := by decide +kernel
theorem dX4_carriedBy_10 : decode cX4_carriedBy 10 = .ok (.getfield 138, 3) := by decide +kernel
theorem dX4_carriedBy_13 : decode cX4_carriedBy 13 = .ok (.iadd, 1) := by decide +kernel
theorem dX4_carriedBy_14 : decode cX4_carriedBy 14 = .ok (.istore 4, 2) := by decide +kernel
theorem dX4_carriedBy_16 : decode cX4_carriedBy 16 = .ok (.iload 4, 2) := by decide +kernel
theorem dX4_carriedBy_18 : decode cX4_carriedBy 18 = .ok (.iconst 1, 1) := by decide +kernel
theorem dX4_carriedBy_19 : decode cX4_carriedBy 19 = .ok (.if_icmp .ge 5, 3) := by decide +kernel
theorem dX4_carriedBy_22 : decode cX4_carriedBy 22 = .ok (.iconst 0, 1) := by decide +kernel
theorem dX4_carriedBy_23 : decode cX4_carriedBy 23 = .ok (.ireturn, 1) := by decide +kernel
theorem dX4_carriedBy_24 : decode cX4_carriedBy 24 = .ok (.aload_n 1, 1) := by decide +kernel
theorem dX4_carriedBy_25 : decode cX4_carriedBy 25 = .ok (.getfield 107, 3) := by decide +kernel
theorem dX4_carriedBy_28 : decode cX4_carriedBy 28 = .ok (.iload_n 2, 1) := by decide +kernel
theorem dX4_carriedBy_29 : decode cX4_carriedBy 29 = .ok (.iaload, 1) := by decide +kernel
theorem dX4_carriedBy_30 : decode cX4_carriedBy 30 = .ok (.iconst 1, 1) := by decide +kernel
theorem dX4_carriedBy_31 : decode cX4_carriedBy 31 = .ok (.if_icmp .ne 17, 3) := by decide +kernel
theorem dX4_carriedBy_34 : decode cX4_carriedBy 34 = .ok (.iconst 2, 1) := by decide +kernel
theorem dX4_carriedBy_35 : decode cX4_carriedBy 35 = .ok (.aload_n 0, 1) := by decide +kernel
theorem dX4_carriedBy_36 : decode cX4_carriedBy 36 = .ok (.getfield 19, 3) := by decide +kernel
theorem dX4_carriedBy_39 : decode cX4_carriedBy 39 = .ok (.getfield 92, 3) := by decide +kernel
theorem dX4_carriedBy_42 : decode cX4_carriedBy 42 = .ok (.iload_n 2, 1) := by decide +kernel
theorem dX4_carriedBy_43 : decode cX4_carriedBy 43 = .ok (.iaload, 1) := by decide +kernel
theorem dX4_carriedBy_44 : decode cX4_carriedBy 44 = .ok (.imul, 1) := by decide +kernel
theorem dX4_carriedBy_45 : decode cX4_carriedBy 45 = .ok (.goto 12, 3) := by decide +kernel
theorem dX4_carriedBy_48 : decode cX4_carriedBy 48 = .ok (.aload_n 0, 1) := by decide +kernel
theorem dX4_carriedBy_49 : decode cX4_carriedBy 49 = .ok (.getfield 19, 3) := by decide +kernel
theorem dX4_carriedBy_52 : decode cX4_carriedBy 52 = .ok (.getfield 92, 3) := by decide +kernel
theorem dX4_carriedBy_55 : decode cX4_carriedBy 55 = .ok (.iload_n 2, 1) := by decide +kernel
theorem dX4_carriedBy_56 : decode cX4_carriedBy 56 = .ok (.iaload, 1) := by decide +kernel
theorem dX4_carriedBy_57 : decode cX4_carriedBy 57 = .ok (.istore 5, 2) := by decide +kernel
theorem dX4_carriedBy_59 : decode cX4_carriedBy 59 = .ok (.aload_n 0, 1) := by decide +kernel
theorem dX4_carriedBy_60 : decode cX4_carriedBy 60 = .ok (.getfield 19, 3) := by decide +kernel
theorem dX4_carriedBy_63 : decode cX4_carriedBy 63 = .ok (.getfield 89, 3) := by decide +kernel
theorem dX4_carriedBy_66 : decode cX4_carriedBy 66 = .ok (.iload_n 2, 1) := by decide +kernel
theorem dX4_carriedBy_67 : decode cX4_carriedBy 67 = .ok (.iaload, 1) := by decide +kernel
theorem dX4_carriedBy_68 : decode cX4_carriedBy 68 = .ok (.iconst 3, 1) := by decide +kernel
theorem dX4_carriedBy_69 : decode cX4_carriedBy 69 = .ok (.aload_n 1, 1) := by decide +kernel
theorem dX4_carriedBy_70 : decode cX4_carriedBy 70 = .ok (.getfield 104, 3) := by decide +kernel
theorem dX4_carriedBy_73 : decode cX4_carriedBy 73 = .ok (.iload_n 2, 1) := by decide +kernel
theorem dX4_carriedBy_74 : decode cX4_carriedBy 74 = .ok (.iaload, 1) := by decide +kernel
theorem dX4_carriedBy_75 : decode cX4_carriedBy 75 = .ok (.imul, 1) := by decide +kernel
theorem dX4_carriedBy_76 : decode cX4_carriedBy 76 = .ok (.iadd, 1) := by decide +kernel
theorem dX4_carriedBy_77 : decode cX4_carriedBy 77 = .ok (.istore 6, 2) := by decide +kernel
theorem dX4_carriedBy_79 : decode cX4_carriedBy 79 = .ok (.iload 5, 2) := by decide +kernel
theorem dX4_carriedBy_81 : decode cX4_carriedBy 81 = .ok (.iload 6, 2) := by decide +kernel
theorem dX4_carriedBy_83 : decode cX4_carriedBy 83 = .ok (.iload 4, 2) := by decide +kernel
theorem dX4_carriedBy_85 : decode cX4_carriedBy 85 = .ok (.idiv, 1) := by decide +kernel
theorem dX4_carriedBy_86 : decode cX4_carriedBy 86 = .ok (.imul, 1) := by decide +kernel
theorem dX4_carriedBy_87 : decode cX4_carriedBy 87 = .ok (.ireturn, 1) := by decide +kernel
theorem dX4_takenIf_0 : decode cX4_takenIf 0 = .ok (.aload_n 1, 1) := by decide +kernel
theorem dX4_takenIf_1 : decode cX4_takenIf 1 = .ok (.getfield 101, 3) := by decide +kernel
theorem dX4_takenIf_4 : decode cX4_takenIf 4 = .ok (.iload_n 2, 1) := by decide +kernel
theorem dX4_takenIf_5 : decode cX4_takenIf 5 = .ok (.iaload, 1) := by decide +kernel
theorem dX4_takenIf_6 : decode cX4_takenIf 6 = .ok (.istore 4, 2) := by decide +kernel
theorem dX4_takenIf_8 : decode cX4_takenIf 8 = .ok (.iload 4, 2) := by decide +kernel
theorem dX4_takenIf_10 : decode cX4_takenIf 10 = .ok (.ifCond .ge 5, 3) := by decide +kernel
theorem dX4_takenIf_13 : decode cX4_takenIf 13 = .ok (.iconst 0, 1) := by decide +kernel
theorem dX4_takenIf_14 : decode cX4_takenIf 14 = .ok (.ireturn, 1) := by decide +kernel
theorem dX4_takenIf_15 : decode cX4_takenIf 15 = .ok (.aload_n 0, 1) := by decide +kernel
theorem dX4_takenIf_16 : decode cX4_takenIf 16 = .ok (.aload_n 1, 1) := by decide +kernel
theorem dX4_takenIf_17 : decode cX4_takenIf 17 = .ok (.iload_n 2, 1) := by decide +kernel
theorem dX4_takenIf_18 : decode cX4_takenIf 18 = .ok (.iload_n 3, 1) := by decide +kernel
theorem dX4_takenIf_19 : decode cX4_takenIf 19 = .ok (.invokevirtual 117, 3) := by decide +kernel
theorem dX4_takenIf_22 : decode cX4_takenIf 22 = .ok (.aload_n 0, 1) := by decide +kernel
theorem dX4_takenIf_23 : decode cX4_takenIf 23 = .ok (.getfield 19, 3) := by decide +kernel
theorem dX4_takenIf_26 : decode cX4_takenIf 26 = .ok (.getfield 113, 3) := by decide +kernel
theorem dX4_takenIf_29 : decode cX4_takenIf 29 = .ok (.iload 4, 2) := by decide +kernel
theorem dX4_takenIf_31 : decode cX4_takenIf 31 = .ok (.aaload, 1) := by decide +kernel
theorem dX4_takenIf_32 : decode cX4_takenIf 32 = .ok (.iload_n 3, 1) := by decide +kernel
theorem dX4_takenIf_33 : decode cX4_takenIf 33 = .ok (.iaload, 1) := by decide +kernel
theorem dX4_takenIf_34 : decode cX4_takenIf 34 = .ok (.invokestatic 248, 3) := by decide +kernel
theorem dX4_takenIf_37 : decode cX4_takenIf 37 = .ok (.ireturn, 1) := by decide +kernel
theorem dX4_takenBy_0 : decode cX4_takenBy 0 = .ok (.aload_n 1, 1) := by decide +kernel
theorem dX4_takenBy_1 : decode cX4_takenBy 1 = .ok (.getfield 101, 3) := by decide +kernel
theorem dX4_takenBy_4 : decode cX4_takenBy 4 = .ok (.iload_n 2, 1) := by decide +kernel
theorem dX4_takenBy_5 : decode cX4_takenBy 5 = .ok (.iaload, 1) := by decide +kernel
theorem dX4_takenBy_6 : decode cX4_takenBy 6 = .ok (.istore_n 3, 1) := by decide +kernel
theorem dX4_takenBy_7 : decode cX4_takenBy 7 = .ok (.iload_n 3, 1) := by decide +kernel
theorem dX4_takenBy_8 : decode cX4_takenBy 8 = .ok (.ifCond .ge 7, 3) := by decide +kernel
theorem dX4_takenBy_11 : decode cX4_takenBy 11 = .ok (.iconst 0, 1) := by decide +kernel
theorem dX4_takenBy_12 : decode cX4_takenBy 12 = .ok (.goto 15, 3) := by decide +kernel
theorem dX4_takenBy_15 : decode cX4_takenBy 15 = .ok (.aload_n 0, 1) := by decide +kernel
theorem dX4_takenBy_16 : decode cX4_takenBy 16 = .ok (.aload_n 1, 1) := by decide +kernel
theorem dX4_takenBy_17 : decode cX4_takenBy 17 = .ok (.iload_n 2, 1) := by decide +kernel
theorem dX4_takenBy_18 : decode cX4_takenBy 18 = .ok (.aload_n 1, 1) := by decide +kernel
theorem dX4_takenBy_19 : decode cX4_takenBy 19 = .ok (.getfield 98, 3) := by decide +kernel
theorem dX4_takenBy_22 : decode cX4_takenBy 22 = .ok (.iload_n 3, 1) := by decide +kernel
theorem dX4_takenBy_23 : decode cX4_takenBy 23 = .ok (.iaload, 1) := by decide +kernel
theorem dX4_takenBy_24 : decode cX4_takenBy 24 = .ok (.invokevirtual 202, 3) := by decide +kernel
theorem dX4_takenBy_27 : decode cX4_takenBy 27 = .ok (.ireturn, 1) := by decide +kernel
theorem dX4_keptBy_0 : decode cX4_keptBy 0 = .ok (.aload_n 1, 1) := by decide +kernel
theorem dX4_keptBy_1 : decode cX4_keptBy 1 = .ok (.getfield 101, 3) := by decide +kernel
theorem dX4_keptBy_4 : decode cX4_keptBy 4 = .ok (.iload_n 2, 1) := by decide +kernel
theorem dX4_keptBy_5 : decode cX4_keptBy 5 = .ok (.iaload, 1) := by decide +kernel
theorem dX4_keptBy_6 : decode cX4_keptBy 6 = .ok (.istore_n 3, 1) := by decide +kernel
theorem dX4_keptBy_7 : decode cX4_keptBy 7 = .ok (.aload_n 0, 1) := by decide +kernel
theorem dX4_keptBy_8 : decode cX4_keptBy 8 = .ok (.getfield 19, 3) := by decide +kernel
theorem dX4_keptBy_11 : decode cX4_keptBy 11 = .ok (.getfield 113, 3) := by decide +kernel
theorem dX4_keptBy_14 : decode cX4_keptBy 14 = .ok (.iload_n 2, 1) := by decide +kernel
theorem dX4_keptBy_15 : decode cX4_keptBy 15 = .ok (.aaload, 1) := by decide +kernel
theorem dX4_keptBy_16 : decode cX4_keptBy 16 = .ok (.aload_n 1, 1) := by decide +kernel
theorem dX4_keptBy_17 : decode cX4_keptBy 17 = .ok (.getfield 98, 3) := by decide +kernel
theorem dX4_keptBy_20 : decode cX4_keptBy 20 = .ok (.iload_n 2, 1) := by decide +kernel
theorem dX4_keptBy_21 : decode cX4_keptBy 21 = .ok (.iaload, 1) := by decide +kernel
theorem dX4_keptBy_22 : decode cX4_keptBy 22 = .ok (.iaload, 1) := by decide +kernel
theorem dX4_keptBy_23 : decode cX4_keptBy 23 = .ok (.istore 4, 2) := by decide +kernel
theorem dX4_keptBy_25 : decode cX4_keptBy 25 = .ok (.iload_n 3, 1) := by decide +kernel
theorem dX4_keptBy_26 : decode cX4_keptBy 26 = .ok (.ifCond .ge 8, 3) := by decide +kernel
theorem dX4_keptBy_29 : decode cX4_keptBy 29 = .ok (.iload 4, 2) := by decide +kernel
theorem dX4_keptBy_31 : decode cX4_keptBy 31 = .ok (.goto 18, 3) := by decide +kernel
theorem dX4_keptBy_34 : decode cX4_keptBy 34 = .ok (.iload 4, 2) := by decide +kernel
theorem dX4_keptBy_36 : decode cX4_keptBy 36 = .ok (.aload_n 0, 1) := by decide +kernel
theorem dX4_keptBy_37 : decode cX4_keptBy 37 = .ok (.aload_n 1, 1) := by decide +kernel
theorem dX4_keptBy_38 : decode cX4_keptBy 38 = .ok (.iload_n 3, 1) := by decide +kernel
theorem dX4_keptBy_39 : decode cX4_keptBy 39 = .ok (.aload_n 1, 1) := by decide +kernel
theorem dX4_keptBy_40 : decode cX4_keptBy 40 = .ok (.getfield 98, 3) := by decide +kernel
theorem dX4_keptBy_43 : decode cX4_keptBy 43 = .ok (.iload_n 2, 1) := by decide +kernel
theorem dX4_keptBy_44 : decode cX4_keptBy 44 = .ok (.iaload, 1) := by decide +kernel
theorem dX4_keptBy_45 : decode cX4_keptBy 45 = .ok (.invokevirtual 202, 3) := by decide +kernel
theorem dX4_keptBy_48 : decode cX4_keptBy 48 = .ok (.isub, 1) := by decide +kernel
theorem dX4_keptBy_49 : decode cX4_keptBy 49 = .ok (.ireturn, 1) := by decide +kernel
theorem dX4_wealthOf_0 : decode cX4_wealthOf 0 = .ok (.aload_n 1, 1) := by decide +kernel
theorem dX4_wealthOf_1 : decode cX4_wealthOf 1 = .ok (.getfield 101, 3) := by decide +kernel
theorem dX4_wealthOf_4 : decode cX4_wealthOf 4 = .ok (.iload_n 2, 1) := by decide +kernel
theorem dX4_wealthOf_5 : decode cX4_wealthOf 5 = .ok (.iaload, 1) := by decide +kernel
theorem dX4_wealthOf_6 : decode cX4_wealthOf 6 = .ok (.istore_n 3, 1) := by decide +kernel
theorem dX4_wealthOf_7 : decode cX4_wealthOf 7 = .ok (.aload_n 1, 1) := by decide +kernel
theorem dX4_wealthOf_8 : decode cX4_wealthOf 8 = .ok (.getfield 98, 3) := by decide +kernel
theorem dX4_wealthOf_11 : decode cX4_wealthOf 11 = .ok (.iload_n 2, 1) := by decide +kernel
theorem dX4_wealthOf_12 : decode cX4_wealthOf 12 = .ok (.iaload, 1) := by decide +kernel
theorem dX4_wealthOf_13 : decode cX4_wealthOf 13 = .ok (.istore 4, 2) := by decide +kernel
theorem dX4_wealthOf_15 : decode cX4_wealthOf 15 = .ok (.iload_n 3, 1) := by decide +kernel
theorem dX4_wealthOf_16 : decode cX4_wealthOf 16 = .ok (.ifCond .ge 27, 3) := by decide +kernel
theorem dX4_wealthOf_19 : decode cX4_wealthOf 19 = .ok (.aload_n 0, 1) := by decide +kernel
theorem dX4_wealthOf_20 : decode cX4_wealthOf 20 = .ok (.getfield 19, 3) := by decide +kernel
theorem dX4_wealthOf_23 : decode cX4_wealthOf 23 = .ok (.getfield 113, 3) := by decide +kernel
theorem dX4_wealthOf_26 : decode cX4_wealthOf 26 = .ok (.iload_n 2, 1) := by decide +kernel
theorem dX4_wealthOf_27 : decode cX4_wealthOf 27 = .ok (.aaload, 1) := by decide +kernel
theorem dX4_wealthOf_28 : decode cX4_wealthOf 28 = .ok (.iload 4, 2) := by decide +kernel
theorem dX4_wealthOf_30 : decode cX4_wealthOf 30 = .ok (.iaload, 1) := by decide +kernel
theorem dX4_wealthOf_31 : decode cX4_wealthOf 31 = .ok (.aload_n 0, 1) := by decide +kernel
theorem dX4_wealthOf_32 : decode cX4_wealthOf 32 = .ok (.getfield 19, 3) := by decide +kernel
theorem dX4_wealthOf_35 : decode cX4_wealthOf 35 = .ok (.getfield 179, 3) := by decide +kernel
theorem dX4_wealthOf_38 : decode cX4_wealthOf 38 = .ok (.iload 4, 2) := by decide +kernel
theorem dX4_wealthOf_40 : decode cX4_wealthOf 40 = .ok (.iaload, 1) := by decide +kernel
theorem dX4_wealthOf_41 : decode cX4_wealthOf 41 = .ok (.imul, 1) := by decide +kernel
theorem dX4_wealthOf_42 : decode cX4_wealthOf 42 = .ok (.ireturn, 1) := by decide +kernel
theorem dX4_wealthOf_43 : decode cX4_wealthOf 43 = .ok (.aload_n 1, 1) := by decide +kernel
theorem dX4_wealthOf_44 : decode cX4_wealthOf 44 = .ok (.getfield 98, 3) := by decide +kernel
theorem dX4_wealthOf_47 : decode cX4_wealthOf 47 = .ok (.iload_n 3, 1) := by decide +kernel
theorem dX4_wealthOf_48 : decode cX4_wealthOf 48 = .ok (.iaload, 1) := by decide +kernel
theorem dX4_wealthOf_49 : decode cX4_wealthOf 49 = .ok (.istore 5, 2) := by decide +kernel
theorem dX4_wealthOf_51 : decode cX4_wealthOf 51 = .ok (.aload_n 0, 1) := by decide +kernel
theorem dX4_wealthOf_52 : decode cX4_wealthOf 52 = .ok (.getfield 19, 3) := by decide +kernel
theorem dX4_wealthOf_55 : decode cX4_wealthOf 55 = .ok (.getfield 113, 3) := by decide +kernel
theorem dX4_wealthOf_58 : decode cX4_wealthOf 58 = .ok (.iload_n 2, 1) := by decide +kernel
theorem dX4_wealthOf_59 : decode cX4_wealthOf 59 = .ok (.aaload, 1) := by decide +kernel
theorem dX4_wealthOf_60 : decode cX4_wealthOf 60 = .ok (.iload 4, 2) := by decide +kernel
theorem dX4_wealthOf_62 : decode cX4_wealthOf 62 = .ok (.iaload, 1) := by decide +kernel
theorem dX4_wealthOf_63 : decode cX4_wealthOf 63 = .ok (.aload_n 0, 1) := by decide +kernel
theorem dX4_wealthOf_64 : decode cX4_wealthOf 64 = .ok (.aload_n 1, 1) := by decide +kernel
theorem dX4_wealthOf_65 : decode cX4_wealthOf 65 = .ok (.iload_n 3, 1) := by decide +kernel
theorem dX4_wealthOf_66 : decode cX4_wealthOf 66 = .ok (.iload 4, 2) := by decide +kernel
theorem dX4_wealthOf_68 : decode cX4_wealthOf 68 = .ok (.invokevirtual 202, 3) := by decide +kernel
theorem dX4_wealthOf_71 : decode cX4_wealthOf 71 = .ok (.isub, 1) := by decide +kernel
theorem dX4_wealthOf_72 : decode cX4_wealthOf 72 = .ok (.istore 6, 2) := by decide +kernel
theorem dX4_wealthOf_74 : decode cX4_wealthOf 74 = .ok (.iload 6, 2) := by decide +kernel
theorem dX4_wealthOf_76 : decode cX4_wealthOf 76 = .ok (.aload_n 0, 1) := by decide +kernel
theorem dX4_wealthOf_77 : decode cX4_wealthOf 77 = .ok (.getfield 19, 3) := by decide +kernel
theorem dX4_wealthOf_80 : decode cX4_wealthOf 80 = .ok (.getfield 179, 3) := by decide +kernel
theorem dX4_wealthOf_83 : decode cX4_wealthOf 83 = .ok (.iload 4, 2) := by decide +kernel
theorem dX4_wealthOf_85 : decode cX4_wealthOf 85 = .ok (.iaload, 1) := by decide +kernel
theorem dX4_wealthOf_86 : decode cX4_wealthOf 86 = .ok (.imul, 1) := by decide +kernel
theorem dX4_wealthOf_87 : decode cX4_wealthOf 87 = .ok (.aload_n 0, 1) := by decide +kernel
theorem dX4_wealthOf_88 : decode cX4_wealthOf 88 = .ok (.aload_n 1, 1) := by decide +kernel
theorem dX4_wealthOf_89 : decode cX4_wealthOf 89 = .ok (.iload_n 2, 1) := by decide +kernel
theorem dX4_wealthOf_90 : decode cX4_wealthOf 90 = .ok (.iload 5, 2) := by decide +kernel
theorem dX4_wealthOf_92 : decode cX4_wealthOf 92 = .ok (.invokevirtual 202, 3) := by decide +kernel
theorem dX4_wealthOf_95 : decode cX4_wealthOf 95 = .ok (.aload_n 0, 1) := by decide +kernel
theorem dX4_wealthOf_96 : decode cX4_wealthOf 96 = .ok (.getfield 19, 3) := by decide +kernel
theorem dX4_wealthOf_99 : decode cX4_wealthOf 99 = .ok (.getfield 179, 3) := by decide +kernel
theorem dX4_wealthOf_102 : decode cX4_wealthOf 102 = .ok (.iload 5, 2) := by decide +kernel
theorem dX4_wealthOf_104 : decode cX4_wealthOf 104 = .ok (.iaload, 1) := by decide +kernel
theorem dX4_wealthOf_105 : decode cX4_wealthOf 105 = .ok (.imul, 1) := by decide +kernel
theorem dX4_wealthOf_106 : decode cX4_wealthOf 106 = .ok (.iadd, 1) := by decide +kernel
theorem dX4_wealthOf_107 : decode cX4_wealthOf 107 = .ok (.ireturn, 1) := by decide +kernel
theorem dX4_gainOf_0 : decode cX4_gainOf 0 = .ok (.aload_n 0, 1) := by decide +kernel
theorem dX4_gainOf_1 : decode cX4_gainOf 1 = .ok (.aload_n 1, 1) := by decide +kernel
theorem dX4_gainOf_2 : decode cX4_gainOf 2 = .ok (.iload_n 2, 1) := by decide +kernel
theorem dX4_gainOf_3 : decode cX4_gainOf 3 = .ok (.invokevirtual 129, 3) := by decide +kernel
theorem dX4_gainOf_6 : decode cX4_gainOf 6 = .ok (.aload_n 0, 1) := by decide +kernel
theorem dX4_gainOf_7 : decode cX4_gainOf 7 = .ok (.getfield 19, 3) := by decide +kernel
theorem dX4_gainOf_10 : decode cX4_gainOf 10 = .ok (.getfield 95, 3) := by decide +kernel
theorem dX4_gainOf_13 : decode cX4_gainOf 13 = .ok (.iload_n 2, 1) := by decide +kernel
theorem dX4_gainOf_14 : decode cX4_gainOf 14 = .ok (.iaload, 1) := by decide +kernel
theorem dX4_gainOf_15 : decode cX4_gainOf 15 = .ok (.isub, 1) := by decide +kernel
theorem dX4_gainOf_16 : decode cX4_gainOf 16 = .ok (.ireturn, 1) := by decide +kernel
theorem dX4_wealthOfAll_0 : decode cX4_wealthOfAll 0 = .ok (.iconst 0, 1) := by decide +kernel
theorem dX4_wealthOfAll_1 : decode cX4_wealthOfAll 1 = .ok (.istore_n 1, 1) := by decide +kernel
theorem dX4_wealthOfAll_2 : decode cX4_wealthOfAll 2 = .ok (.iconst 0, 1) := by decide +kernel
theorem dX4_wealthOfAll_3 : decode cX4_wealthOfAll 3 = .ok (.istore_n 2, 1) := by decide +kernel
theorem dX4_wealthOfAll_4 : decode cX4_wealthOfAll 4 = .ok (.iload_n 2, 1) := by decide +kernel
theorem dX4_wealthOfAll_5 : decode cX4_wealthOfAll 5 = .ok (.aload_n 0, 1) := by decide +kernel
theorem dX4_wealthOfAll_6 : decode cX4_wealthOfAll 6 = .ok (.getfield 19, 3) := by decide +kernel
theorem dX4_wealthOfAll_9 : decode cX4_wealthOfAll 9 = .ok (.getfield 76, 3) := by decide +kernel
theorem dX4_wealthOfAll_12 : decode cX4_wealthOfAll 12 = .ok (.if_icmp .ge 21, 3) := by decide +kernel
theorem dX4_wealthOfAll_15 : decode cX4_wealthOfAll 15 = .ok (.iload_n 1, 1) := by decide +kernel
theorem dX4_wealthOfAll_16 : decode cX4_wealthOfAll 16 = .ok (.aload_n 0, 1) := by decide +kernel
theorem dX4_wealthOfAll_17 : decode cX4_wealthOfAll 17 = .ok (.aload_n 0, 1) := by decide +kernel
theorem dX4_wealthOfAll_18 : decode cX4_wealthOfAll 18 = .ok (.getfield 29, 3) := by decide +kernel
theorem dX4_wealthOfAll_21 : decode cX4_wealthOfAll 21 = .ok (.iload_n 2, 1) := by decide +kernel
theorem dX4_wealthOfAll_22 : decode cX4_wealthOfAll 22 = .ok (.invokevirtual 129, 3) := by decide +kernel
theorem dX4_wealthOfAll_25 : decode cX4_wealthOfAll 25 = .ok (.iadd, 1) := by decide +kernel
theorem dX4_wealthOfAll_26 : decode cX4_wealthOfAll 26 = .ok (.istore_n 1, 1) := by decide +kernel
theorem dX4_wealthOfAll_27 : decode cX4_wealthOfAll 27 = .ok (.iinc 2 1, 3) := by decide +kernel
theorem dX4_wealthOfAll_30 : decode cX4_wealthOfAll 30 = .ok (.goto (-26), 3) := by decide +kernel
theorem dX4_wealthOfAll_33 : decode cX4_wealthOfAll 33 = .ok (.iload_n 1, 1) := by decide +kernel
theorem dX4_wealthOfAll_34 : decode cX4_wealthOfAll 34 = .ok (.ireturn, 1) := by decide +kernel
theorem dX4_ropesOfAll_0 : decode cX4_ropesOfAll 0 = .ok (.iconst 0, 1) := by decide +kernel
theorem dX4_ropesOfAll_1 : decode cX4_ropesOfAll 1 = .ok (.istore_n 1, 1) := by decide +kernel
theorem dX4_ropesOfAll_2 : decode cX4_ropesOfAll 2 = .ok (.iconst 0, 1) := by decide +kernel
theorem dX4_ropesOfAll_3 : decode cX4_ropesOfAll 3 = .ok (.istore_n 2, 1) := by decide +kernel
theorem dX4_ropesOfAll_4 : decode cX4_ropesOfAll 4 = .ok (.iload_n 2, 1) := by decide +kernel
theorem dX4_ropesOfAll_5 : decode cX4_ropesOfAll 5 = .ok (.aload_n 0, 1) := by decide +kernel
theorem dX4_ropesOfAll_6 : decode cX4_ropesOfAll 6 = .ok (.getfield 19, 3) := by decide +kernel
theorem dX4_ropesOfAll_9 : decode cX4_ropesOfAll 9 = .ok (.getfield 76, 3) := by decide +kernel
theorem dX4_ropesOfAll_12 : decode cX4_ropesOfAll 12 = .ok (.if_icmp .ge 21, 3) := by decide +kernel
theorem dX4_ropesOfAll_15 : decode cX4_ropesOfAll 15 = .ok (.iload_n 1, 1) := by decide +kernel
theorem dX4_ropesOfAll_16 : decode cX4_ropesOfAll 16 = .ok (.aload_n 0, 1) := by decide +kernel
theorem dX4_ropesOfAll_17 : decode cX4_ropesOfAll 17 = .ok (.getfield 29, 3) := by decide +kernel
theorem dX4_ropesOfAll_20 : decode cX4_ropesOfAll 20 = .ok (.getfield 104, 3) := by decide +kernel
theorem dX4_ropesOfAll_23 : decode cX4_ropesOfAll 23 = .ok (.iload_n 2, 1) := by decide +kernel
theorem dX4_ropesOfAll_24 : decode cX4_ropesOfAll 24 = .ok (.iaload, 1) := by decide +kernel
theorem dX4_ropesOfAll_25 : decode cX4_ropesOfAll 25 = .ok (.iadd, 1) := by decide +kernel
theorem dX4_ropesOfAll_26 : decode cX4_ropesOfAll 26 = .ok (.istore_n 1, 1) := by decide +kernel
theorem dX4_ropesOfAll_27 : decode cX4_ropesOfAll 27 = .ok (.iinc 2 1, 3) := by decide +kernel
theorem dX4_ropesOfAll_30 : decode cX4_ropesOfAll 30 = .ok (.goto (-26), 3) := by decide +kernel
theorem dX4_ropesOfAll_33 : decode cX4_ropesOfAll 33 = .ok (.iload_n 1, 1) := by decide +kernel
theorem dX4_ropesOfAll_34 : decode cX4_ropesOfAll 34 = .ok (.ireturn, 1) := by decide +kernel
theorem dX4_exchange_0 : decode cX4_exchange 0 = .ok (.aload_n 0, 1) := by decide +kernel
theorem dX4_exchange_1 : decode cX4_exchange 1 = .ok (.getfield 29, 3) := by decide +kernel
theorem dX4_exchange_4 : decode cX4_exchange 4 = .ok (.getfield 101, 3) := by decide +kernel
theorem dX4_exchange_7 : decode cX4_exchange 7 = .ok (.iload_n 1, 1) := by decide +kernel
theorem dX4_exchange_8 : decode cX4_exchange 8 = .ok (.iaload, 1) := by decide +kernel
theorem dX4_exchange_9 : decode cX4_exchange 9 = .ok (.istore_n 3, 1) := by decide +kernel
theorem dX4_exchange_10 : decode cX4_exchange 10 = .ok (.aload_n 0, 1) := by decide +kernel
theorem dX4_exchange_11 : decode cX4_exchange 11 = .ok (.getfield 29, 3) := by decide +kernel
theorem dX4_exchange_14 : decode cX4_exchange 14 = .ok (.getfield 101, 3) := by decide +kernel
theorem dX4_exchange_17 : decode cX4_exchange 17 = .ok (.iload_n 2, 1) := by decide +kernel
theorem dX4_exchange_18 : decode cX4_exchange 18 = .ok (.iaload, 1) := by decide +kernel
theorem dX4_exchange_19 : decode cX4_exchange 19 = .ok (.istore 4, 2) := by decide +kernel
theorem dX4_exchange_21 : decode cX4_exchange 21 = .ok (.iload_n 3, 1) := by decide +kernel
theorem dX4_exchange_22 : decode cX4_exchange 22 = .ok (.iload_n 2, 1) := by decide +kernel
theorem dX4_exchange_23 : decode cX4_exchange 23 = .ok (.if_icmp .ne 4, 3) := by decide +kernel
theorem dX4_exchange_26 : decode cX4_exchange 26 = .ok (.return_, 1) := by decide +kernel
theorem dX4_exchange_27 : decode cX4_exchange 27 = .ok (.aload_n 0, 1) := by decide +kernel
theorem dX4_exchange_28 : decode cX4_exchange 28 = .ok (.getfield 29, 3) := by decide +kernel
theorem dX4_exchange_31 : decode cX4_exchange 31 = .ok (.getfield 101, 3) := by decide +kernel
theorem dX4_exchange_34 : decode cX4_exchange 34 = .ok (.iload_n 1, 1) := by decide +kernel
theorem dX4_exchange_35 : decode cX4_exchange 35 = .ok (.iload 4, 2) := by decide +kernel
theorem dX4_exchange_37 : decode cX4_exchange 37 = .ok (.iastore, 1) := by decide +kernel
theorem dX4_exchange_38 : decode cX4_exchange 38 = .ok (.aload_n 0, 1) := by decide +kernel
theorem dX4_exchange_39 : decode cX4_exchange 39 = .ok (.getfield 29, 3) := by decide +kernel
theorem dX4_exchange_42 : decode cX4_exchange 42 = .ok (.getfield 101, 3) := by decide +kernel
theorem dX4_exchange_45 : decode cX4_exchange 45 = .ok (.iload_n 2, 1) := by decide +kernel
theorem dX4_exchange_46 : decode cX4_exchange 46 = .ok (.iload_n 3, 1) := by decide +kernel
theorem dX4_exchange_47 : decode cX4_exchange 47 = .ok (.iastore, 1) := by decide +kernel
theorem dX4_exchange_48 : decode cX4_exchange 48 = .ok (.iload 4, 2) := by decide +kernel
theorem dX4_exchange_50 : decode cX4_exchange 50 = .ok (.ifCond .lt 14, 3) := by decide +kernel
theorem dX4_exchange_53 : decode cX4_exchange 53 = .ok (.aload_n 0, 1) := by decide +kernel
theorem dX4_exchange_54 : decode cX4_exchange 54 = .ok (.getfield 29, 3) := by decide +kernel
theorem dX4_exchange_57 : decode cX4_exchange 57 = .ok (.getfield 101, 3) := by decide +kernel
theorem dX4_exchange_60 : decode cX4_exchange 60 = .ok (.iload 4, 2) := by decide +kernel
theorem dX4_exchange_62 : decode cX4_exchange 62 = .ok (.iload_n 1, 1) := by decide +kernel
theorem dX4_exchange_63 : decode cX4_exchange 63 = .ok (.iastore, 1) := by decide +kernel
theorem dX4_exchange_64 : decode cX4_exchange 64 = .ok (.iload_n 3, 1) := by decide +kernel
theorem dX4_exchange_65 : decode cX4_exchange 65 = .ok (.ifCond .lt 13, 3) := by decide +kernel
theorem dX4_exchange_68 : decode cX4_exchange 68 = .ok (.aload_n 0, 1) := by decide +kernel
theorem dX4_exchange_69 : decode cX4_exchange 69 = .ok (.getfield 29, 3) := by decide +kernel
theorem dX4_exchange_72 : decode cX4_exchange 72 = .ok (.getfield 101, 3) := by decide +kernel
theorem dX4_exchange_75 : decode cX4_exchange 75 = .ok (.iload_n 3, 1) := by decide +kernel
theorem dX4_exchange_76 : decode cX4_exchange 76 = .ok (.iload_n 2, 1) := by decide +kernel
theorem dX4_exchange_77 : decode cX4_exchange 77 = .ok (.iastore, 1) := by decide +kernel
theorem dX4_exchange_78 : decode cX4_exchange 78 = .ok (.return_, 1) := by decide +kernel
theorem dX4_mostBySowing_0 : decode cX4_mostBySowing 0 = .ok (.aload_n 0, 1) := by decide +kernel
theorem dX4_mostBySowing_1 : decode cX4_mostBySowing 1 = .ok (.getfield 33, 3) := by decide +kernel
theorem dX4_mostBySowing_4 : decode cX4_mostBySowing 4 = .ok (.getfield 98, 3) := by decide +kernel
theorem dX4_mostBySowing_7 : decode cX4_mostBySowing 7 = .ok (.iload_n 1, 1) := by decide +kernel
theorem dX4_mostBySowing_8 : decode cX4_mostBySowing 8 = .ok (.iaload, 1) := by decide +kernel
theorem dX4_mostBySowing_9 : decode cX4_mostBySowing 9 = .ok (.istore_n 2, 1) := by decide +kernel
theorem dX4_mostBySowing_10 : decode cX4_mostBySowing 10 = .ok (.iconst 0, 1) := by decide +kernel
theorem dX4_mostBySowing_11 : decode cX4_mostBySowing 11 = .ok (.istore_n 3, 1) := by decide +kernel
theorem dX4_mostBySowing_12 : decode cX4_mostBySowing 12 = .ok (.iconst 0, 1) := by decide +kernel
theorem dX4_mostBySowing_13 : decode cX4_mostBySowing 13 = .ok (.istore 4, 2) := by decide +kernel
theorem dX4_mostBySowing_15 : decode cX4_mostBySowing 15 = .ok (.iload 4, 2) := by decide +kernel
theorem dX4_mostBySowing_17 : decode cX4_mostBySowing 17 = .ok (.aload_n 0, 1) := by decide +kernel
theorem dX4_mostBySowing_18 : decode cX4_mostBySowing 18 = .ok (.getfield 19, 3) := by decide +kernel
theorem dX4_mostBySowing_21 : decode cX4_mostBySowing 21 = .ok (.getfield 176, 3) := by decide +kernel
theorem dX4_mostBySowing_24 : decode cX4_mostBySowing 24 = .ok (.if_icmp .ge 34, 3) := by decide +kernel
theorem dX4_mostBySowing_27 : decode cX4_mostBySowing 27 = .ok (.aload_n 0, 1) := by decide +kernel
theorem dX4_mostBySowing_28 : decode cX4_mostBySowing 28 = .ok (.getfield 33, 3) := by decide +kernel
theorem dX4_mostBySowing_31 : decode cX4_mostBySowing 31 = .ok (.getfield 98, 3) := by decide +kernel
theorem dX4_mostBySowing_34 : decode cX4_mostBySowing 34 = .ok (.iload_n 1, 1) := by decide +kernel
theorem dX4_mostBySowing_35 : decode cX4_mostBySowing 35 = .ok (.iload 4, 2) := by decide +kernel
theorem dX4_mostBySowing_37 : decode cX4_mostBySowing 37 = .ok (.iastore, 1) := by decide +kernel
theorem dX4_mostBySowing_38 : decode cX4_mostBySowing 38 = .ok (.iload_n 3, 1) := by decide +kernel
theorem dX4_mostBySowing_39 : decode cX4_mostBySowing 39 = .ok (.aload_n 0, 1) := by decide +kernel
theorem dX4_mostBySowing_40 : decode cX4_mostBySowing 40 = .ok (.aload_n 0, 1) := by decide +kernel
theorem dX4_mostBySowing_41 : decode cX4_mostBySowing 41 = .ok (.getfield 33, 3) := by decide +kernel
theorem dX4_mostBySowing_44 : decode cX4_mostBySowing 44 = .ok (.iload_n 1, 1) := by decide +kernel
theorem dX4_mostBySowing_45 : decode cX4_mostBySowing 45 = .ok (.invokevirtual 129, 3) := by decide +kernel
theorem dX4_mostBySowing_48 : decode cX4_mostBySowing 48 = .ok (.invokestatic 253, 3) := by decide +kernel
theorem dX4_mostBySowing_51 : decode cX4_mostBySowing 51 = .ok (.istore_n 3, 1) := by decide +kernel
theorem dX4_mostBySowing_52 : decode cX4_mostBySowing 52 = .ok (.iinc 4 1, 3) := by decide +kernel
theorem dX4_mostBySowing_55 : decode cX4_mostBySowing 55 = .ok (.goto (-40), 3) := by decide +kernel
theorem dX4_mostBySowing_58 : decode cX4_mostBySowing 58 = .ok (.aload_n 0, 1) := by decide +kernel
theorem dX4_mostBySowing_59 : decode cX4_mostBySowing 59 = .ok (.getfield 33, 3) := by decide +kernel
theorem dX4_mostBySowing_62 : decode cX4_mostBySowing 62 = .ok (.getfield 98, 3) := by decide +kernel
theorem dX4_mostBySowing_65 : decode cX4_mostBySowing 65 = .ok (.iload_n 1, 1) := by decide +kernel
theorem dX4_mostBySowing_66 : decode cX4_mostBySowing 66 = .ok (.iload_n 2, 1) := by decide +kernel
theorem dX4_mostBySowing_67 : decode cX4_mostBySowing 67 = .ok (.iastore, 1) := by decide +kernel
theorem dX4_mostBySowing_68 : decode cX4_mostBySowing 68 = .ok (.iload_n 3, 1) := by decide +kernel
theorem dX4_mostBySowing_69 : decode cX4_mostBySowing 69 = .ok (.ireturn, 1) := by decide +kernel
theorem dX4_isContent_0 : decode cX4_isContent 0 = .ok (.aload_n 0, 1) := by decide +kernel
theorem dX4_isContent_1 : decode cX4_isContent 1 = .ok (.aload_n 0, 1) := by decide +kernel
theorem dX4_isContent_2 : decode cX4_isContent 2 = .ok (.getfield 33, 3) := by decide +kernel
theorem dX4_isContent_5 : decode cX4_isContent 5 = .ok (.iload_n 1, 1) := by decide +kernel
theorem dX4_isContent_6 : decode cX4_isContent 6 = .ok (.invokevirtual 129, 3) := by decide +kernel
theorem dX4_isContent_9 : decode cX4_isContent 9 = .ok (.aload_n 0, 1) := by decide +kernel
theorem dX4_isContent_10 : decode cX4_isContent 10 = .ok (.iload_n 1, 1) := by decide +kernel
theorem dX4_isContent_11 : decode cX4_isContent 11 = .ok (.invokevirtual 256, 3) := by decide +kernel
theorem dX4_isContent_14 : decode cX4_isContent 14 = .ok (.if_icmp .lt 7, 3) := by decide +kernel
theorem dX4_isContent_17 : decode cX4_isContent 17 = .ok (.iconst 1, 1) := by decide +kernel
theorem dX4_isContent_18 : decode cX4_isContent 18 = .ok (.goto 4, 3) := by decide +kernel
theorem dX4_isContent_21 : decode cX4_isContent 21 = .ok (.iconst 0, 1) := by decide +kernel
theorem dX4_isContent_22 : decode cX4_isContent 22 = .ok (.ireturn, 1) := by decide +kernel
theorem dX4_isHungry_0 : decode cX4_isHungry 0 = .ok (.aload_n 0, 1) := by decide +kernel
theorem dX4_isHungry_1 : decode cX4_isHungry 1 = .ok (.getfield 33, 3) := by decide +kernel
theorem dX4_isHungry_4 : decode cX4_isHungry 4 = .ok (.aload_n 0, 1) := by decide +kernel
theorem dX4_isHungry_5 : decode cX4_isHungry 5 = .ok (.getfield 29, 3) := by decide +kernel
theorem dX4_isHungry_8 : decode cX4_isHungry 8 = .ok (.invokevirtual 173, 3) := by decide +kernel
theorem dX4_isHungry_11 : decode cX4_isHungry 11 = .ok (.aload_n 0, 1) := by decide +kernel
theorem dX4_isHungry_12 : decode cX4_isHungry 12 = .ok (.getfield 33, 3) := by decide +kernel
theorem dX4_isHungry_15 : decode cX4_isHungry 15 = .ok (.getfield 101, 3) := by decide +kernel
theorem dX4_isHungry_18 : decode cX4_isHungry 18 = .ok (.iload_n 1, 1) := by decide +kernel
theorem dX4_isHungry_19 : decode cX4_isHungry 19 = .ok (.iaload, 1) := by decide +kernel
theorem dX4_isHungry_20 : decode cX4_isHungry 20 = .ok (.istore_n 2, 1) := by decide +kernel
theorem dX4_isHungry_21 : decode cX4_isHungry 21 = .ok (.iload_n 2, 1) := by decide +kernel
theorem dX4_isHungry_22 : decode cX4_isHungry 22 = .ok (.ifCond .ge 26, 3) := by decide +kernel
theorem dX4_isHungry_25 : decode cX4_isHungry 25 = .ok (.aload_n 0, 1) := by decide +kernel
theorem dX4_isHungry_26 : decode cX4_isHungry 26 = .ok (.iload_n 1, 1) := by decide +kernel
theorem dX4_isHungry_27 : decode cX4_isHungry 27 = .ok (.invokevirtual 256, 3) := by decide +kernel
theorem dX4_isHungry_30 : decode cX4_isHungry 30 = .ok (.aload_n 0, 1) := by decide +kernel
theorem dX4_isHungry_31 : decode cX4_isHungry 31 = .ok (.getfield 19, 3) := by decide +kernel
theorem dX4_isHungry_34 : decode cX4_isHungry 34 = .ok (.getfield 95, 3) := by decide +kernel
theorem dX4_isHungry_37 : decode cX4_isHungry 37 = .ok (.iload_n 1, 1) := by decide +kernel
theorem dX4_isHungry_38 : decode cX4_isHungry 38 = .ok (.iaload, 1) := by decide +kernel
theorem dX4_isHungry_39 : decode cX4_isHungry 39 = .ok (.if_icmp .ge 7, 3) := by decide +kernel
theorem dX4_isHungry_42 : decode cX4_isHungry 42 = .ok (.iconst 1, 1) := by decide +kernel
theorem dX4_isHungry_43 : decode cX4_isHungry 43 = .ok (.goto 4, 3) := by decide +kernel
theorem dX4_isHungry_46 : decode cX4_isHungry 46 = .ok (.iconst 0, 1) := by decide +kernel
theorem dX4_isHungry_47 : decode cX4_isHungry 47 = .ok (.ireturn, 1) := by decide +kernel
theorem dX4_isHungry_48 : decode cX4_isHungry 48 = .ok (.iconst 0, 1) := by decide +kernel
theorem dX4_isHungry_49 : decode cX4_isHungry 49 = .ok (.istore_n 3, 1) := by decide +kernel
theorem dX4_isHungry_50 : decode cX4_isHungry 50 = .ok (.iload_n 3, 1) := by decide +kernel
theorem dX4_isHungry_51 : decode cX4_isHungry 51 = .ok (.aload_n 0, 1) := by decide +kernel
theorem dX4_isHungry_52 : decode cX4_isHungry 52 = .ok (.getfield 19, 3) := by decide +kernel
theorem dX4_isHungry_55 : decode cX4_isHungry 55 = .ok (.getfield 176, 3) := by decide +kernel
theorem dX4_isHungry_58 : decode cX4_isHungry 58 = .ok (.if_icmp .ge 38, 3) := by decide +kernel
theorem dX4_isHungry_61 : decode cX4_isHungry 61 = .ok (.aload_n 0, 1) := by decide +kernel
theorem dX4_isHungry_62 : decode cX4_isHungry 62 = .ok (.getfield 33, 3) := by decide +kernel
theorem dX4_isHungry_65 : decode cX4_isHungry 65 = .ok (.getfield 98, 3) := by decide +kernel
theorem dX4_isHungry_68 : decode cX4_isHungry 68 = .ok (.iload_n 2, 1) := by decide +kernel
theorem dX4_isHungry_69 : decode cX4_isHungry 69 = .ok (.iload_n 3, 1) := by decide +kernel
theorem dX4_isHungry_70 : decode cX4_isHungry 70 = .ok (.iastore, 1) := by decide +kernel
theorem dX4_isHungry_71 : decode cX4_isHungry 71 = .ok (.aload_n 0, 1) := by decide +kernel
theorem dX4_isHungry_72 : decode cX4_isHungry 72 = .ok (.iload_n 1, 1) := by decide +kernel
theorem dX4_isHungry_73 : decode cX4_isHungry 73 = .ok (.invokevirtual 256, 3) := by decide +kernel
theorem dX4_isHungry_76 : decode cX4_isHungry 76 = .ok (.aload_n 0, 1) := by decide +kernel
theorem dX4_isHungry_77 : decode cX4_isHungry 77 = .ok (.getfield 19, 3) := by decide +kernel
theorem dX4_isHungry_80 : decode cX4_isHungry 80 = .ok (.getfield 95, 3) := by decide +kernel
theorem dX4_isHungry_83 : decode cX4_isHungry 83 = .ok (.iload_n 1, 1) := by decide +kernel
theorem dX4_isHungry_84 : decode cX4_isHungry 84 = .ok (.iaload, 1) := by decide +kernel
theorem dX4_isHungry_85 : decode cX4_isHungry 85 = .ok (.if_icmp .lt 5, 3) := by decide +kernel
theorem dX4_isHungry_88 : decode cX4_isHungry 88 = .ok (.iconst 0, 1) := by decide +kernel
theorem dX4_isHungry_89 : decode cX4_isHungry 89 = .ok (.ireturn, 1) := by decide +kernel
theorem dX4_isHungry_90 : decode cX4_isHungry 90 = .ok (.iinc 3 1, 3) := by decide +kernel
theorem dX4_isHungry_93 : decode cX4_isHungry 93 = .ok (.goto (-43), 3) := by decide +kernel
theorem dX4_isHungry_96 : decode cX4_isHungry 96 = .ok (.iconst 1, 1) := by decide +kernel
theorem dX4_isHungry_97 : decode cX4_isHungry 97 = .ok (.ireturn, 1) := by decide +kernel
theorem dX4_hungryBits_0 : decode cX4_hungryBits 0 = .ok (.iconst 0, 1) := by decide +kernel
theorem dX4_hungryBits_1 : decode cX4_hungryBits 1 = .ok (.istore_n 1, 1) := by decide +kernel
theorem dX4_hungryBits_2 : decode cX4_hungryBits 2 = .ok (.iconst 0, 1) := by decide +kernel
theorem dX4_hungryBits_3 : decode cX4_hungryBits 3 = .ok (.istore_n 2, 1) := by decide +kernel
theorem dX4_hungryBits_4 : decode cX4_hungryBits 4 = .ok (.iload_n 2, 1) := by decide +kernel
theorem dX4_hungryBits_5 : decode cX4_hungryBits 5 = .ok (.aload_n 0, 1) := by decide +kernel
theorem dX4_hungryBits_6 : decode cX4_hungryBits 6 = .ok (.getfield 19, 3) := by decide +kernel
theorem dX4_hungryBits_9 : decode cX4_hungryBits 9 = .ok (.getfield 76, 3) := by decide +kernel
theorem dX4_hungryBits_12 : decode cX4_hungryBits 12 = .ok (.if_icmp .ge 23, 3) := by decide +kernel
theorem dX4_hungryBits_15 : decode cX4_hungryBits 15 = .ok (.aload_n 0, 1) := by decide +kernel
theorem dX4_hungryBits_16 : decode cX4_hungryBits 16 = .ok (.iload_n 2, 1) := by decide +kernel
theorem dX4_hungryBits_17 : decode cX4_hungryBits 17 = .ok (.invokevirtual 185, 3) := by decide +kernel
theorem dX4_hungryBits_20 : decode cX4_hungryBits 20 = .ok (.ifCond .eq 9, 3) := by decide +kernel
theorem dX4_hungryBits_23 : decode cX4_hungryBits 23 = .ok (.iload_n 1, 1) := by decide +kernel
theorem dX4_hungryBits_24 : decode cX4_hungryBits 24 = .ok (.iconst 1, 1) := by decide +kernel
theorem dX4_hungryBits_25 : decode cX4_hungryBits 25 = .ok (.iload_n 2, 1) := by decide +kernel
theorem dX4_hungryBits_26 : decode cX4_hungryBits 26 = .ok (.ishl, 1) := by decide +kernel
theorem dX4_hungryBits_27 : decode cX4_hungryBits 27 = .ok (.ior, 1) := by decide +kernel
theorem dX4_hungryBits_28 : decode cX4_hungryBits 28 = .ok (.istore_n 1, 1) := by decide +kernel
theorem dX4_hungryBits_29 : decode cX4_hungryBits 29 = .ok (.iinc 2 1, 3) := by decide +kernel
theorem dX4_hungryBits_32 : decode cX4_hungryBits 32 = .ok (.goto (-28), 3) := by decide +kernel
theorem dX4_hungryBits_35 : decode cX4_hungryBits 35 = .ok (.iload_n 1, 1) := by decide +kernel
theorem dX4_hungryBits_36 : decode cX4_hungryBits 36 = .ok (.ireturn, 1) := by decide +kernel
theorem dX4_tryFacing_0 : decode cX4_tryFacing 0 = .ok (.aload_n 0, 1) := by decide +kernel
theorem dX4_tryFacing_1 : decode cX4_tryFacing 1 = .ok (.invokevirtual 259, 3) := by decide +kernel
theorem dX4_tryFacing_4 : decode cX4_tryFacing 4 = .ok (.istore_n 3, 1) := by decide +kernel
theorem dX4_tryFacing_5 : decode cX4_tryFacing 5 = .ok (.iload_n 3, 1) := by decide +kernel
theorem dX4_tryFacing_6 : decode cX4_tryFacing 6 = .ok (.ifCond .ge 8, 3) := by decide +kernel
theorem dX4_tryFacing_9 : decode cX4_tryFacing 9 = .ok (.aload_n 0, 1) := by decide +kernel
theorem dX4_tryFacing_10 : decode cX4_tryFacing 10 = .ok (.invokevirtual 262, 3) := by decide +kernel
theorem dX4_tryFacing_13 : decode cX4_tryFacing 13 = .ok (.return_, 1) := by decide +kernel
theorem dX4_tryFacing_14 : decode cX4_tryFacing 14 = .ok (.iload_n 1, 1) := by decide +kernel
theorem dX4_tryFacing_15 : decode cX4_tryFacing 15 = .ok (.bipush 6, 2) := by decide +kernel
theorem dX4_tryFacing_17 : decode cX4_tryFacing 17 = .ok (.if_icmp .lt 4, 3) := by decide +kernel
theorem dX4_tryFacing_20 : decode cX4_tryFacing 20 = .ok (.return_, 1) := by decide +kernel
theorem dX4_tryFacing_21 : decode cX4_tryFacing 21 = .ok (.iload_n 2, 1) := by decide +kernel
theorem dX4_tryFacing_22 : decode cX4_tryFacing 22 = .ok (.ifCond .eq 22, 3) := by decide +kernel
theorem dX4_tryFacing_25 : decode cX4_tryFacing 25 = .ok (.aload_n 0, 1) := by decide +kernel
theorem dX4_tryFacing_26 : decode cX4_tryFacing 26 = .ok (.getfield 33, 3) := by decide +kernel
theorem dX4_tryFacing_29 : decode cX4_tryFacing 29 = .ok (.getfield 101, 3) := by decide +kernel
theorem dX4_tryFacing_32 : decode cX4_tryFacing 32 = .ok (.iload_n 3, 1) := by decide +kernel
theorem dX4_tryFacing_33 : decode cX4_tryFacing 33 = .ok (.bipush (-9), 2) := by decide +kernel
theorem dX4_tryFacing_35 : decode cX4_tryFacing 35 = .ok (.iastore, 1) := by decide +kernel
theorem dX4_tryFacing_36 : decode cX4_tryFacing 36 = .ok (.aload_n 0, 1) := by decide +kernel
theorem dX4_tryFacing_37 : decode cX4_tryFacing 37 = .ok (.iload_n 1, 1) := by decide +kernel
theorem dX4_tryFacing_38 : decode cX4_tryFacing 38 = .ok (.iconst 1, 1) := by decide +kernel
theorem dX4_tryFacing_39 : decode cX4_tryFacing 39 = .ok (.iadd, 1) := by decide +kernel
theorem dX4_tryFacing_40 : decode cX4_tryFacing 40 = .ok (.iconst 0, 1) := by decide +kernel
theorem dX4_tryFacing_41 : decode cX4_tryFacing 41 = .ok (.invokevirtual 192, 3) := by decide +kernel
theorem dX4_tryFacing_44 : decode cX4_tryFacing 44 = .ok (.iload_n 3, 1) := by decide +kernel
theorem dX4_tryFacing_45 : decode cX4_tryFacing 45 = .ok (.iconst 1, 1) := by decide +kernel
theorem dX4_tryFacing_46 : decode cX4_tryFacing 46 = .ok (.iadd, 1) := by decide +kernel
theorem dX4_tryFacing_47 : decode cX4_tryFacing 47 = .ok (.istore 4, 2) := by decide +kernel
theorem dX4_tryFacing_49 : decode cX4_tryFacing 49 = .ok (.iload 4, 2) := by decide +kernel
theorem dX4_tryFacing_51 : decode cX4_tryFacing 51 = .ok (.aload_n 0, 1) := by decide +kernel
theorem dX4_tryFacing_52 : decode cX4_tryFacing 52 = .ok (.getfield 19, 3) := by decide +kernel
theorem dX4_tryFacing_55 : decode cX4_tryFacing 55 = .ok (.getfield 76, 3) := by decide +kernel
theorem dX4_tryFacing_58 : decode cX4_tryFacing 58 = .ok (.if_icmp .ge 66, 3) := by decide +kernel
theorem dX4_tryFacing_61 : decode cX4_tryFacing 61 = .ok (.aload_n 0, 1) := by decide +kernel
theorem dX4_tryFacing_62 : decode cX4_tryFacing 62 = .ok (.getfield 33, 3) := by decide +kernel
theorem dX4_tryFacing_65 : decode cX4_tryFacing 65 = .ok (.getfield 101, 3) := by decide +kernel
theorem dX4_tryFacing_68 : decode cX4_tryFacing 68 = .ok (.iload 4, 2) := by decide +kernel
theorem dX4_tryFacing_70 : decode cX4_tryFacing 70 = .ok (.iaload, 1) := by decide +kernel
theorem dX4_tryFacing_71 : decode cX4_tryFacing 71 = .ok (.bipush (-10), 2) := by decide +kernel
theorem dX4_tryFacing_73 : decode cX4_tryFacing 73 = .ok (.if_icmp .ne 45, 3) := by decide +kernel
theorem dX4_tryFacing_76 : decode cX4_tryFacing 76 = .ok (.aload_n 0, 1) := by decide +kernel
theorem dX4_tryFacing_77 : decode cX4_tryFacing 77 = .ok (.getfield 33, 3) := by decide +kernel
theorem dX4_tryFacing_80 : decode cX4_tryFacing 80 = .ok (.getfield 101, 3) := by decide +kernel
theorem dX4_tryFacing_83 : decode cX4_tryFacing 83 = .ok (.iload_n 3, 1) := by decide +kernel
theorem dX4_tryFacing_84 : decode cX4_tryFacing 84 = .ok (.iload 4, 2) := by decide +kernel
theorem dX4_tryFacing_86 : decode cX4_tryFacing 86 = .ok (.iastore, 1) := by decide +kernel
theorem dX4_tryFacing_87 : decode cX4_tryFacing 87 = .ok (.aload_n 0, 1) := by decide +kernel
theorem dX4_tryFacing_88 : decode cX4_tryFacing 88 = .ok (.getfield 33, 3) := by decide +kernel
theorem dX4_tryFacing_91 : decode cX4_tryFacing 91 = .ok (.getfield 101, 3) := by decide +kernel
theorem dX4_tryFacing_94 : decode cX4_tryFacing 94 = .ok (.iload 4, 2) := by decide +kernel
theorem dX4_tryFacing_96 : decode cX4_tryFacing 96 = .ok (.iload_n 3, 1) := by decide +kernel
theorem dX4_tryFacing_97 : decode cX4_tryFacing 97 = .ok (.iastore, 1) := by decide +kernel
theorem dX4_tryFacing_98 : decode cX4_tryFacing 98 = .ok (.aload_n 0, 1) := by decide +kernel
theorem dX4_tryFacing_99 : decode cX4_tryFacing 99 = .ok (.iload_n 1, 1) := by decide +kernel
theorem dX4_tryFacing_100 : decode cX4_tryFacing 100 = .ok (.iconst 1, 1) := by decide +kernel
theorem dX4_tryFacing_101 : decode cX4_tryFacing 101 = .ok (.iadd, 1) := by decide +kernel
theorem dX4_tryFacing_102 : decode cX4_tryFacing 102 = .ok (.iload_n 2, 1) := by decide +kernel
theorem dX4_tryFacing_103 : decode cX4_tryFacing 103 = .ok (.invokevirtual 192, 3) := by decide +kernel
theorem dX4_tryFacing_106 : decode cX4_tryFacing 106 = .ok (.aload_n 0, 1) := by decide +kernel
theorem dX4_tryFacing_107 : decode cX4_tryFacing 107 = .ok (.getfield 33, 3) := by decide +kernel
theorem dX4_tryFacing_110 : decode cX4_tryFacing 110 = .ok (.getfield 101, 3) := by decide +kernel
theorem dX4_tryFacing_113 : decode cX4_tryFacing 113 = .ok (.iload 4, 2) := by decide +kernel
theorem dX4_tryFacing_115 : decode cX4_tryFacing 115 = .ok (.bipush (-10), 2) := by decide +kernel
theorem dX4_tryFacing_117 : decode cX4_tryFacing 117 = .ok (.iastore, 1) := by decide +kernel
theorem dX4_tryFacing_118 : decode cX4_tryFacing 118 = .ok (.iinc 4 1, 3) := by decide +kernel
theorem dX4_tryFacing_121 : decode cX4_tryFacing 121 = .ok (.goto (-72), 3) := by decide +kernel
theorem dX4_tryFacing_124 : decode cX4_tryFacing 124 = .ok (.aload_n 0, 1) := by decide +kernel
theorem dX4_tryFacing_125 : decode cX4_tryFacing 125 = .ok (.getfield 33, 3) := by decide +kernel
theorem dX4_tryFacing_128 : decode cX4_tryFacing 128 = .ok (.getfield 101, 3) := by decide +kernel
theorem dX4_tryFacing_131 : decode cX4_tryFacing 131 = .ok (.iload_n 3, 1) := by decide +kernel
theorem dX4_tryFacing_132 : decode cX4_tryFacing 132 = .ok (.bipush (-10), 2) := by decide +kernel
theorem dX4_tryFacing_134 : decode cX4_tryFacing 134 = .ok (.iastore, 1) := by decide +kernel
theorem dX4_tryFacing_135 : decode cX4_tryFacing 135 = .ok (.return_, 1) := by decide +kernel
theorem dX4_firstUnchosen_0 : decode cX4_firstUnchosen 0 = .ok (.iconst 0, 1) := by decide +kernel
theorem dX4_firstUnchosen_1 : decode cX4_firstUnchosen 1 = .ok (.istore_n 1, 1) := by decide +kernel
theorem dX4_firstUnchosen_2 : decode cX4_firstUnchosen 2 = .ok (.iload_n 1, 1) := by decide +kernel
theorem dX4_firstUnchosen_3 : decode cX4_firstUnchosen 3 = .ok (.aload_n 0, 1) := by decide +kernel
theorem dX4_firstUnchosen_4 : decode cX4_firstUnchosen 4 = .ok (.getfield 19, 3) := by decide +kernel
theorem dX4_firstUnchosen_7 : decode cX4_firstUnchosen 7 = .ok (.getfield 76, 3) := by decide +kernel
theorem dX4_firstUnchosen_10 : decode cX4_firstUnchosen 10 = .ok (.if_icmp .ge 25, 3) := by decide +kernel
theorem dX4_firstUnchosen_13 : decode cX4_firstUnchosen 13 = .ok (.aload_n 0, 1) := by decide +kernel
theorem dX4_firstUnchosen_14 : decode cX4_firstUnchosen 14 = .ok (.getfield 33, 3) := by decide +kernel
theorem dX4_firstUnchosen_17 : decode cX4_firstUnchosen 17 = .ok (.getfield 101, 3) := by decide +kernel
theorem dX4_firstUnchosen_20 : decode cX4_firstUnchosen 20 = .ok (.iload_n 1, 1) := by decide +kernel
theorem dX4_firstUnchosen_21 : decode cX4_firstUnchosen 21 = .ok (.iaload, 1) := by decide +kernel
theorem dX4_firstUnchosen_22 : decode cX4_firstUnchosen 22 = .ok (.bipush (-10), 2) := by decide +kernel
theorem dX4_firstUnchosen_24 : decode cX4_firstUnchosen 24 = .ok (.if_icmp .ne 5, 3) := by decide +kernel
theorem dX4_firstUnchosen_27 : decode cX4_firstUnchosen 27 = .ok (.iload_n 1, 1) := by decide +kernel
theorem dX4_firstUnchosen_28 : decode cX4_firstUnchosen 28 = .ok (.ireturn, 1) := by decide +kernel
theorem dX4_firstUnchosen_29 : decode cX4_firstUnchosen 29 = .ok (.iinc 1 1, 3) := by decide +kernel
theorem dX4_firstUnchosen_32 : decode cX4_firstUnchosen 32 = .ok (.goto (-30), 3) := by decide +kernel
theorem dX4_firstUnchosen_35 : decode cX4_firstUnchosen 35 = .ok (.bipush (-9), 2) := by decide +kernel
theorem dX4_firstUnchosen_37 : decode cX4_firstUnchosen 37 = .ok (.ireturn, 1) := by decide +kernel
theorem dX4_weighFacing_0 : decode cX4_weighFacing 0 = .ok (.aload_n 0, 1) := by decide +kernel
theorem dX4_weighFacing_1 : decode cX4_weighFacing 1 = .ok (.aload_n 0, 1) := by decide +kernel
theorem dX4_weighFacing_2 : decode cX4_weighFacing 2 = .ok (.getfield 33, 3) := by decide +kernel
theorem dX4_weighFacing_5 : decode cX4_weighFacing 5 = .ok (.iconst 0, 1) := by decide +kernel
theorem dX4_weighFacing_6 : decode cX4_weighFacing 6 = .ok (.invokevirtual 163, 3) := by decide +kernel
theorem dX4_weighFacing_9 : decode cX4_weighFacing 9 = .ok (.istore_n 1, 1) := by decide +kernel
theorem dX4_weighFacing_10 : decode cX4_weighFacing 10 = .ok (.iconst 1, 1) := by decide +kernel
theorem dX4_weighFacing_11 : decode cX4_weighFacing 11 = .ok (.istore_n 2, 1) := by decide +kernel
theorem dX4_weighFacing_12 : decode cX4_weighFacing 12 = .ok (.iload_n 2, 1) := by decide +kernel
theorem dX4_weighFacing_13 : decode cX4_weighFacing 13 = .ok (.aload_n 0, 1) := by decide +kernel
theorem dX4_weighFacing_14 : decode cX4_weighFacing 14 = .ok (.getfield 19, 3) := by decide +kernel
theorem dX4_weighFacing_17 : decode cX4_weighFacing 17 = .ok (.getfield 76, 3) := by decide +kernel
theorem dX4_weighFacing_20 : decode cX4_weighFacing 20 = .ok (.if_icmp .ge 23, 3) := by decide +kernel
theorem dX4_weighFacing_23 : decode cX4_weighFacing 23 = .ok (.iload_n 1, 1) := by decide +kernel
theorem dX4_weighFacing_24 : decode cX4_weighFacing 24 = .ok (.aload_n 0, 1) := by decide +kernel
theorem dX4_weighFacing_25 : decode cX4_weighFacing 25 = .ok (.aload_n 0, 1) := by decide +kernel
theorem dX4_weighFacing_26 : decode cX4_weighFacing 26 = .ok (.getfield 33, 3) := by decide +kernel
theorem dX4_weighFacing_29 : decode cX4_weighFacing 29 = .ok (.iload_n 2, 1) := by decide +kernel
theorem dX4_weighFacing_30 : decode cX4_weighFacing 30 = .ok (.invokevirtual 163, 3) := by decide +kernel
theorem dX4_weighFacing_33 : decode cX4_weighFacing 33 = .ok (.invokestatic 248, 3) := by decide +kernel
theorem dX4_weighFacing_36 : decode cX4_weighFacing 36 = .ok (.istore_n 1, 1) := by decide +kernel
theorem dX4_weighFacing_37 : decode cX4_weighFacing 37 = .ok (.iinc 2 1, 3) := by decide +kernel
theorem dX4_weighFacing_40 : decode cX4_weighFacing 40 = .ok (.goto (-28), 3) := by decide +kernel
theorem dX4_weighFacing_43 : decode cX4_weighFacing 43 = .ok (.aload_n 0, 1) := by decide +kernel
theorem dX4_weighFacing_44 : decode cX4_weighFacing 44 = .ok (.getfield 188, 3) := by decide +kernel
theorem dX4_weighFacing_47 : decode cX4_weighFacing 47 = .ok (.ifCond .eq 11, 3) := by decide +kernel
theorem dX4_weighFacing_50 : decode cX4_weighFacing 50 = .ok (.iload_n 1, 1) := by decide +kernel
theorem dX4_weighFacing_51 : decode cX4_weighFacing 51 = .ok (.aload_n 0, 1) := by decide +kernel
theorem dX4_weighFacing_52 : decode cX4_weighFacing 52 = .ok (.getfield 196, 3) := by decide +kernel
theorem dX4_weighFacing_55 : decode cX4_weighFacing 55 = .ok (.if_icmp .le 36, 3) := by decide +kernel
theorem dX4_weighFacing_58 : decode cX4_weighFacing 58 = .ok (.aload_n 0, 1) := by decide +kernel
theorem dX4_weighFacing_59 : decode cX4_weighFacing 59 = .ok (.iconst 1, 1) := by decide +kernel
theorem dX4_weighFacing_60 : decode cX4_weighFacing 60 = .ok (.putfield 188, 3) := by decide +kernel
theorem dX4_weighFacing_63 : decode cX4_weighFacing 63 = .ok (.aload_n 0, 1) := by decide +kernel
theorem dX4_weighFacing_64 : decode cX4_weighFacing 64 = .ok (.iload_n 1, 1) := by decide +kernel
theorem dX4_weighFacing_65 : decode cX4_weighFacing 65 = .ok (.putfield 196, 3) := by decide +kernel
theorem dX4_weighFacing_68 : decode cX4_weighFacing 68 = .ok (.aload_n 0, 1) := by decide +kernel
theorem dX4_weighFacing_69 : decode cX4_weighFacing 69 = .ok (.getfield 33, 3) := by decide +kernel
theorem dX4_weighFacing_72 : decode cX4_weighFacing 72 = .ok (.getfield 101, 3) := by decide +kernel
theorem dX4_weighFacing_75 : decode cX4_weighFacing 75 = .ok (.iconst 0, 1) := by decide +kernel
theorem dX4_weighFacing_76 : decode cX4_weighFacing 76 = .ok (.aload_n 0, 1) := by decide +kernel
theorem dX4_weighFacing_77 : decode cX4_weighFacing 77 = .ok (.getfield 58, 3) := by decide +kernel
theorem dX4_weighFacing_80 : decode cX4_weighFacing 80 = .ok (.iconst 0, 1) := by decide +kernel
theorem dX4_weighFacing_81 : decode cX4_weighFacing 81 = .ok (.aload_n 0, 1) := by decide +kernel
theorem dX4_weighFacing_82 : decode cX4_weighFacing 82 = .ok (.getfield 19, 3) := by decide +kernel
theorem dX4_weighFacing_85 : decode cX4_weighFacing 85 = .ok (.getfield 76, 3) := by decide +kernel
theorem dX4_weighFacing_88 : decode cX4_weighFacing 88 = .ok (.invokestatic 265, 3) := by decide +kernel
theorem dX4_weighFacing_91 : decode cX4_weighFacing 91 = .ok (.return_, 1) := by decide +kernel
theorem dX4_tryRopes_0 : decode cX4_tryRopes 0 = .ok (.aload_n 0, 1) := by decide +kernel
theorem dX4_tryRopes_1 : decode cX4_tryRopes 1 = .ok (.getfield 33, 3) := by decide +kernel
theorem dX4_tryRopes_4 : decode cX4_tryRopes 4 = .ok (.aload_n 0, 1) := by decide +kernel
theorem dX4_tryRopes_5 : decode cX4_tryRopes 5 = .ok (.getfield 29, 3) := by decide +kernel
theorem dX4_tryRopes_8 : decode cX4_tryRopes 8 = .ok (.invokevirtual 173, 3) := by decide +kernel
theorem dX4_tryRopes_11 : decode cX4_tryRopes 11 = .ok (.iconst 0, 1) := by decide +kernel
theorem dX4_tryRopes_12 : decode cX4_tryRopes 12 = .ok (.istore_n 1, 1) := by decide +kernel
theorem dX4_tryRopes_13 : decode cX4_tryRopes 13 = .ok (.iconst 0, 1) := by decide +kernel
theorem dX4_tryRopes_14 : decode cX4_tryRopes 14 = .ok (.istore_n 2, 1) := by decide +kernel
theorem dX4_tryRopes_15 : decode cX4_tryRopes 15 = .ok (.iload_n 2, 1) := by decide +kernel
theorem dX4_tryRopes_16 : decode cX4_tryRopes 16 = .ok (.aload_n 0, 1) := by decide +kernel
theorem dX4_tryRopes_17 : decode cX4_tryRopes 17 = .ok (.getfield 19, 3) := by decide +kernel
theorem dX4_tryRopes_20 : decode cX4_tryRopes 20 = .ok (.getfield 76, 3) := by decide +kernel
theorem dX4_tryRopes_23 : decode cX4_tryRopes 23 = .ok (.if_icmp .ge 66, 3) := by decide +kernel
theorem dX4_tryRopes_26 : decode cX4_tryRopes 26 = .ok (.aload_n 0, 1) := by decide +kernel
theorem dX4_tryRopes_27 : decode cX4_tryRopes 27 = .ok (.getfield 33, 3) := by decide +kernel
theorem dX4_tryRopes_30 : decode cX4_tryRopes 30 = .ok (.getfield 101, 3) := by decide +kernel
theorem dX4_tryRopes_33 : decode cX4_tryRopes 33 = .ok (.iload_n 2, 1) := by decide +kernel
theorem dX4_tryRopes_34 : decode cX4_tryRopes 34 = .ok (.iaload, 1) := by decide +kernel
theorem dX4_tryRopes_35 : decode cX4_tryRopes 35 = .ok (.istore_n 3, 1) := by decide +kernel
theorem dX4_tryRopes_36 : decode cX4_tryRopes 36 = .ok (.iload_n 3, 1) := by decide +kernel
theorem dX4_tryRopes_37 : decode cX4_tryRopes 37 = .ok (.ifCond .lt 11, 3) := by decide +kernel
theorem dX4_tryRopes_40 : decode cX4_tryRopes 40 = .ok (.iload_n 3, 1) := by decide +kernel
theorem dX4_tryRopes_41 : decode cX4_tryRopes 41 = .ok (.iload_n 2, 1) := by decide +kernel
theorem dX4_tryRopes_42 : decode cX4_tryRopes 42 = .ok (.if_icmp .ge 6, 3) := by decide +kernel
theorem dX4_tryRopes_45 : decode cX4_tryRopes 45 = .ok (.goto 38, 3) := by decide +kernel
theorem dX4_tryRopes_48 : decode cX4_tryRopes 48 = .ok (.iload_n 3, 1) := by decide +kernel
theorem dX4_tryRopes_49 : decode cX4_tryRopes 49 = .ok (.ifCond .ge 11, 3) := by decide +kernel
theorem dX4_tryRopes_52 : decode cX4_tryRopes 52 = .ok (.aload_n 0, 1) := by decide +kernel
theorem dX4_tryRopes_53 : decode cX4_tryRopes 53 = .ok (.iload_n 2, 1) := by decide +kernel
theorem dX4_tryRopes_54 : decode cX4_tryRopes 54 = .ok (.invokevirtual 271, 3) := by decide +kernel
theorem dX4_tryRopes_57 : decode cX4_tryRopes 57 = .ok (.goto 9, 3) := by decide +kernel
theorem dX4_tryRopes_60 : decode cX4_tryRopes 60 = .ok (.aload_n 0, 1) := by decide +kernel
theorem dX4_tryRopes_61 : decode cX4_tryRopes 61 = .ok (.iload_n 2, 1) := by decide +kernel
theorem dX4_tryRopes_62 : decode cX4_tryRopes 62 = .ok (.iload_n 3, 1) := by decide +kernel
theorem dX4_tryRopes_63 : decode cX4_tryRopes 63 = .ok (.invokevirtual 274, 3) := by decide +kernel
theorem dX4_tryRopes_66 : decode cX4_tryRopes 66 = .ok (.istore 4, 2) := by decide +kernel
theorem dX4_tryRopes_68 : decode cX4_tryRopes 68 = .ok (.iload 4, 2) := by decide +kernel
theorem dX4_tryRopes_70 : decode cX4_tryRopes 70 = .ok (.bipush (-9), 2) := by decide +kernel
theorem dX4_tryRopes_72 : decode cX4_tryRopes 72 = .ok (.if_icmp .ne 6, 3) := by decide +kernel
theorem dX4_tryRopes_75 : decode cX4_tryRopes 75 = .ok (.bipush (-9), 2) := by decide +kernel
theorem dX4_tryRopes_77 : decode cX4_tryRopes 77 = .ok (.ireturn, 1) := by decide +kernel
theorem dX4_tryRopes_78 : decode cX4_tryRopes 78 = .ok (.iload_n 1, 1) := by decide +kernel
theorem dX4_tryRopes_79 : decode cX4_tryRopes 79 = .ok (.iload 4, 2) := by decide +kernel
theorem dX4_tryRopes_81 : decode cX4_tryRopes 81 = .ok (.iadd, 1) := by decide +kernel
theorem dX4_tryRopes_82 : decode cX4_tryRopes 82 = .ok (.istore_n 1, 1) := by decide +kernel
theorem dX4_tryRopes_83 : decode cX4_tryRopes 83 = .ok (.iinc 2 1, 3) := by decide +kernel
theorem dX4_tryRopes_86 : decode cX4_tryRopes 86 = .ok (.goto (-71), 3) := by decide +kernel
theorem dX4_tryRopes_89 : decode cX4_tryRopes 89 = .ok (.iload_n 1, 1) := by decide +kernel
theorem dX4_tryRopes_90 : decode cX4_tryRopes 90 = .ok (.ireturn, 1) := by decide +kernel
theorem dX4_ropesAlone_0 : decode cX4_ropesAlone 0 = .ok (.aload_n 0, 1) := by decide +kernel
theorem dX4_ropesAlone_1 : decode cX4_ropesAlone 1 = .ok (.getfield 33, 3) := by decide +kernel
theorem dX4_ropesAlone_4 : decode cX4_ropesAlone 4 = .ok (.getfield 104, 3) := by decide +kernel
theorem dX4_ropesAlone_7 : decode cX4_ropesAlone 7 = .ok (.iload_n 1, 1) := by decide +kernel
theorem dX4_ropesAlone_8 : decode cX4_ropesAlone 8 = .ok (.iconst 0, 1) := by decide +kernel
theorem dX4_ropesAlone_9 : decode cX4_ropesAlone 9 = .ok (.iastore, 1) := by decide +kernel
theorem dX4_ropesAlone_10 : decode cX4_ropesAlone 10 = .ok (.aload_n 0, 1) := by decide +kernel
theorem dX4_ropesAlone_11 : decode cX4_ropesAlone 11 = .ok (.aload_n 0, 1) := by decide +kernel
theorem dX4_ropesAlone_12 : decode cX4_ropesAlone 12 = .ok (.getfield 33, 3) := by decide +kernel
theorem dX4_ropesAlone_15 : decode cX4_ropesAlone 15 = .ok (.iload_n 1, 1) := by decide +kernel
theorem dX4_ropesAlone_16 : decode cX4_ropesAlone 16 = .ok (.invokevirtual 163, 3) := by decide +kernel
theorem dX4_ropesAlone_19 : decode cX4_ropesAlone 19 = .ok (.ifCond .lt 7, 3) := by decide +kernel
theorem dX4_ropesAlone_22 : decode cX4_ropesAlone 22 = .ok (.iconst 0, 1) := by decide +kernel
theorem dX4_ropesAlone_23 : decode cX4_ropesAlone 23 = .ok (.goto 5, 3) := by decide +kernel
theorem dX4_ropesAlone_26 : decode cX4_ropesAlone 26 = .ok (.bipush (-9), 2) := by decide +kernel
theorem dX4_ropesAlone_28 : decode cX4_ropesAlone 28 = .ok (.ireturn, 1) := by decide +kernel
theorem dX4_ropesOfTwo_0 : decode cX4_ropesOfTwo 0 = .ok (.bipush (-9), 2) := by decide +kernel
theorem dX4_ropesOfTwo_2 : decode cX4_ropesOfTwo 2 = .ok (.istore_n 3, 1) := by decide +kernel
theorem dX4_ropesOfTwo_3 : decode cX4_ropesOfTwo 3 = .ok (.iconst 0, 1) := by decide +kernel
theorem dX4_ropesOfTwo_4 : decode cX4_ropesOfTwo 4 = .ok (.istore 4, 2) := by decide +kernel
theorem dX4_ropesOfTwo_6 : decode cX4_ropesOfTwo 6 = .ok (.iconst 0, 1) := by decide +kernel
theorem dX4_ropesOfTwo_7 : decode cX4_ropesOfTwo 7 = .ok (.istore 5, 2) := by decide +kernel
theorem dX4_ropesOfTwo_9 : decode cX4_ropesOfTwo 9 = .ok (.iload 5, 2) := by decide +kernel
theorem dX4_ropesOfTwo_11 : decode cX4_ropesOfTwo 11 = .ok (.iconst 3, 1) := by decide +kernel
theorem dX4_ropesOfTwo_12 : decode cX4_ropesOfTwo 12 = .ok (.if_icmp .gt 107, 3) := by decide +kernel
theorem dX4_ropesOfTwo_15 : decode cX4_ropesOfTwo 15 = .ok (.iconst 0, 1) := by decide +kernel
theorem dX4_ropesOfTwo_16 : decode cX4_ropesOfTwo 16 = .ok (.istore 6, 2) := by decide +kernel
theorem dX4_ropesOfTwo_18 : decode cX4_ropesOfTwo 18 = .ok (.iload 6, 2) := by decide +kernel
theorem dX4_ropesOfTwo_20 : decode cX4_ropesOfTwo 20 = .ok (.iconst 3, 1) := by decide +kernel
theorem dX4_ropesOfTwo_21 : decode cX4_ropesOfTwo 21 = .ok (.if_icmp .gt 92, 3) := by decide +kernel
theorem dX4_ropesOfTwo_24 : decode cX4_ropesOfTwo 24 = .ok (.aload_n 0, 1) := by decide +kernel
theorem dX4_ropesOfTwo_25 : decode cX4_ropesOfTwo 25 = .ok (.getfield 33, 3) := by decide +kernel
theorem dX4_ropesOfTwo_28 : decode cX4_ropesOfTwo 28 = .ok (.getfield 104, 3) := by decide +kernel
theorem dX4_ropesOfTwo_31 : decode cX4_ropesOfTwo 31 = .ok (.iload_n 1, 1) := by decide +kernel
theorem dX4_ropesOfTwo_32 : decode cX4_ropesOfTwo 32 = .ok (.iload 5, 2) := by decide +kernel
theorem dX4_ropesOfTwo_34 : decode cX4_ropesOfTwo 34 = .ok (.iastore, 1) := by decide +kernel
theorem dX4_ropesOfTwo_35 : decode cX4_ropesOfTwo 35 = .ok (.aload_n 0, 1) := by decide +kernel
theorem dX4_ropesOfTwo_36 : decode cX4_ropesOfTwo 36 = .ok (.getfield 33, 3) := by decide +kernel
theorem dX4_ropesOfTwo_39 : decode cX4_ropesOfTwo 39 = .ok (.getfield 104, 3) := by decide +kernel
theorem dX4_ropesOfTwo_42 : decode cX4_ropesOfTwo 42 = .ok (.iload_n 2, 1) := by decide +kernel
theorem dX4_ropesOfTwo_43 : decode cX4_ropesOfTwo 43 = .ok (.iload 6, 2) := by decide +kernel
theorem dX4_ropesOfTwo_45 : decode cX4_ropesOfTwo 45 = .ok (.iastore, 1) := by decide +kernel
theorem dX4_ropesOfTwo_46 : decode cX4_ropesOfTwo 46 = .ok (.aload_n 0, 1) := by decide +kernel
theorem dX4_ropesOfTwo_47 : decode cX4_ropesOfTwo 47 = .ok (.aload_n 0, 1) := by decide +kernel
theorem dX4_ropesOfTwo_48 : decode cX4_ropesOfTwo 48 = .ok (.getfield 33, 3) := by decide +kernel
theorem dX4_ropesOfTwo_51 : decode cX4_ropesOfTwo 51 = .ok (.iload_n 1, 1) := by decide +kernel
theorem dX4_ropesOfTwo_52 : decode cX4_ropesOfTwo 52 = .ok (.invokevirtual 163, 3) := by decide +kernel
theorem dX4_ropesOfTwo_55 : decode cX4_ropesOfTwo 55 = .ok (.ifCond .lt 19, 3) := by decide +kernel
theorem dX4_ropesOfTwo_58 : decode cX4_ropesOfTwo 58 = .ok (.aload_n 0, 1) := by decide +kernel
theorem dX4_ropesOfTwo_59 : decode cX4_ropesOfTwo 59 = .ok (.aload_n 0, 1) := by decide +kernel
theorem dX4_ropesOfTwo_60 : decode cX4_ropesOfTwo 60 = .ok (.getfield 33, 3) := by decide +kernel
theorem dX4_ropesOfTwo_63 : decode cX4_ropesOfTwo 63 = .ok (.iload_n 2, 1) := by decide +kernel
theorem dX4_ropesOfTwo_64 : decode cX4_ropesOfTwo 64 = .ok (.invokevirtual 163, 3) := by decide +kernel
theorem dX4_ropesOfTwo_67 : decode cX4_ropesOfTwo 67 = .ok (.ifCond .lt 7, 3) := by decide +kernel
theorem dX4_ropesOfTwo_70 : decode cX4_ropesOfTwo 70 = .ok (.iconst 1, 1) := by decide +kernel
theorem dX4_ropesOfTwo_71 : decode cX4_ropesOfTwo 71 = .ok (.goto 4, 3) := by decide +kernel
theorem dX4_ropesOfTwo_74 : decode cX4_ropesOfTwo 74 = .ok (.iconst 0, 1) := by decide +kernel
theorem dX4_ropesOfTwo_75 : decode cX4_ropesOfTwo 75 = .ok (.istore 7, 2) := by decide +kernel
theorem dX4_ropesOfTwo_77 : decode cX4_ropesOfTwo 77 = .ok (.iload 7, 2) := by decide +kernel
theorem dX4_ropesOfTwo_79 : decode cX4_ropesOfTwo 79 = .ok (.ifCond .eq 28, 3) := by decide +kernel
theorem dX4_ropesOfTwo_82 : decode cX4_ropesOfTwo 82 = .ok (.iload_n 3, 1) := by decide +kernel
theorem dX4_ropesOfTwo_83 : decode cX4_ropesOfTwo 83 = .ok (.bipush (-9), 2) := by decide +kernel
theorem dX4_ropesOfTwo_85 : decode cX4_ropesOfTwo 85 = .ok (.if_icmp .eq 12, 3) := by decide +kernel
theorem dX4_ropesOfTwo_88 : decode cX4_ropesOfTwo 88 = .ok (.iload 5, 2) := by decide +kernel
theorem dX4_ropesOfTwo_90 : decode cX4_ropesOfTwo 90 = .ok (.iload 6, 2) := by decide +kernel
theorem dX4_ropesOfTwo_92 : decode cX4_ropesOfTwo 92 = .ok (.iadd, 1) := by decide +kernel
theorem dX4_ropesOfTwo_93 : decode cX4_ropesOfTwo 93 = .ok (.iload_n 3, 1) := by decide +kernel
theorem dX4_ropesOfTwo_94 : decode cX4_ropesOfTwo 94 = .ok (.if_icmp .ge 13, 3) := by decide +kernel
theorem dX4_ropesOfTwo_97 : decode cX4_ropesOfTwo 97 = .ok (.iload 5, 2) := by decide +kernel
theorem dX4_ropesOfTwo_99 : decode cX4_ropesOfTwo 99 = .ok (.iload 6, 2) := by decide +kernel
theorem dX4_ropesOfTwo_101 : decode cX4_ropesOfTwo 101 = .ok (.iadd, 1) := by decide +kernel
theorem dX4_ropesOfTwo_102 : decode cX4_ropesOfTwo 102 = .ok (.istore_n 3, 1) := by decide +kernel
theorem dX4_ropesOfTwo_103 : decode cX4_ropesOfTwo 103 = .ok (.iload 5, 2) := by decide +kernel
theorem dX4_ropesOfTwo_105 : decode cX4_ropesOfTwo 105 = .ok (.istore 4, 2) := by decide +kernel
theorem dX4_ropesOfTwo_107 : decode cX4_ropesOfTwo 107 = .ok (.iinc 6 1, 3) := by decide +kernel
theorem dX4_ropesOfTwo_110 : decode cX4_ropesOfTwo 110 = .ok (.goto (-92), 3) := by decide +kernel
theorem dX4_ropesOfTwo_113 : decode cX4_ropesOfTwo 113 = .ok (.iinc 5 1, 3) := by decide +kernel
theorem dX4_ropesOfTwo_116 : decode cX4_ropesOfTwo 116 = .ok (.goto (-107), 3) := by decide +kernel
theorem dX4_ropesOfTwo_119 : decode cX4_ropesOfTwo 119 = .ok (.iload_n 3, 1) := by decide +kernel
theorem dX4_ropesOfTwo_120 : decode cX4_ropesOfTwo 120 = .ok (.bipush (-9), 2) := by decide +kernel
theorem dX4_ropesOfTwo_122 : decode cX4_ropesOfTwo 122 = .ok (.if_icmp .eq 27, 3) := by decide +kernel
theorem dX4_ropesOfTwo_125 : decode cX4_ropesOfTwo 125 = .ok (.aload_n 0, 1) := by decide +kernel
theorem dX4_ropesOfTwo_126 : decode cX4_ropesOfTwo 126 = .ok (.getfield 33, 3) := by decide +kernel
theorem dX4_ropesOfTwo_129 : decode cX4_ropesOfTwo 129 = .ok (.getfield 104, 3) := by decide +kernel
theorem dX4_ropesOfTwo_132 : decode cX4_ropesOfTwo 132 = .ok (.iload_n 1, 1) := by decide +kernel
theorem dX4_ropesOfTwo_133 : decode cX4_ropesOfTwo 133 = .ok (.iload 4, 2) := by decide +kernel
theorem dX4_ropesOfTwo_135 : decode cX4_ropesOfTwo 135 = .ok (.iastore, 1) := by decide +kernel
theorem dX4_ropesOfTwo_136 : decode cX4_ropesOfTwo 136 = .ok (.aload_n 0, 1) := by decide +kernel
theorem dX4_ropesOfTwo_137 : decode cX4_ropesOfTwo 137 = .ok (.getfield 33, 3) := by decide +kernel
theorem dX4_ropesOfTwo_140 : decode cX4_ropesOfTwo 140 = .ok (.getfield 104, 3) := by decide +kernel
theorem dX4_ropesOfTwo_143 : decode cX4_ropesOfTwo 143 = .ok (.iload_n 2, 1) := by decide +kernel
theorem dX4_ropesOfTwo_144 : decode cX4_ropesOfTwo 144 = .ok (.iload_n 3, 1) := by decide +kernel
theorem dX4_ropesOfTwo_145 : decode cX4_ropesOfTwo 145 = .ok (.iload 4, 2) := by decide +kernel
theorem dX4_ropesOfTwo_147 : decode cX4_ropesOfTwo 147 = .ok (.isub, 1) := by decide +kernel
theorem dX4_ropesOfTwo_148 : decode cX4_ropesOfTwo 148 = .ok (.iastore, 1) := by decide +kernel
theorem dX4_ropesOfTwo_149 : decode cX4_ropesOfTwo 149 = .ok (.iload_n 3, 1) := by decide +kernel
theorem dX4_ropesOfTwo_150 : decode cX4_ropesOfTwo 150 = .ok (.ireturn, 1) := by decide +kernel
theorem dX4_fitsStubble_0 : decode cX4_fitsStubble 0 = .ok (.iconst 0, 1) := by decide +kernel
theorem dX4_fitsStubble_1 : decode cX4_fitsStubble 1 = .ok (.istore_n 3, 1) := by decide +kernel
theorem dX4_fitsStubble_2 : decode cX4_fitsStubble 2 = .ok (.iload_n 3, 1) := by decide +kernel
theorem dX4_fitsStubble_3 : decode cX4_fitsStubble 3 = .ok (.aload_n 0, 1) := by decide +kernel
theorem dX4_fitsStubble_4 : decode cX4_fitsStubble 4 = .ok (.getfield 82, 3) := by decide +kernel
theorem dX4_fitsStubble_7 : decode cX4_fitsStubble 7 = .ok (.if_icmp .ge 31, 3) := by decide +kernel
theorem dX4_fitsStubble_10 : decode cX4_fitsStubble 10 = .ok (.aload_n 0, 1) := by decide +kernel
theorem dX4_fitsStubble_11 : decode cX4_fitsStubble 11 = .ok (.getfield 51, 3) := by decide +kernel
theorem dX4_fitsStubble_14 : decode cX4_fitsStubble 14 = .ok (.iload_n 3, 1) := by decide +kernel
theorem dX4_fitsStubble_15 : decode cX4_fitsStubble 15 = .ok (.iaload, 1) := by decide +kernel
theorem dX4_fitsStubble_16 : decode cX4_fitsStubble 16 = .ok (.iload_n 1, 1) := by decide +kernel
theorem dX4_fitsStubble_17 : decode cX4_fitsStubble 17 = .ok (.if_icmp .ne 15, 3) := by decide +kernel
theorem dX4_fitsStubble_20 : decode cX4_fitsStubble 20 = .ok (.aload_n 0, 1) := by decide +kernel
theorem dX4_fitsStubble_21 : decode cX4_fitsStubble 21 = .ok (.getfield 55, 3) := by decide +kernel
theorem dX4_fitsStubble_24 : decode cX4_fitsStubble 24 = .ok (.iload_n 3, 1) := by decide +kernel
theorem dX4_fitsStubble_25 : decode cX4_fitsStubble 25 = .ok (.iaload, 1) := by decide +kernel
theorem dX4_fitsStubble_26 : decode cX4_fitsStubble 26 = .ok (.iload_n 2, 1) := by decide +kernel
theorem dX4_fitsStubble_27 : decode cX4_fitsStubble 27 = .ok (.if_icmp .eq 5, 3) := by decide +kernel
theorem dX4_fitsStubble_30 : decode cX4_fitsStubble 30 = .ok (.iconst 0, 1) := by decide +kernel
theorem dX4_fitsStubble_31 : decode cX4_fitsStubble 31 = .ok (.ireturn, 1) := by decide +kernel
theorem dX4_fitsStubble_32 : decode cX4_fitsStubble 32 = .ok (.iinc 3 1, 3) := by decide +kernel
theorem dX4_fitsStubble_35 : decode cX4_fitsStubble 35 = .ok (.goto (-33), 3) := by decide +kernel
theorem dX4_fitsStubble_38 : decode cX4_fitsStubble 38 = .ok (.iconst 1, 1) := by decide +kernel
theorem dX4_fitsStubble_39 : decode cX4_fitsStubble 39 = .ok (.ireturn, 1) := by decide +kernel
theorem dX4_storedBehind_0 : decode cX4_storedBehind 0 = .ok (.sipush (-9999), 3) := by decide +kernel
theorem dX4_storedBehind_3 : decode cX4_storedBehind 3 = .ok (.sipush 9999, 3) := by decide +kernel
theorem dX4_storedBehind_6 : decode cX4_storedBehind 6 = .ok (.iload_n 0, 1) := by decide +kernel
theorem dX4_storedBehind_7 : decode cX4_storedBehind 7 = .ok (.iload_n 1, 1) := by decide +kernel
theorem dX4_storedBehind_8 : decode cX4_storedBehind 8 = .ok (.iadd, 1) := by decide +kernel
theorem dX4_storedBehind_9 : decode cX4_storedBehind 9 = .ok (.invokestatic 248, 3) := by decide +kernel
theorem dX4_storedBehind_12 : decode cX4_storedBehind 12 = .ok (.invokestatic 253, 3) := by decide +kernel
theorem dX4_storedBehind_15 : decode cX4_storedBehind 15 = .ok (.ireturn, 1) := by decide +kernel
theorem dX4_yearsTillPoor_0 : decode cX4_yearsTillPoor 0 = .ok (.aload_n 0, 1) := by decide +kernel
theorem dX4_yearsTillPoor_1 : decode cX4_yearsTillPoor 1 = .ok (.aload_n 0, 1) := by decide +kernel
theorem dX4_yearsTillPoor_2 : decode cX4_yearsTillPoor 2 = .ok (.getfield 29, 3) := by decide +kernel
theorem dX4_yearsTillPoor_5 : decode cX4_yearsTillPoor 5 = .ok (.iload_n 1, 1) := by decide +kernel
theorem dX4_yearsTillPoor_6 : decode cX4_yearsTillPoor 6 = .ok (.invokevirtual 163, 3) := by decide +kernel
theorem dX4_yearsTillPoor_9 : decode cX4_yearsTillPoor 9 = .ok (.istore_n 2, 1) := by decide +kernel
theorem dX4_yearsTillPoor_10 : decode cX4_yearsTillPoor 10 = .ok (.aload_n 0, 1) := by decide +kernel
theorem dX4_yearsTillPoor_11 : decode cX4_yearsTillPoor 11 = .ok (.getfield 29, 3) := by decide +kernel
theorem dX4_yearsTillPoor_14 : decode cX4_yearsTillPoor 14 = .ok (.getfield 132, 3) := by decide +kernel
theorem dX4_yearsTillPoor_17 : decode cX4_yearsTillPoor 17 = .ok (.iload_n 1, 1) := by decide +kernel
theorem dX4_yearsTillPoor_18 : decode cX4_yearsTillPoor 18 = .ok (.iaload, 1) := by decide +kernel
theorem dX4_yearsTillPoor_19 : decode cX4_yearsTillPoor 19 = .ok (.istore_n 3, 1) := by decide +kernel
theorem dX4_yearsTillPoor_20 : decode cX4_yearsTillPoor 20 = .ok (.iconst 0, 1) := by decide +kernel
theorem dX4_yearsTillPoor_21 : decode cX4_yearsTillPoor 21 = .ok (.istore 4, 2) := by decide +kernel
theorem dX4_yearsTillPoor_23 : decode cX4_yearsTillPoor 23 = .ok (.iload 4, 2) := by decide +kernel
theorem dX4_yearsTillPoor_25 : decode cX4_yearsTillPoor 25 = .ok (.sipush 400, 3) := by decide +kernel
theorem dX4_yearsTillPoor_28 : decode cX4_yearsTillPoor 28 = .ok (.if_icmp .gt 22, 3) := by decide +kernel
theorem dX4_yearsTillPoor_31 : decode cX4_yearsTillPoor 31 = .ok (.iload_n 3, 1) := by decide +kernel
theorem dX4_yearsTillPoor_32 : decode cX4_yearsTillPoor 32 = .ok (.ifCond .ge 6, 3) := by decide +kernel
theorem dX4_yearsTillPoor_35 : decode cX4_yearsTillPoor 35 = .ok (.iload 4, 2) := by decide +kernel
theorem dX4_yearsTillPoor_37 : decode cX4_yearsTillPoor 37 = .ok (.ireturn, 1) := by decide +kernel
theorem dX4_yearsTillPoor_38 : decode cX4_yearsTillPoor 38 = .ok (.iload_n 3, 1) := by decide +kernel
theorem dX4_yearsTillPoor_39 : decode cX4_yearsTillPoor 39 = .ok (.iload_n 2, 1) := by decide +kernel
theorem dX4_yearsTillPoor_40 : decode cX4_yearsTillPoor 40 = .ok (.invokestatic 166, 3) := by decide +kernel
theorem dX4_yearsTillPoor_43 : decode cX4_yearsTillPoor 43 = .ok (.istore_n 3, 1) := by decide +kernel
theorem dX4_yearsTillPoor_44 : decode cX4_yearsTillPoor 44 = .ok (.iinc 4 1, 3) := by decide +kernel
theorem dX4_yearsTillPoor_47 : decode cX4_yearsTillPoor 47 = .ok (.goto (-24), 3) := by decide +kernel
theorem dX4_yearsTillPoor_50 : decode cX4_yearsTillPoor 50 = .ok (.bipush (-9), 2) := by decide +kernel
theorem dX4_yearsTillPoor_52 : decode cX4_yearsTillPoor 52 = .ok (.ireturn, 1) := by decide +kernel
theorem dX4_chancesOf_0 : decode cX4_chancesOf 0 = .ok (.aload_n 0, 1) := by decide +kernel
theorem dX4_chancesOf_1 : decode cX4_chancesOf 1 = .ok (.getfield 33, 3) := by decide +kernel
theorem dX4_chancesOf_4 : decode cX4_chancesOf 4 = .ok (.aload_n 0, 1) := by decide +kernel
theorem dX4_chancesOf_5 : decode cX4_chancesOf 5 = .ok (.getfield 29, 3) := by decide +kernel
theorem dX4_chancesOf_8 : decode cX4_chancesOf 8 = .ok (.invokevirtual 173, 3) := by decide +kernel
theorem dX4_chancesOf_11 : decode cX4_chancesOf 11 = .ok (.aload_n 0, 1) := by decide +kernel
theorem dX4_chancesOf_12 : decode cX4_chancesOf 12 = .ok (.getfield 33, 3) := by decide +kernel
theorem dX4_chancesOf_15 : decode cX4_chancesOf 15 = .ok (.iconst 0, 1) := by decide +kernel
theorem dX4_chancesOf_16 : decode cX4_chancesOf 16 = .ok (.putfield 138, 3) := by decide +kernel
theorem dX4_chancesOf_19 : decode cX4_chancesOf 19 = .ok (.aload_n 0, 1) := by decide +kernel
theorem dX4_chancesOf_20 : decode cX4_chancesOf 20 = .ok (.aload_n 0, 1) := by decide +kernel
theorem dX4_chancesOf_21 : decode cX4_chancesOf 21 = .ok (.getfield 33, 3) := by decide +kernel
theorem dX4_chancesOf_24 : decode cX4_chancesOf 24 = .ok (.iload_n 3, 1) := by decide +kernel
theorem dX4_chancesOf_25 : decode cX4_chancesOf 25 = .ok (.invokevirtual 163, 3) := by decide +kernel
theorem dX4_chancesOf_28 : decode cX4_chancesOf 28 = .ok (.istore 5, 2) := by decide +kernel
theorem dX4_chancesOf_30 : decode cX4_chancesOf 30 = .ok (.aload_n 0, 1) := by decide +kernel
theorem dX4_chancesOf_31 : decode cX4_chancesOf 31 = .ok (.getfield 33, 3) := by decide +kernel
theorem dX4_chancesOf_34 : decode cX4_chancesOf 34 = .ok (.iconst 1, 1) := by decide +kernel
theorem dX4_chancesOf_35 : decode cX4_chancesOf 35 = .ok (.putfield 138, 3) := by decide +kernel
theorem dX4_chancesOf_38 : decode cX4_chancesOf 38 = .ok (.aload_n 0, 1) := by decide +kernel
theorem dX4_chancesOf_39 : decode cX4_chancesOf 39 = .ok (.aload_n 0, 1) := by decide +kernel
theorem dX4_chancesOf_40 : decode cX4_chancesOf 40 = .ok (.getfield 33, 3) := by decide +kernel
theorem dX4_chancesOf_43 : decode cX4_chancesOf 43 = .ok (.iload_n 3, 1) := by decide +kernel
theorem dX4_chancesOf_44 : decode cX4_chancesOf 44 = .ok (.invokevirtual 163, 3) := by decide +kernel
theorem dX4_chancesOf_47 : decode cX4_chancesOf 47 = .ok (.istore 6, 2) := by decide +kernel
theorem dX4_chancesOf_49 : decode cX4_chancesOf 49 = .ok (.iconst 0, 1) := by decide +kernel
theorem dX4_chancesOf_50 : decode cX4_chancesOf 50 = .ok (.istore 7, 2) := by decide +kernel
theorem dX4_chancesOf_52 : decode cX4_chancesOf 52 = .ok (.iconst 0, 1) := by decide +kernel
theorem dX4_chancesOf_53 : decode cX4_chancesOf 53 = .ok (.istore 8, 2) := by decide +kernel
theorem dX4_chancesOf_55 : decode cX4_chancesOf 55 = .ok (.iload 8, 2) := by decide +kernel
theorem dX4_chancesOf_57 : decode cX4_chancesOf 57 = .ok (.iconst 1, 1) := by decide +kernel
theorem dX4_chancesOf_58 : decode cX4_chancesOf 58 = .ok (.iload_n 2, 1) := by decide +kernel
theorem dX4_chancesOf_59 : decode cX4_chancesOf 59 = .ok (.ishl, 1) := by decide +kernel
theorem dX4_chancesOf_60 : decode cX4_chancesOf 60 = .ok (.if_icmp .ge 107, 3) := by decide +kernel
theorem dX4_chancesOf_63 : decode cX4_chancesOf 63 = .ok (.iconst 1, 1) := by decide +kernel
theorem dX4_chancesOf_64 : decode cX4_chancesOf 64 = .ok (.istore 9, 2) := by decide +kernel
theorem dX4_chancesOf_66 : decode cX4_chancesOf 66 = .ok (.aload_n 0, 1) := by decide +kernel
theorem dX4_chancesOf_67 : decode cX4_chancesOf 67 = .ok (.getfield 29, 3) := by decide +kernel
theorem dX4_chancesOf_70 : decode cX4_chancesOf 70 = .ok (.getfield 132, 3) := by decide +kernel
theorem dX4_chancesOf_73 : decode cX4_chancesOf 73 = .ok (.iload_n 3, 1) := by decide +kernel
theorem dX4_chancesOf_74 : decode cX4_chancesOf 74 = .ok (.iaload, 1) := by decide +kernel
theorem dX4_chancesOf_75 : decode cX4_chancesOf 75 = .ok (.istore 10, 2) := by decide +kernel
theorem dX4_chancesOf_77 : decode cX4_chancesOf 77 = .ok (.iconst 0, 1) := by decide +kernel
theorem dX4_chancesOf_78 : decode cX4_chancesOf 78 = .ok (.istore 11, 2) := by decide +kernel
theorem dX4_chancesOf_80 : decode cX4_chancesOf 80 = .ok (.iload 11, 2) := by decide +kernel
theorem dX4_chancesOf_82 : decode cX4_chancesOf 82 = .ok (.iload_n 2, 1) := by decide +kernel
theorem dX4_chancesOf_83 : decode cX4_chancesOf 83 = .ok (.if_icmp .ge 64, 3) := by decide +kernel
theorem dX4_chancesOf_86 : decode cX4_chancesOf 86 = .ok (.iload 8, 2) := by decide +kernel
theorem dX4_chancesOf_88 : decode cX4_chancesOf 88 = .ok (.iload 11, 2) := by decide +kernel
theorem dX4_chancesOf_90 : decode cX4_chancesOf 90 = .ok (.ishr, 1) := by decide +kernel
theorem dX4_chancesOf_91 : decode cX4_chancesOf 91 = .ok (.iconst 1, 1) := by decide +kernel
theorem dX4_chancesOf_92 : decode cX4_chancesOf 92 = .ok (.iand, 1) := by decide +kernel
theorem dX4_chancesOf_93 : decode cX4_chancesOf 93 = .ok (.iconst 1, 1) := by decide +kernel
theorem dX4_chancesOf_94 : decode cX4_chancesOf 94 = .ok (.if_icmp .ne 7, 3) := by decide +kernel
theorem dX4_chancesOf_97 : decode cX4_chancesOf 97 = .ok (.iconst 1, 1) := by decide +kernel
theorem dX4_chancesOf_98 : decode cX4_chancesOf 98 = .ok (.goto 4, 3) := by decide +kernel
theorem dX4_chancesOf_101 : decode cX4_chancesOf 101 = .ok (.iconst 0, 1) := by decide +kernel
theorem dX4_chancesOf_102 : decode cX4_chancesOf 102 = .ok (.istore 12, 2) := by decide +kernel
theorem dX4_chancesOf_104 : decode cX4_chancesOf 104 = .ok (.iload 9, 2) := by decide +kernel
theorem dX4_chancesOf_106 : decode cX4_chancesOf 106 = .ok (.iload 12, 2) := by decide +kernel
theorem dX4_chancesOf_108 : decode cX4_chancesOf 108 = .ok (.ifCond .eq 7, 3) := by decide +kernel
theorem dX4_chancesOf_111 : decode cX4_chancesOf 111 = .ok (.iload_n 1, 1) := by decide +kernel
theorem dX4_chancesOf_112 : decode cX4_chancesOf 112 = .ok (.goto 7, 3) := by decide +kernel
theorem dX4_chancesOf_115 : decode cX4_chancesOf 115 = .ok (.bipush 10, 2) := by decide +kernel
theorem dX4_chancesOf_117 : decode cX4_chancesOf 117 = .ok (.iload_n 1, 1) := by decide +kernel
theorem dX4_chancesOf_118 : decode cX4_chancesOf 118 = .ok (.isub, 1) := by decide +kernel
theorem dX4_chancesOf_119 : decode cX4_chancesOf 119 = .ok (.imul, 1) := by decide +kernel
theorem dX4_chancesOf_120 : decode cX4_chancesOf 120 = .ok (.istore 9, 2) := by decide +kernel
theorem dX4_chancesOf_122 : decode cX4_chancesOf 122 = .ok (.iload 10, 2) := by decide +kernel
theorem dX4_chancesOf_124 : decode cX4_chancesOf 124 = .ok (.iload 12, 2) := by decide +kernel
theorem dX4_chancesOf_126 : decode cX4_chancesOf 126 = .ok (.ifCond .eq 8, 3) := by decide +kernel
theorem dX4_chancesOf_129 : decode cX4_chancesOf 129 = .ok (.iload 6, 2) := by decide +kernel
theorem dX4_chancesOf_131 : decode cX4_chancesOf 131 = .ok (.goto 5, 3) := by decide +kernel
theorem dX4_chancesOf_134 : decode cX4_chancesOf 134 = .ok (.iload 5, 2) := by decide +kernel
theorem dX4_chancesOf_136 : decode cX4_chancesOf 136 = .ok (.invokestatic 166, 3) := by decide +kernel
theorem dX4_chancesOf_139 : decode cX4_chancesOf 139 = .ok (.istore 10, 2) := by decide +kernel
theorem dX4_chancesOf_141 : decode cX4_chancesOf 141 = .ok (.iinc 11 1, 3) := by decide +kernel
theorem dX4_chancesOf_144 : decode cX4_chancesOf 144 = .ok (.goto (-64), 3) := by decide +kernel
theorem dX4_chancesOf_147 : decode cX4_chancesOf 147 = .ok (.iload 10, 2) := by decide +kernel
theorem dX4_chancesOf_149 : decode cX4_chancesOf 149 = .ok (.iload 4, 2) := by decide +kernel
theorem dX4_chancesOf_151 : decode cX4_chancesOf 151 = .ok (.if_icmp .lt 10, 3) := by decide +kernel
theorem dX4_chancesOf_154 : decode cX4_chancesOf 154 = .ok (.iload 7, 2) := by decide +kernel
theorem dX4_chancesOf_156 : decode cX4_chancesOf 156 = .ok (.iload 9, 2) := by decide +kernel
theorem dX4_chancesOf_158 : decode cX4_chancesOf 158 = .ok (.iadd, 1) := by decide +kernel
theorem dX4_chancesOf_159 : decode cX4_chancesOf 159 = .ok (.istore 7, 2) := by decide +kernel
theorem dX4_chancesOf_161 : decode cX4_chancesOf 161 = .ok (.iinc 8 1, 3) := by decide +kernel
theorem dX4_chancesOf_164 : decode cX4_chancesOf 164 = .ok (.goto (-109), 3) := by decide +kernel
theorem dX4_chancesOf_167 : decode cX4_chancesOf 167 = .ok (.iload 7, 2) := by decide +kernel
theorem dX4_chancesOf_169 : decode cX4_chancesOf 169 = .ok (.ireturn, 1) := by decide +kernel
theorem dX4_inLeastTerms_0 : decode cX4_inLeastTerms 0 = .ok (.iload_n 1, 1) := by decide +kernel
theorem dX4_inLeastTerms_1 : decode cX4_inLeastTerms 1 = .ok (.istore_n 3, 1) := by decide +kernel
theorem dX4_inLeastTerms_2 : decode cX4_inLeastTerms 2 = .ok (.iload_n 0, 1) := by decide +kernel
theorem dX4_inLeastTerms_3 : decode cX4_inLeastTerms 3 = .ok (.istore 4, 2) := by decide +kernel
theorem dX4_inLeastTerms_5 : decode cX4_inLeastTerms 5 = .ok (.iconst 0, 1) := by decide +kernel
theorem dX4_inLeastTerms_6 : decode cX4_inLeastTerms 6 = .ok (.istore 5, 2) := by decide +kernel
theorem dX4_inLeastTerms_8 : decode cX4_inLeastTerms 8 = .ok (.iload 5, 2) := by decide +kernel
theorem dX4_inLeastTerms_10 : decode cX4_inLeastTerms 10 = .ok (.bipush 64, 2) := by decide +kernel
theorem dX4_inLeastTerms_12 : decode cX4_inLeastTerms 12 = .ok (.if_icmp .ge 27, 3) := by decide +kernel
theorem dX4_inLeastTerms_15 : decode cX4_inLeastTerms 15 = .ok (.iload 4, 2) := by decide +kernel
theorem dX4_inLeastTerms_17 : decode cX4_inLeastTerms 17 = .ok (.ifCond .eq 22, 3) := by decide +kernel
theorem dX4_inLeastTerms_20 : decode cX4_inLeastTerms 20 = .ok (.iload_n 3, 1) := by decide +kernel
theorem dX4_inLeastTerms_21 : decode cX4_inLeastTerms 21 = .ok (.iload 4, 2) := by decide +kernel
theorem dX4_inLeastTerms_23 : decode cX4_inLeastTerms 23 = .ok (.irem, 1) := by decide +kernel
theorem dX4_inLeastTerms_24 : decode cX4_inLeastTerms 24 = .ok (.istore 6, 2) := by decide +kernel
theorem dX4_inLeastTerms_26 : decode cX4_inLeastTerms 26 = .ok (.iload 4, 2) := by decide +kernel
theorem dX4_inLeastTerms_28 : decode cX4_inLeastTerms 28 = .ok (.istore_n 3, 1) := by decide +kernel
theorem dX4_inLeastTerms_29 : decode cX4_inLeastTerms 29 = .ok (.iload 6, 2) := by decide +kernel
theorem dX4_inLeastTerms_31 : decode cX4_inLeastTerms 31 = .ok (.istore 4, 2) := by decide +kernel
theorem dX4_inLeastTerms_33 : decode cX4_inLeastTerms 33 = .ok (.iinc 5 1, 3) := by decide +kernel
theorem dX4_inLeastTerms_36 : decode cX4_inLeastTerms 36 = .ok (.goto (-28), 3) := by decide +kernel
theorem dX4_inLeastTerms_39 : decode cX4_inLeastTerms 39 = .ok (.iload_n 3, 1) := by decide +kernel
theorem dX4_inLeastTerms_40 : decode cX4_inLeastTerms 40 = .ok (.ifCond .ne 5, 3) := by decide +kernel
theorem dX4_inLeastTerms_43 : decode cX4_inLeastTerms 43 = .ok (.iload_n 2, 1) := by decide +kernel
theorem dX4_inLeastTerms_44 : decode cX4_inLeastTerms 44 = .ok (.ireturn, 1) := by decide +kernel
theorem dX4_inLeastTerms_45 : decode cX4_inLeastTerms 45 = .ok (.iload_n 2, 1) := by decide +kernel
theorem dX4_inLeastTerms_46 : decode cX4_inLeastTerms 46 = .ok (.ifCond .ne 9, 3) := by decide +kernel
theorem dX4_inLeastTerms_49 : decode cX4_inLeastTerms 49 = .ok (.iload_n 0, 1) := by decide +kernel
theorem dX4_inLeastTerms_50 : decode cX4_inLeastTerms 50 = .ok (.iload_n 3, 1) := by decide +kernel
theorem dX4_inLeastTerms_51 : decode cX4_inLeastTerms 51 = .ok (.idiv, 1) := by decide +kernel
theorem dX4_inLeastTerms_52 : decode cX4_inLeastTerms 52 = .ok (.goto 6, 3) := by decide +kernel
theorem dX4_inLeastTerms_55 : decode cX4_inLeastTerms 55 = .ok (.iload_n 1, 1) := by decide +kernel
theorem dX4_inLeastTerms_56 : decode cX4_inLeastTerms 56 = .ok (.iload_n 3, 1) := by decide +kernel
theorem dX4_inLeastTerms_57 : decode cX4_inLeastTerms 57 = .ok (.idiv, 1) := by decide +kernel
theorem dX4_inLeastTerms_58 : decode cX4_inLeastTerms 58 = .ok (.ireturn, 1) := by decide +kernel
theorem dX4_rateMan_0 : decode cX4_rateMan 0 = .ok (.aload_n 0, 1) := by decide +kernel
theorem dX4_rateMan_1 : decode cX4_rateMan 1 = .ok (.dup, 1) := by decide +kernel
theorem dX4_rateMan_2 : decode cX4_rateMan 2 = .ok (.getfield 241, 3) := by decide +kernel
theorem dX4_rateMan_5 : decode cX4_rateMan 5 = .ok (.lconst 1, 1) := by decide +kernel
theorem dX4_rateMan_6 : decode cX4_rateMan 6 = .ok (.ladd, 1) := by decide +kernel
theorem dX4_rateMan_7 : decode cX4_rateMan 7 = .ok (.putfield 241, 3) := by decide +kernel
theorem dX4_rateMan_10 : decode cX4_rateMan 10 = .ok (.aload_n 0, 1) := by decide +kernel
theorem dX4_rateMan_11 : decode cX4_rateMan 11 = .ok (.aload_n 0, 1) := by decide +kernel
theorem dX4_rateMan_12 : decode cX4_rateMan 12 = .ok (.getfield 29, 3) := by decide +kernel
theorem dX4_rateMan_15 : decode cX4_rateMan 15 = .ok (.iload_n 1, 1) := by decide +kernel
theorem dX4_rateMan_16 : decode cX4_rateMan 16 = .ok (.invokevirtual 129, 3) := by decide +kernel
theorem dX4_rateMan_19 : decode cX4_rateMan 19 = .ok (.ireturn, 1) := by decide +kernel
theorem dX4_rateGiant_0 : decode cX4_rateGiant 0 = .ok (.aload_n 0, 1) := by decide +kernel
theorem dX4_rateGiant_1 : decode cX4_rateGiant 1 = .ok (.dup, 1) := by decide +kernel
theorem dX4_rateGiant_2 : decode cX4_rateGiant 2 = .ok (.getfield 241, 3) := by decide +kernel
theorem dX4_rateGiant_5 : decode cX4_rateGiant 5 = .ok (.ldc2_w 277, 3) := by decide +kernel
theorem dX4_rateGiant_8 : decode cX4_rateGiant 8 = .ok (.ladd, 1) := by decide +kernel
theorem dX4_rateGiant_9 : decode cX4_rateGiant 9 = .ok (.putfield 241, 3) := by decide +kernel
theorem dX4_rateGiant_12 : decode cX4_rateGiant 12 = .ok (.aload_n 0, 1) := by decide +kernel
theorem dX4_rateGiant_13 : decode cX4_rateGiant 13 = .ok (.iload_n 1, 1) := by decide +kernel
theorem dX4_rateGiant_14 : decode cX4_rateGiant 14 = .ok (.invokevirtual 223, 3) := by decide +kernel
theorem dX4_rateGiant_17 : decode cX4_rateGiant 17 = .ok (.aload_n 0, 1) := by decide +kernel
theorem dX4_rateGiant_18 : decode cX4_rateGiant 18 = .ok (.getfield 19, 3) := by decide +kernel
theorem dX4_rateGiant_21 : decode cX4_rateGiant 21 = .ok (.getfield 89, 3) := by decide +kernel
theorem dX4_rateGiant_24 : decode cX4_rateGiant 24 = .ok (.iload_n 1, 1) := by decide +kernel
theorem dX4_rateGiant_25 : decode cX4_rateGiant 25 = .ok (.iaload, 1) := by decide +kernel
theorem dX4_rateGiant_26 : decode cX4_rateGiant 26 = .ok (.iadd, 1) := by decide +kernel
theorem dX4_rateGiant_27 : decode cX4_rateGiant 27 = .ok (.ireturn, 1) := by decide +kernel
theorem dX4_rateWidow_0 : decode cX4_rateWidow 0 = .ok (.aload_n 0, 1) := by decide +kernel
theorem dX4_rateWidow_1 : decode cX4_rateWidow 1 = .ok (.dup, 1) := by decide +kernel
theorem dX4_rateWidow_2 : decode cX4_rateWidow 2 = .ok (.getfield 241, 3) := by decide +kernel
theorem dX4_rateWidow_5 : decode cX4_rateWidow 5 = .ok (.ldc2_w 279, 3) := by decide +kernel
theorem dX4_rateWidow_8 : decode cX4_rateWidow 8 = .ok (.ladd, 1) := by decide +kernel
theorem dX4_rateWidow_9 : decode cX4_rateWidow 9 = .ok (.putfield 241, 3) := by decide +kernel
theorem dX4_rateWidow_12 : decode cX4_rateWidow 12 = .ok (.aload_n 0, 1) := by decide +kernel
theorem dX4_rateWidow_13 : decode cX4_rateWidow 13 = .ok (.iload_n 1, 1) := by decide +kernel
theorem dX4_rateWidow_14 : decode cX4_rateWidow 14 = .ok (.invokevirtual 223, 3) := by decide +kernel
theorem dX4_rateWidow_17 : decode cX4_rateWidow 17 = .ok (.aload_n 0, 1) := by decide +kernel
theorem dX4_rateWidow_18 : decode cX4_rateWidow 18 = .ok (.getfield 19, 3) := by decide +kernel
theorem dX4_rateWidow_21 : decode cX4_rateWidow 21 = .ok (.getfield 95, 3) := by decide +kernel
theorem dX4_rateWidow_24 : decode cX4_rateWidow 24 = .ok (.iload_n 1, 1) := by decide +kernel
theorem dX4_rateWidow_25 : decode cX4_rateWidow 25 = .ok (.iaload, 1) := by decide +kernel
theorem dX4_rateWidow_26 : decode cX4_rateWidow 26 = .ok (.isub, 1) := by decide +kernel
theorem dX4_rateWidow_27 : decode cX4_rateWidow 27 = .ok (.ireturn, 1) := by decide +kernel
theorem dX4_rateBrother_0 : decode cX4_rateBrother 0 = .ok (.aload_n 0, 1) := by decide +kernel
theorem dX4_rateBrother_1 : decode cX4_rateBrother 1 = .ok (.dup, 1) := by decide +kernel
theorem dX4_rateBrother_2 : decode cX4_rateBrother 2 = .ok (.getfield 241, 3) := by decide +kernel
theorem dX4_rateBrother_5 : decode cX4_rateBrother 5 = .ok (.ldc2_w 281, 3) := by decide +kernel
theorem dX4_rateBrother_8 : decode cX4_rateBrother 8 = .ok (.ladd, 1) := by decide +kernel
theorem dX4_rateBrother_9 : decode cX4_rateBrother 9 = .ok (.putfield 241, 3) := by decide +kernel
theorem dX4_rateBrother_12 : decode cX4_rateBrother 12 = .ok (.iconst 2, 1) := by decide +kernel
theorem dX4_rateBrother_13 : decode cX4_rateBrother 13 = .ok (.aload_n 0, 1) := by decide +kernel
theorem dX4_rateBrother_14 : decode cX4_rateBrother 14 = .ok (.iload_n 1, 1) := by decide +kernel
theorem dX4_rateBrother_15 : decode cX4_rateBrother 15 = .ok (.invokevirtual 226, 3) := by decide +kernel
theorem dX4_rateBrother_18 : decode cX4_rateBrother 18 = .ok (.imul, 1) := by decide +kernel
theorem dX4_rateBrother_19 : decode cX4_rateBrother 19 = .ok (.ireturn, 1) := by decide +kernel
theorem dX4_rateGleaner_0 : decode cX4_rateGleaner 0 = .ok (.aload_n 0, 1) := by decide +kernel
theorem dX4_rateGleaner_1 : decode cX4_rateGleaner 1 = .ok (.dup, 1) := by decide +kernel
theorem dX4_rateGleaner_2 : decode cX4_rateGleaner 2 = .ok (.getfield 241, 3) := by decide +kernel
theorem dX4_rateGleaner_5 : decode cX4_rateGleaner 5 = .ok (.ldc2_w 283, 3) := by decide +kernel
theorem dX4_rateGleaner_8 : decode cX4_rateGleaner 8 = .ok (.ladd, 1) := by decide +kernel
theorem dX4_rateGleaner_9 : decode cX4_rateGleaner 9 = .ok (.putfield 241, 3) := by decide +kernel
theorem dX4_rateGleaner_12 : decode cX4_rateGleaner 12 = .ok (.aload_n 0, 1) := by decide +kernel
theorem dX4_rateGleaner_13 : decode cX4_rateGleaner 13 = .ok (.iload_n 1, 1) := by decide +kernel
theorem dX4_rateGleaner_14 : decode cX4_rateGleaner 14 = .ok (.invokevirtual 229, 3) := by decide +kernel
theorem dX4_rateGleaner_17 : decode cX4_rateGleaner 17 = .ok (.iload_n 1, 1) := by decide +kernel
theorem dX4_rateGleaner_18 : decode cX4_rateGleaner 18 = .ok (.iadd, 1) := by decide +kernel
theorem dX4_rateGleaner_19 : decode cX4_rateGleaner 19 = .ok (.ireturn, 1) := by decide +kernel
theorem dX4_rateGuest_0 : decode cX4_rateGuest 0 = .ok (.aload_n 0, 1) := by decide +kernel
theorem dX4_rateGuest_1 : decode cX4_rateGuest 1 = .ok (.dup, 1) := by decide +kernel
theorem dX4_rateGuest_2 : decode cX4_rateGuest 2 = .ok (.getfield 241, 3) := by decide +kernel
theorem dX4_rateGuest_5 : decode cX4_rateGuest 5 = .ok (.ldc2_w 285, 3) := by decide +kernel
theorem dX4_rateGuest_8 : decode cX4_rateGuest 8 = .ok (.ladd, 1) := by decide +kernel
theorem dX4_rateGuest_9 : decode cX4_rateGuest 9 = .ok (.putfield 241, 3) := by decide +kernel
theorem dX4_rateGuest_12 : decode cX4_rateGuest 12 = .ok (.aload_n 0, 1) := by decide +kernel
theorem dX4_rateGuest_13 : decode cX4_rateGuest 13 = .ok (.iload_n 1, 1) := by decide +kernel
theorem dX4_rateGuest_14 : decode cX4_rateGuest 14 = .ok (.invokevirtual 223, 3) := by decide +kernel
theorem dX4_rateGuest_17 : decode cX4_rateGuest 17 = .ok (.aload_n 0, 1) := by decide +kernel
theorem dX4_rateGuest_18 : decode cX4_rateGuest 18 = .ok (.getfield 29, 3) := by decide +kernel
theorem dX4_rateGuest_21 : decode cX4_rateGuest 21 = .ok (.getfield 135, 3) := by decide +kernel
theorem dX4_rateGuest_24 : decode cX4_rateGuest 24 = .ok (.iadd, 1) := by decide +kernel
theorem dX4_rateGuest_25 : decode cX4_rateGuest 25 = .ok (.ireturn, 1) := by decide +kernel
end
section
theorem dX5_init_0 : decode cX5_init 0 = .ok (.aload_n 0, 1) := by decide +kernel
theorem dX5_init_1 : decode cX5_init 1 = .ok (.invokespecial 1, 3) := by decide +kernel
theorem dX5_init_4 : decode cX5_init 4 = .ok (.aload_n 0, 1) := by decide +kernel
theorem dX5_init_5 : decode cX5_init 5 = .ok (.sipush 200, 3) := by decide +kernel
theorem dX5_init_8 : decode cX5_init 8 = .ok (.newarray .int, 2) := by decide +kernel
theorem dX5_init_10 : decode cX5_init 10 = .ok (.putfield 7, 3) := by decide +kernel
theorem dX5_init_13 : decode cX5_init 13 = .ok (.aload_n 0, 1) := by decide +kernel
theorem dX5_init_14 : decode cX5_init 14 = .ok (.iconst 4, 1) := by decide +kernel
theorem dX5_init_15 : decode cX5_init 15 = .ok (.newarray .int, 2) := by decide +kernel
theorem dX5_init_17 : decode cX5_init 17 = .ok (.putfield 13, 3) := by decide +kernel
theorem dX5_init_20 : decode cX5_init 20 = .ok (.aload_n 0, 1) := by decide +kernel
theorem dX5_init_21 : decode cX5_init 21 = .ok (.bipush 6, 2) := by decide +kernel
theorem dX5_init_23 : decode cX5_init 23 = .ok (.newarray .int, 2) := by decide +kernel
theorem dX5_init_25 : decode cX5_init 25 = .ok (.putfield 16, 3) := by decide +kernel
theorem dX5_init_28 : decode cX5_init 28 = .ok (.aload_n 0, 1) := by decide +kernel
theorem dX5_init_29 : decode cX5_init 29 = .ok (.bipush 6, 2) := by decide +kernel
theorem dX5_init_31 : decode cX5_init 31 = .ok (.newarray .int, 2) := by decide +kernel
theorem dX5_init_33 : decode cX5_init 33 = .ok (.putfield 19, 3) := by decide +kernel
theorem dX5_init_36 : decode cX5_init 36 = .ok (.aload_n 0, 1) := by decide +kernel
theorem dX5_init_37 : decode cX5_init 37 = .ok (.bipush 12, 2) := by decide +kernel
theorem dX5_init_39 : decode cX5_init 39 = .ok (.newarray .int, 2) := by decide +kernel
theorem dX5_init_41 : decode cX5_init 41 = .ok (.putfield 22, 3) := by decide +kernel
theorem dX5_init_44 : decode cX5_init 44 = .ok (.aload_n 0, 1) := by decide +kernel
theorem dX5_init_45 : decode cX5_init 45 = .ok (.bipush 12, 2) := by decide +kernel
theorem dX5_init_47 : decode cX5_init 47 = .ok (.newarray .int, 2) := by decide +kernel
theorem dX5_init_49 : decode cX5_init 49 = .ok (.putfield 25, 3) := by decide +kernel
theorem dX5_init_52 : decode cX5_init 52 = .ok (.aload_n 0, 1) := by decide +kernel
theorem dX5_init_53 : decode cX5_init 53 = .ok (.bipush 12, 2) := by decide +kernel
theorem dX5_init_55 : decode cX5_init 55 = .ok (.newarray .int, 2) := by decide +kernel
theorem dX5_init_57 : decode cX5_init 57 = .ok (.putfield 28, 3) := by decide +kernel
theorem dX5_init_60 : decode cX5_init 60 = .ok (.aload_n 0, 1) := by decide +kernel
theorem dX5_init_61 : decode cX5_init 61 = .ok (.bipush 36, 2) := by decide +kernel
theorem dX5_init_63 : decode cX5_init 63 = .ok (.newarray .int, 2) := by decide +kernel
theorem dX5_init_65 : decode cX5_init 65 = .ok (.putfield 31, 3) := by decide +kernel
theorem dX5_init_68 : decode cX5_init 68 = .ok (.aload_n 0, 1) := by decide +kernel
theorem dX5_init_69 : decode cX5_init 69 = .ok (.bipush 32, 2) := by decide +kernel
theorem dX5_init_71 : decode cX5_init 71 = .ok (.newarray .int, 2) := by decide +kernel
theorem dX5_init_73 : decode cX5_init 73 = .ok (.putfield 34, 3) := by decide +kernel
theorem dX5_init_76 : decode cX5_init 76 = .ok (.aload_n 0, 1) := by decide +kernel
theorem dX5_init_77 : decode cX5_init 77 = .ok (.bipush 32, 2) := by decide +kernel
theorem dX5_init_79 : decode cX5_init 79 = .ok (.newarray .int, 2) := by decide +kernel
theorem dX5_init_81 : decode cX5_init 81 = .ok (.putfield 37, 3) := by decide +kernel
theorem dX5_init_84 : decode cX5_init 84 = .ok (.aload_n 0, 1) := by decide +kernel
theorem dX5_init_85 : decode cX5_init 85 = .ok (.bipush 64, 2) := by decide +kernel
theorem dX5_init_87 : decode cX5_init 87 = .ok (.newarray .int, 2) := by decide +kernel
theorem dX5_init_89 : decode cX5_init 89 = .ok (.putfield 40, 3) := by decide +kernel
theorem dX5_init_92 : decode cX5_init 92 = .ok (.aload_n 0, 1) := by decide +kernel
theorem dX5_init_93 : decode cX5_init 93 = .ok (.iconst 2, 1) := by decide +kernel
theorem dX5_init_94 : decode cX5_init 94 = .ok (.newarray .boolean, 2) := by decide +kernel
theorem dX5_init_96 : decode cX5_init 96 = .ok (.putfield 43, 3) := by decide +kernel
theorem dX5_init_99 : decode cX5_init 99 = .ok (.aload_n 0, 1) := by decide +kernel
theorem dX5_init_100 : decode cX5_init 100 = .ok (.sipush 320, 3) := by decide +kernel
theorem dX5_init_103 : decode cX5_init 103 = .ok (.newarray .int, 2) := by decide +kernel
theorem dX5_init_105 : decode cX5_init 105 = .ok (.putfield 47, 3) := by decide +kernel
theorem dX5_init_108 : decode cX5_init 108 = .ok (.aload_n 0, 1) := by decide +kernel
theorem dX5_init_109 : decode cX5_init 109 = .ok (.iconst 5, 1) := by decide +kernel
theorem dX5_init_110 : decode cX5_init 110 = .ok (.newarray .int, 2) := by decide +kernel
theorem dX5_init_112 : decode cX5_init 112 = .ok (.putfield 50, 3) := by decide +kernel
theorem dX5_init_115 : decode cX5_init 115 = .ok (.aload_n 0, 1) := by decide +kernel
theorem dX5_init_116 : decode cX5_init 116 = .ok (.iconst 5, 1) := by decide +kernel
theorem dX5_init_117 : decode cX5_init 117 = .ok (.newarray .int, 2) := by decide +kernel
theorem dX5_init_119 : decode cX5_init 119 = .ok (.putfield 53, 3) := by decide +kernel
theorem dX5_init_122 : decode cX5_init 122 = .ok (.aload_n 0, 1) := by decide +kernel
theorem dX5_init_123 : decode cX5_init 123 = .ok (.bipush 6, 2) := by decide +kernel
theorem dX5_init_125 : decode cX5_init 125 = .ok (.newarray .int, 2) := by decide +kernel
theorem dX5_init_127 : decode cX5_init 127 = .ok (.putfield 56, 3) := by decide +kernel
theorem dX5_init_130 : decode cX5_init 130 = .ok (.aload_n 0, 1) := by decide +kernel
theorem dX5_init_131 : decode cX5_init 131 = .ok (.bipush 6, 2) := by decide +kernel
theorem dX5_init_133 : decode cX5_init 133 = .ok (.newarray .int, 2) := by decide +kernel
theorem dX5_init_135 : decode cX5_init 135 = .ok (.putfield 59, 3) := by decide +kernel
theorem dX5_init_138 : decode cX5_init 138 = .ok (.return_, 1) := by decide +kernel
theorem dX5_in_0 : decode cX5_in 0 = .ok (.iload_n 0, 1) := by decide +kernel
theorem dX5_in_1 : decode cX5_in 1 = .ok (.iload_n 1, 1) := by decide +kernel
theorem dX5_in_2 : decode cX5_in 2 = .ok (.if_icmp .lt 12, 3) := by decide +kernel
theorem dX5_in_5 : decode cX5_in 5 = .ok (.iload_n 0, 1) := by decide +kernel
theorem dX5_in_6 : decode cX5_in 6 = .ok (.iload_n 2, 1) := by decide +kernel
theorem dX5_in_7 : decode cX5_in 7 = .ok (.if_icmp .gt 7, 3) := by decide +kernel
theorem dX5_in_10 : decode cX5_in 10 = .ok (.iconst 1, 1) := by decide +kernel
theorem dX5_in_11 : decode cX5_in 11 = .ok (.goto 4, 3) := by decide +kernel
theorem dX5_in_14 : decode cX5_in 14 = .ok (.iconst 0, 1) := by decide +kernel
theorem dX5_in_15 : decode cX5_in 15 = .ok (.ireturn, 1) := by decide +kernel
theorem dX5_type_0 : decode cX5_type 0 = .ok (.aload_n 0, 1) := by decide +kernel
theorem dX5_type_1 : decode cX5_type 1 = .ok (.iconst 0, 1) := by decide +kernel
theorem dX5_type_2 : decode cX5_type 2 = .ok (.putfield 62, 3) := by decide +kernel
theorem dX5_type_5 : decode cX5_type 5 = .ok (.iload_n 1, 1) := by decide +kernel
theorem dX5_type_6 : decode cX5_type 6 = .ok (.iconst 0, 1) := by decide +kernel
theorem dX5_type_7 : decode cX5_type 7 = .ok (.sipush 255, 3) := by decide +kernel
theorem dX5_type_10 : decode cX5_type 10 = .ok (.invokestatic 66, 3) := by decide +kernel
theorem dX5_type_13 : decode cX5_type 13 = .ok (.ifCond .ne 5, 3) := by decide +kernel
theorem dX5_type_16 : decode cX5_type 16 = .ok (.iconst (-1), 1) := by decide +kernel
theorem dX5_type_17 : decode cX5_type 17 = .ok (.ireturn, 1) := by decide +kernel
theorem dX5_type_18 : decode cX5_type 18 = .ok (.aload_n 0, 1) := by decide +kernel
theorem dX5_type_19 : decode cX5_type 19 = .ok (.getfield 70, 3) := by decide +kernel
theorem dX5_type_22 : decode cX5_type 22 = .ok (.sipush 200, 3) := by decide +kernel
theorem dX5_type_25 : decode cX5_type 25 = .ok (.if_icmp .ne 6, 3) := by decide +kernel
theorem dX5_type_28 : decode cX5_type 28 = .ok (.bipush (-3), 2) := by decide +kernel
theorem dX5_type_30 : decode cX5_type 30 = .ok (.ireturn, 1) := by decide +kernel
theorem dX5_type_31 : decode cX5_type 31 = .ok (.aload_n 0, 1) := by decide +kernel
theorem dX5_type_32 : decode cX5_type 32 = .ok (.getfield 7, 3) := by decide +kernel
theorem dX5_type_35 : decode cX5_type 35 = .ok (.aload_n 0, 1) := by decide +kernel
theorem dX5_type_36 : decode cX5_type 36 = .ok (.getfield 70, 3) := by decide +kernel
theorem dX5_type_39 : decode cX5_type 39 = .ok (.iload_n 1, 1) := by decide +kernel
theorem dX5_type_40 : decode cX5_type 40 = .ok (.iastore, 1) := by decide +kernel
theorem dX5_type_41 : decode cX5_type 41 = .ok (.aload_n 0, 1) := by decide +kernel
theorem dX5_type_42 : decode cX5_type 42 = .ok (.dup, 1) := by decide +kernel
theorem dX5_type_43 : decode cX5_type 43 = .ok (.getfield 70, 3) := by decide +kernel
theorem dX5_type_46 : decode cX5_type 46 = .ok (.iconst 1, 1) := by decide +kernel
theorem dX5_type_47 : decode cX5_type 47 = .ok (.iadd, 1) := by decide +kernel
theorem dX5_type_48 : decode cX5_type 48 = .ok (.putfield 70, 3) := by decide +kernel
theorem dX5_type_51 : decode cX5_type 51 = .ok (.aload_n 0, 1) := by decide +kernel
theorem dX5_type_52 : decode cX5_type 52 = .ok (.getfield 70, 3) := by decide +kernel
theorem dX5_type_55 : decode cX5_type 55 = .ok (.ireturn, 1) := by decide +kernel
theorem dX5_clear_0 : decode cX5_clear 0 = .ok (.aload_n 0, 1) := by decide +kernel
theorem dX5_clear_1 : decode cX5_clear 1 = .ok (.iconst 0, 1) := by decide +kernel
theorem dX5_clear_2 : decode cX5_clear 2 = .ok (.putfield 62, 3) := by decide +kernel
theorem dX5_clear_5 : decode cX5_clear 5 = .ok (.aload_n 0, 1) := by decide +kernel
theorem dX5_clear_6 : decode cX5_clear 6 = .ok (.getfield 70, 3) := by decide +kernel
theorem dX5_clear_9 : decode cX5_clear 9 = .ok (.istore_n 1, 1) := by decide +kernel
theorem dX5_clear_10 : decode cX5_clear 10 = .ok (.aload_n 0, 1) := by decide +kernel
theorem dX5_clear_11 : decode cX5_clear 11 = .ok (.iconst 0, 1) := by decide +kernel
theorem dX5_clear_12 : decode cX5_clear 12 = .ok (.putfield 70, 3) := by decide +kernel
theorem dX5_clear_15 : decode cX5_clear 15 = .ok (.iload_n 1, 1) := by decide +kernel
theorem dX5_clear_16 : decode cX5_clear 16 = .ok (.ireturn, 1) := by decide +kernel
theorem dX5_letterAt_0 : decode cX5_letterAt 0 = .ok (.iload_n 1, 1) := by decide +kernel
theorem dX5_letterAt_1 : decode cX5_letterAt 1 = .ok (.aload_n 0, 1) := by decide +kernel
theorem dX5_letterAt_2 : decode cX5_letterAt 2 = .ok (.getfield 70, 3) := by decide +kernel
theorem dX5_letterAt_5 : decode cX5_letterAt 5 = .ok (.if_icmp .ge 12, 3) := by decide +kernel
theorem dX5_letterAt_8 : decode cX5_letterAt 8 = .ok (.aload_n 0, 1) := by decide +kernel
theorem dX5_letterAt_9 : decode cX5_letterAt 9 = .ok (.getfield 7, 3) := by decide +kernel
theorem dX5_letterAt_12 : decode cX5_letterAt 12 = .ok (.iload_n 1, 1) := by decide +kernel
theorem dX5_letterAt_13 : decode cX5_letterAt 13 = .ok (.iaload, 1) := by decide +kernel
theorem dX5_letterAt_14 : decode cX5_letterAt 14 = .ok (.goto 4, 3) := by decide +kernel
theorem dX5_letterAt_17 : decode cX5_letterAt 17 = .ok (.iconst (-1), 1) := by decide +kernel
theorem dX5_letterAt_18 : decode cX5_letterAt 18 = .ok (.ireturn, 1) := by decide +kernel
theorem dX5_advances_0 : decode cX5_advances 0 = .ok (.aload_n 0, 1) := by decide +kernel
theorem dX5_advances_1 : decode cX5_advances 1 = .ok (.aload_n 0, 1) := by decide +kernel
theorem dX5_advances_2 : decode cX5_advances 2 = .ok (.getfield 73, 3) := by decide +kernel
theorem dX5_advances_5 : decode cX5_advances 5 = .ok (.invokevirtual 76, 3) := by decide +kernel
theorem dX5_advances_8 : decode cX5_advances 8 = .ok (.bipush 32, 2) := by decide +kernel
theorem dX5_advances_10 : decode cX5_advances 10 = .ok (.if_icmp .ne 16, 3) := by decide +kernel
theorem dX5_advances_13 : decode cX5_advances 13 = .ok (.aload_n 0, 1) := by decide +kernel
theorem dX5_advances_14 : decode cX5_advances 14 = .ok (.dup, 1) := by decide +kernel
theorem dX5_advances_15 : decode cX5_advances 15 = .ok (.getfield 73, 3) := by decide +kernel
theorem dX5_advances_18 : decode cX5_advances 18 = .ok (.iconst 1, 1) := by decide +kernel
theorem dX5_advances_19 : decode cX5_advances 19 = .ok (.iadd, 1) := by decide +kernel
theorem dX5_advances_20 : decode cX5_advances 20 = .ok (.putfield 73, 3) := by decide +kernel
theorem dX5_advances_23 : decode cX5_advances 23 = .ok (.goto (-23), 3) := by decide +kernel
theorem dX5_advances_26 : decode cX5_advances 26 = .ok (.aload_n 0, 1) := by decide +kernel
theorem dX5_advances_27 : decode cX5_advances 27 = .ok (.aload_n 0, 1) := by decide +kernel
theorem dX5_advances_28 : decode cX5_advances 28 = .ok (.getfield 73, 3) := by decide +kernel
theorem dX5_advances_31 : decode cX5_advances 31 = .ok (.putfield 80, 3) := by decide +kernel
theorem dX5_advances_34 : decode cX5_advances 34 = .ok (.aload_n 0, 1) := by decide +kernel
theorem dX5_advances_35 : decode cX5_advances 35 = .ok (.aload_n 0, 1) := by decide +kernel
theorem dX5_advances_36 : decode cX5_advances 36 = .ok (.getfield 73, 3) := by decide +kernel
theorem dX5_advances_39 : decode cX5_advances 39 = .ok (.invokevirtual 76, 3) := by decide +kernel
theorem dX5_advances_42 : decode cX5_advances 42 = .ok (.istore_n 1, 1) := by decide +kernel
theorem dX5_advances_43 : decode cX5_advances 43 = .ok (.iload_n 1, 1) := by decide +kernel
theorem dX5_advances_44 : decode cX5_advances 44 = .ok (.ifCond .ge 11, 3) := by decide +kernel
theorem dX5_advances_47 : decode cX5_advances 47 = .ok (.aload_n 0, 1) := by decide +kernel
theorem dX5_advances_48 : decode cX5_advances 48 = .ok (.iconst 0, 1) := by decide +kernel
theorem dX5_advances_49 : decode cX5_advances 49 = .ok (.putfield 83, 3) := by decide +kernel
theorem dX5_advances_52 : decode cX5_advances 52 = .ok (.goto 175, 3) := by decide +kernel
theorem dX5_advances_55 : decode cX5_advances 55 = .ok (.iload_n 1, 1) := by decide +kernel
theorem dX5_advances_56 : decode cX5_advances 56 = .ok (.bipush 48, 2) := by decide +kernel
theorem dX5_advances_58 : decode cX5_advances 58 = .ok (.bipush 57, 2) := by decide +kernel
theorem dX5_advances_60 : decode cX5_advances 60 = .ok (.invokestatic 66, 3) := by decide +kernel
theorem dX5_advances_63 : decode cX5_advances 63 = .ok (.ifCond .eq 118, 3) := by decide +kernel
theorem dX5_advances_66 : decode cX5_advances 66 = .ok (.aload_n 0, 1) := by decide +kernel
theorem dX5_advances_67 : decode cX5_advances 67 = .ok (.iconst 0, 1) := by decide +kernel
theorem dX5_advances_68 : decode cX5_advances 68 = .ok (.putfield 86, 3) := by decide +kernel
theorem dX5_advances_71 : decode cX5_advances 71 = .ok (.aload_n 0, 1) := by decide +kernel
theorem dX5_advances_72 : decode cX5_advances 72 = .ok (.aload_n 0, 1) := by decide +kernel
theorem dX5_advances_73 : decode cX5_advances 73 = .ok (.getfield 73, 3) := by decide +kernel
theorem dX5_advances_76 : decode cX5_advances 76 = .ok (.invokevirtual 76, 3) := by decide +kernel
theorem dX5_advances_79 : decode cX5_advances 79 = .ok (.bipush 48, 2) := by decide +kernel
theorem dX5_advances_81 : decode cX5_advances 81 = .ok (.bipush 57, 2) := by decide +kernel
theorem dX5_advances_83 : decode cX5_advances 83 = .ok (.invokestatic 66, 3) := by decide +kernel
theorem dX5_advances_86 : decode cX5_advances 86 = .ok (.ifCond .eq 55, 3) := by decide +kernel
theorem dX5_advances_89 : decode cX5_advances 89 = .ok (.aload_n 0, 1) := by decide +kernel
theorem dX5_advances_90 : decode cX5_advances 90 = .ok (.aload_n 0, 1) := by decide +kernel
theorem dX5_advances_91 : decode cX5_advances 91 = .ok (.getfield 86, 3) := by decide +kernel
theorem dX5_advances_94 : decode cX5_advances 94 = .ok (.bipush 99, 2) := by decide +kernel
theorem dX5_advances_96 : decode cX5_advances 96 = .ok (.if_icmp .le 10, 3) := by decide +kernel
theorem dX5_advances_99 : decode cX5_advances 99 = .ok (.aload_n 0, 1) := by decide +kernel
theorem dX5_advances_100 : decode cX5_advances 100 = .ok (.getfield 86, 3) := by decide +kernel
theorem dX5_advances_103 : decode cX5_advances 103 = .ok (.goto 22, 3) := by decide +kernel
theorem dX5_advances_106 : decode cX5_advances 106 = .ok (.bipush 10, 2) := by decide +kernel
theorem dX5_advances_108 : decode cX5_advances 108 = .ok (.aload_n 0, 1) := by decide +kernel
theorem dX5_advances_109 : decode cX5_advances 109 = .ok (.getfield 86, 3) := by decide +kernel
theorem dX5_advances_112 : decode cX5_advances 112 = .ok (.imul, 1) := by decide +kernel
theorem dX5_advances_113 : decode cX5_advances 113 = .ok (.aload_n 0, 1) := by decide +kernel
theorem dX5_advances_114 : decode cX5_advances 114 = .ok (.aload_n 0, 1) := by decide +kernel
theorem dX5_advances_115 : decode cX5_advances 115 = .ok (.getfield 73, 3) := by decide +kernel
theorem dX5_advances_118 : decode cX5_advances 118 = .ok (.invokevirtual 76, 3) := by decide +kernel
theorem dX5_advances_121 : decode cX5_advances 121 = .ok (.iadd, 1) := by decide +kernel
theorem dX5_advances_122 : decode cX5_advances 122 = .ok (.bipush 48, 2) := by decide +kernel
theorem dX5_advances_124 : decode cX5_advances 124 = .ok (.isub, 1) := by decide +kernel
theorem dX5_advances_125 : decode cX5_advances 125 = .ok (.putfield 86, 3) := by decide +kernel
theorem dX5_advances_128 : decode cX5_advances 128 = .ok (.aload_n 0, 1) := by decide +kernel
theorem dX5_advances_129 : decode cX5_advances 129 = .ok (.dup, 1) := by decide +kernel
theorem dX5_advances_130 : decode cX5_advances 130 = .ok (.getfield 73, 3) := by decide +kernel
theorem dX5_advances_133 : decode cX5_advances 133 = .ok (.iconst 1, 1) := by decide +kernel
theorem dX5_advances_134 : decode cX5_advances 134 = .ok (.iadd, 1) := by decide +kernel
theorem dX5_advances_135 : decode cX5_advances 135 = .ok (.putfield 73, 3) := by decide +kernel
theorem dX5_advances_138 : decode cX5_advances 138 = .ok (.goto (-67), 3) := by decide +kernel
theorem dX5_advances_141 : decode cX5_advances 141 = .ok (.aload_n 0, 1) := by decide +kernel
theorem dX5_advances_142 : decode cX5_advances 142 = .ok (.aload_n 0, 1) := by decide +kernel
theorem dX5_advances_143 : decode cX5_advances 143 = .ok (.getfield 86, 3) := by decide +kernel
theorem dX5_advances_146 : decode cX5_advances 146 = .ok (.bipush 99, 2) := by decide +kernel
theorem dX5_advances_148 : decode cX5_advances 148 = .ok (.if_icmp .gt 22, 3) := by decide +kernel
theorem dX5_advances_151 : decode cX5_advances 151 = .ok (.iload_n 1, 1) := by decide +kernel
theorem dX5_advances_152 : decode cX5_advances 152 = .ok (.bipush 48, 2) := by decide +kernel
theorem dX5_advances_154 : decode cX5_advances 154 = .ok (.if_icmp .ne 20, 3) := by decide +kernel
theorem dX5_advances_157 : decode cX5_advances 157 = .ok (.aload_n 0, 1) := by decide +kernel
theorem dX5_advances_158 : decode cX5_advances 158 = .ok (.getfield 73, 3) := by decide +kernel
theorem dX5_advances_161 : decode cX5_advances 161 = .ok (.aload_n 0, 1) := by decide +kernel
theorem dX5_advances_162 : decode cX5_advances 162 = .ok (.getfield 80, 3) := by decide +kernel
theorem dX5_advances_165 : decode cX5_advances 165 = .ok (.isub, 1) := by decide +kernel
theorem dX5_advances_166 : decode cX5_advances 166 = .ok (.iconst 1, 1) := by decide +kernel
theorem dX5_advances_167 : decode cX5_advances 167 = .ok (.if_icmp .le 7, 3) := by decide +kernel
theorem dX5_advances_170 : decode cX5_advances 170 = .ok (.iconst 4, 1) := by decide +kernel
theorem dX5_advances_171 : decode cX5_advances 171 = .ok (.goto 4, 3) := by decide +kernel
theorem dX5_advances_174 : decode cX5_advances 174 = .ok (.iconst 2, 1) := by decide +kernel
theorem dX5_advances_175 : decode cX5_advances 175 = .ok (.putfield 83, 3) := by decide +kernel
theorem dX5_advances_178 : decode cX5_advances 178 = .ok (.goto 49, 3) := by decide +kernel
theorem dX5_advances_181 : decode cX5_advances 181 = .ok (.aload_n 0, 1) := by decide +kernel
theorem dX5_advances_182 : decode cX5_advances 182 = .ok (.dup, 1) := by decide +kernel
theorem dX5_advances_183 : decode cX5_advances 183 = .ok (.getfield 73, 3) := by decide +kernel
theorem dX5_advances_186 : decode cX5_advances 186 = .ok (.iconst 1, 1) := by decide +kernel
theorem dX5_advances_187 : decode cX5_advances 187 = .ok (.iadd, 1) := by decide +kernel
theorem dX5_advances_188 : decode cX5_advances 188 = .ok (.putfield 73, 3) := by decide +kernel
theorem dX5_advances_191 : decode cX5_advances 191 = .ok (.aload_n 0, 1) := by decide +kernel
theorem dX5_advances_192 : decode cX5_advances 192 = .ok (.iload_n 1, 1) := by decide +kernel
theorem dX5_advances_193 : decode cX5_advances 193 = .ok (.putfield 86, 3) := by decide +kernel
theorem dX5_advances_196 : decode cX5_advances 196 = .ok (.aload_n 0, 1) := by decide +kernel
theorem dX5_advances_197 : decode cX5_advances 197 = .ok (.iload_n 1, 1) := by decide +kernel
theorem dX5_advances_198 : decode cX5_advances 198 = .ok (.bipush 59, 2) := by decide +kernel
theorem dX5_advances_200 : decode cX5_advances 200 = .ok (.if_icmp .ne 7, 3) := by decide +kernel
theorem dX5_advances_203 : decode cX5_advances 203 = .ok (.iconst 3, 1) := by decide +kernel
theorem dX5_advances_204 : decode cX5_advances 204 = .ok (.goto 20, 3) := by decide +kernel
theorem dX5_advances_207 : decode cX5_advances 207 = .ok (.iload_n 1, 1) := by decide +kernel
theorem dX5_advances_208 : decode cX5_advances 208 = .ok (.bipush 99, 2) := by decide +kernel
theorem dX5_advances_210 : decode cX5_advances 210 = .ok (.if_icmp .eq 9, 3) := by decide +kernel
theorem dX5_advances_213 : decode cX5_advances 213 = .ok (.iload_n 1, 1) := by decide +kernel
theorem dX5_advances_214 : decode cX5_advances 214 = .ok (.bipush 109, 2) := by decide +kernel
theorem dX5_advances_216 : decode cX5_advances 216 = .ok (.if_icmp .ne 7, 3) := by decide +kernel
theorem dX5_advances_219 : decode cX5_advances 219 = .ok (.iconst 1, 1) := by decide +kernel
theorem dX5_advances_220 : decode cX5_advances 220 = .ok (.goto 4, 3) := by decide +kernel
theorem dX5_advances_223 : decode cX5_advances 223 = .ok (.iconst 4, 1) := by decide +kernel
theorem dX5_advances_224 : decode cX5_advances 224 = .ok (.putfield 83, 3) := by decide +kernel
theorem dX5_advances_227 : decode cX5_advances 227 = .ok (.return_, 1) := by decide +kernel
theorem dX5_isWell_0 : decode cX5_isWell 0 = .ok (.aload_n 0, 1) := by decide +kernel
theorem dX5_isWell_1 : decode cX5_isWell 1 = .ok (.getfield 89, 3) := by decide +kernel
theorem dX5_isWell_4 : decode cX5_isWell 4 = .ok (.ifCond .ge 7, 3) := by decide +kernel
theorem dX5_isWell_7 : decode cX5_isWell 7 = .ok (.iconst 1, 1) := by decide +kernel
theorem dX5_isWell_8 : decode cX5_isWell 8 = .ok (.goto 4, 3) := by decide +kernel
theorem dX5_isWell_11 : decode cX5_isWell 11 = .ok (.iconst 0, 1) := by decide +kernel
theorem dX5_isWell_12 : decode cX5_isWell 12 = .ok (.ireturn, 1) := by decide +kernel
theorem dX5_takesToken_0 : decode cX5_takesToken 0 = .ok (.aload_n 0, 1) := by decide +kernel
theorem dX5_takesToken_1 : decode cX5_takesToken 1 = .ok (.invokevirtual 92, 3) := by decide +kernel
theorem dX5_takesToken_4 : decode cX5_takesToken 4 = .ok (.ifCond .ne 5, 3) := by decide +kernel
theorem dX5_takesToken_7 : decode cX5_takesToken 7 = .ok (.iconst 0, 1) := by decide +kernel
theorem dX5_takesToken_8 : decode cX5_takesToken 8 = .ok (.ireturn, 1) := by decide +kernel
theorem dX5_takesToken_9 : decode cX5_takesToken 9 = .ok (.iload_n 1, 1) := by decide +kernel
theorem dX5_takesToken_10 : decode cX5_takesToken 10 = .ok (.ifCond .ne 13, 3) := by decide +kernel
theorem dX5_takesToken_13 : decode cX5_takesToken 13 = .ok (.aload_n 0, 1) := by decide +kernel
theorem dX5_takesToken_14 : decode cX5_takesToken 14 = .ok (.aload_n 0, 1) := by decide +kernel
theorem dX5_takesToken_15 : decode cX5_takesToken 15 = .ok (.getfield 80, 3) := by decide +kernel
theorem dX5_takesToken_18 : decode cX5_takesToken 18 = .ok (.putfield 89, 3) := by decide +kernel
theorem dX5_takesToken_21 : decode cX5_takesToken 21 = .ok (.iconst 0, 1) := by decide +kernel
theorem dX5_takesToken_22 : decode cX5_takesToken 22 = .ok (.ireturn, 1) := by decide +kernel
theorem dX5_takesToken_23 : decode cX5_takesToken 23 = .ok (.aload_n 0, 1) := by decide +kernel
theorem dX5_takesToken_24 : decode cX5_takesToken 24 = .ok (.getfield 86, 3) := by decide +kernel
theorem dX5_takesToken_27 : decode cX5_takesToken 27 = .ok (.istore_n 2, 1) := by decide +kernel
theorem dX5_takesToken_28 : decode cX5_takesToken 28 = .ok (.aload_n 0, 1) := by decide +kernel
theorem dX5_takesToken_29 : decode cX5_takesToken 29 = .ok (.invokevirtual 96, 3) := by decide +kernel
theorem dX5_takesToken_32 : decode cX5_takesToken 32 = .ok (.iload_n 2, 1) := by decide +kernel
theorem dX5_takesToken_33 : decode cX5_takesToken 33 = .ok (.ireturn, 1) := by decide +kernel
theorem dX5_number_0 : decode cX5_number 0 = .ok (.aload_n 0, 1) := by decide +kernel
theorem dX5_number_1 : decode cX5_number 1 = .ok (.aload_n 0, 1) := by decide +kernel
theorem dX5_number_2 : decode cX5_number 2 = .ok (.getfield 83, 3) := by decide +kernel
theorem dX5_number_5 : decode cX5_number 5 = .ok (.iconst 2, 1) := by decide +kernel
theorem dX5_number_6 : decode cX5_number 6 = .ok (.if_icmp .ne 19, 3) := by decide +kernel
theorem dX5_number_9 : decode cX5_number 9 = .ok (.aload_n 0, 1) := by decide +kernel
theorem dX5_number_10 : decode cX5_number 10 = .ok (.getfield 86, 3) := by decide +kernel
theorem dX5_number_13 : decode cX5_number 13 = .ok (.iload_n 1, 1) := by decide +kernel
theorem dX5_number_14 : decode cX5_number 14 = .ok (.iload_n 2, 1) := by decide +kernel
theorem dX5_number_15 : decode cX5_number 15 = .ok (.invokestatic 66, 3) := by decide +kernel
theorem dX5_number_18 : decode cX5_number 18 = .ok (.ifCond .eq 7, 3) := by decide +kernel
theorem dX5_number_21 : decode cX5_number 21 = .ok (.iconst 1, 1) := by decide +kernel
theorem dX5_number_22 : decode cX5_number 22 = .ok (.goto 4, 3) := by decide +kernel
theorem dX5_number_25 : decode cX5_number 25 = .ok (.iconst 0, 1) := by decide +kernel
theorem dX5_number_26 : decode cX5_number 26 = .ok (.invokevirtual 99, 3) := by decide +kernel
theorem dX5_number_29 : decode cX5_number 29 = .ok (.ireturn, 1) := by decide +kernel
theorem dX5_readsItem_0 : decode cX5_readsItem 0 = .ok (.iload_n 1, 1) := by decide +kernel
theorem dX5_readsItem_1 : decode cX5_readsItem 1 = .ok (.bipush 99, 2) := by decide +kernel
theorem dX5_readsItem_3 : decode cX5_readsItem 3 = .ok (.if_icmp .ne 56, 3) := by decide +kernel
theorem dX5_readsItem_6 : decode cX5_readsItem 6 = .ok (.aload_n 0, 1) := by decide +kernel
theorem dX5_readsItem_7 : decode cX5_readsItem 7 = .ok (.getfield 16, 3) := by decide +kernel
theorem dX5_readsItem_10 : decode cX5_readsItem 10 = .ok (.iconst 3, 1) := by decide +kernel
theorem dX5_readsItem_11 : decode cX5_readsItem 11 = .ok (.aload_n 0, 1) := by decide +kernel
theorem dX5_readsItem_12 : decode cX5_readsItem 12 = .ok (.getfield 13, 3) := by decide +kernel
theorem dX5_readsItem_15 : decode cX5_readsItem 15 = .ok (.iconst 2, 1) := by decide +kernel
theorem dX5_readsItem_16 : decode cX5_readsItem 16 = .ok (.iaload, 1) := by decide +kernel
theorem dX5_readsItem_17 : decode cX5_readsItem 17 = .ok (.iadd, 1) := by decide +kernel
theorem dX5_readsItem_18 : decode cX5_readsItem 18 = .ok (.aload_n 0, 1) := by decide +kernel
theorem dX5_readsItem_19 : decode cX5_readsItem 19 = .ok (.iconst 1, 1) := by decide +kernel
theorem dX5_readsItem_20 : decode cX5_readsItem 20 = .ok (.bipush 9, 2) := by decide +kernel
theorem dX5_readsItem_22 : decode cX5_readsItem 22 = .ok (.invokevirtual 103, 3) := by decide +kernel
theorem dX5_readsItem_25 : decode cX5_readsItem 25 = .ok (.iastore, 1) := by decide +kernel
theorem dX5_readsItem_26 : decode cX5_readsItem 26 = .ok (.aload_n 0, 1) := by decide +kernel
theorem dX5_readsItem_27 : decode cX5_readsItem 27 = .ok (.getfield 19, 3) := by decide +kernel
theorem dX5_readsItem_30 : decode cX5_readsItem 30 = .ok (.iconst 3, 1) := by decide +kernel
theorem dX5_readsItem_31 : decode cX5_readsItem 31 = .ok (.aload_n 0, 1) := by decide +kernel
theorem dX5_readsItem_32 : decode cX5_readsItem 32 = .ok (.getfield 13, 3) := by decide +kernel
theorem dX5_readsItem_35 : decode cX5_readsItem 35 = .ok (.iconst 2, 1) := by decide +kernel
theorem dX5_readsItem_36 : decode cX5_readsItem 36 = .ok (.iaload, 1) := by decide +kernel
theorem dX5_readsItem_37 : decode cX5_readsItem 37 = .ok (.iadd, 1) := by decide +kernel
theorem dX5_readsItem_38 : decode cX5_readsItem 38 = .ok (.aload_n 0, 1) := by decide +kernel
theorem dX5_readsItem_39 : decode cX5_readsItem 39 = .ok (.iconst 1, 1) := by decide +kernel
theorem dX5_readsItem_40 : decode cX5_readsItem 40 = .ok (.bipush 9, 2) := by decide +kernel
theorem dX5_readsItem_42 : decode cX5_readsItem 42 = .ok (.invokevirtual 103, 3) := by decide +kernel
theorem dX5_readsItem_45 : decode cX5_readsItem 45 = .ok (.iastore, 1) := by decide +kernel
theorem dX5_readsItem_46 : decode cX5_readsItem 46 = .ok (.aload_n 0, 1) := by decide +kernel
theorem dX5_readsItem_47 : decode cX5_readsItem 47 = .ok (.getfield 13, 3) := by decide +kernel
theorem dX5_readsItem_50 : decode cX5_readsItem 50 = .ok (.iconst 2, 1) := by decide +kernel
theorem dX5_readsItem_51 : decode cX5_readsItem 51 = .ok (.dup2, 1) := by decide +kernel
theorem dX5_readsItem_52 : decode cX5_readsItem 52 = .ok (.iaload, 1) := by decide +kernel
theorem dX5_readsItem_53 : decode cX5_readsItem 53 = .ok (.iconst 1, 1) := by decide +kernel
theorem dX5_readsItem_54 : decode cX5_readsItem 54 = .ok (.iadd, 1) := by decide +kernel
theorem dX5_readsItem_55 : decode cX5_readsItem 55 = .ok (.iastore, 1) := by decide +kernel
theorem dX5_readsItem_56 : decode cX5_readsItem 56 = .ok (.goto 97, 3) := by decide +kernel
theorem dX5_readsItem_59 : decode cX5_readsItem 59 = .ok (.bipush 6, 2) := by decide +kernel
theorem dX5_readsItem_61 : decode cX5_readsItem 61 = .ok (.aload_n 0, 1) := by decide +kernel
theorem dX5_readsItem_62 : decode cX5_readsItem 62 = .ok (.getfield 13, 3) := by decide +kernel
theorem dX5_readsItem_65 : decode cX5_readsItem 65 = .ok (.iconst 3, 1) := by decide +kernel
theorem dX5_readsItem_66 : decode cX5_readsItem 66 = .ok (.iaload, 1) := by decide +kernel
theorem dX5_readsItem_67 : decode cX5_readsItem 67 = .ok (.iadd, 1) := by decide +kernel
theorem dX5_readsItem_68 : decode cX5_readsItem 68 = .ok (.istore_n 2, 1) := by decide +kernel
theorem dX5_readsItem_69 : decode cX5_readsItem 69 = .ok (.aload_n 0, 1) := by decide +kernel
theorem dX5_readsItem_70 : decode cX5_readsItem 70 = .ok (.getfield 22, 3) := by decide +kernel
theorem dX5_readsItem_73 : decode cX5_readsItem 73 = .ok (.iload_n 2, 1) := by decide +kernel
theorem dX5_readsItem_74 : decode cX5_readsItem 74 = .ok (.aload_n 0, 1) := by decide +kernel
theorem dX5_readsItem_75 : decode cX5_readsItem 75 = .ok (.iconst 1, 1) := by decide +kernel
theorem dX5_readsItem_76 : decode cX5_readsItem 76 = .ok (.bipush 20, 2) := by decide +kernel
theorem dX5_readsItem_78 : decode cX5_readsItem 78 = .ok (.invokevirtual 103, 3) := by decide +kernel
theorem dX5_readsItem_81 : decode cX5_readsItem 81 = .ok (.iastore, 1) := by decide +kernel
theorem dX5_readsItem_82 : decode cX5_readsItem 82 = .ok (.aload_n 0, 1) := by decide +kernel
theorem dX5_readsItem_83 : decode cX5_readsItem 83 = .ok (.getfield 25, 3) := by decide +kernel
theorem dX5_readsItem_86 : decode cX5_readsItem 86 = .ok (.iload_n 2, 1) := by decide +kernel
theorem dX5_readsItem_87 : decode cX5_readsItem 87 = .ok (.aload_n 0, 1) := by decide +kernel
theorem dX5_readsItem_88 : decode cX5_readsItem 88 = .ok (.iconst 0, 1) := by decide +kernel
theorem dX5_readsItem_89 : decode cX5_readsItem 89 = .ok (.bipush 9, 2) := by decide +kernel
theorem dX5_readsItem_91 : decode cX5_readsItem 91 = .ok (.invokevirtual 103, 3) := by decide +kernel
theorem dX5_readsItem_94 : decode cX5_readsItem 94 = .ok (.iastore, 1) := by decide +kernel
theorem dX5_readsItem_95 : decode cX5_readsItem 95 = .ok (.aload_n 0, 1) := by decide +kernel
theorem dX5_readsItem_96 : decode cX5_readsItem 96 = .ok (.getfield 28, 3) := by decide +kernel
theorem dX5_readsItem_99 : decode cX5_readsItem 99 = .ok (.iload_n 2, 1) := by decide +kernel
theorem dX5_readsItem_100 : decode cX5_readsItem 100 = .ok (.aload_n 0, 1) := by decide +kernel
theorem dX5_readsItem_101 : decode cX5_readsItem 101 = .ok (.iconst 0, 1) := by decide +kernel
theorem dX5_readsItem_102 : decode cX5_readsItem 102 = .ok (.bipush 99, 2) := by decide +kernel
theorem dX5_readsItem_104 : decode cX5_readsItem 104 = .ok (.invokevirtual 103, 3) := by decide +kernel
theorem dX5_readsItem_107 : decode cX5_readsItem 107 = .ok (.iastore, 1) := by decide +kernel
theorem dX5_readsItem_108 : decode cX5_readsItem 108 = .ok (.iconst 0, 1) := by decide +kernel
theorem dX5_readsItem_109 : decode cX5_readsItem 109 = .ok (.istore_n 3, 1) := by decide +kernel
theorem dX5_readsItem_110 : decode cX5_readsItem 110 = .ok (.iload_n 3, 1) := by decide +kernel
theorem dX5_readsItem_111 : decode cX5_readsItem 111 = .ok (.aload_n 0, 1) := by decide +kernel
theorem dX5_readsItem_112 : decode cX5_readsItem 112 = .ok (.getfield 13, 3) := by decide +kernel
theorem dX5_readsItem_115 : decode cX5_readsItem 115 = .ok (.iconst 2, 1) := by decide +kernel
theorem dX5_readsItem_116 : decode cX5_readsItem 116 = .ok (.iaload, 1) := by decide +kernel
theorem dX5_readsItem_117 : decode cX5_readsItem 117 = .ok (.if_icmp .ge 26, 3) := by decide +kernel
theorem dX5_readsItem_120 : decode cX5_readsItem 120 = .ok (.aload_n 0, 1) := by decide +kernel
theorem dX5_readsItem_121 : decode cX5_readsItem 121 = .ok (.getfield 31, 3) := by decide +kernel
theorem dX5_readsItem_124 : decode cX5_readsItem 124 = .ok (.iconst 3, 1) := by decide +kernel
theorem dX5_readsItem_125 : decode cX5_readsItem 125 = .ok (.iload_n 2, 1) := by decide +kernel
theorem dX5_readsItem_126 : decode cX5_readsItem 126 = .ok (.imul, 1) := by decide +kernel
theorem dX5_readsItem_127 : decode cX5_readsItem 127 = .ok (.iload_n 3, 1) := by decide +kernel
theorem dX5_readsItem_128 : decode cX5_readsItem 128 = .ok (.iadd, 1) := by decide +kernel
theorem dX5_readsItem_129 : decode cX5_readsItem 129 = .ok (.aload_n 0, 1) := by decide +kernel
theorem dX5_readsItem_130 : decode cX5_readsItem 130 = .ok (.iconst 0, 1) := by decide +kernel
theorem dX5_readsItem_131 : decode cX5_readsItem 131 = .ok (.bipush 40, 2) := by decide +kernel
theorem dX5_readsItem_133 : decode cX5_readsItem 133 = .ok (.invokevirtual 103, 3) := by decide +kernel
theorem dX5_readsItem_136 : decode cX5_readsItem 136 = .ok (.iastore, 1) := by decide +kernel
theorem dX5_readsItem_137 : decode cX5_readsItem 137 = .ok (.iinc 3 1, 3) := by decide +kernel
theorem dX5_readsItem_140 : decode cX5_readsItem 140 = .ok (.goto (-30), 3) := by decide +kernel
theorem dX5_readsItem_143 : decode cX5_readsItem 143 = .ok (.aload_n 0, 1) := by decide +kernel
theorem dX5_readsItem_144 : decode cX5_readsItem 144 = .ok (.getfield 13, 3) := by decide +kernel
theorem dX5_readsItem_147 : decode cX5_readsItem 147 = .ok (.iconst 3, 1) := by decide +kernel
theorem dX5_readsItem_148 : decode cX5_readsItem 148 = .ok (.dup2, 1) := by decide +kernel
theorem dX5_readsItem_149 : decode cX5_readsItem 149 = .ok (.iaload, 1) := by decide +kernel
theorem dX5_readsItem_150 : decode cX5_readsItem 150 = .ok (.iconst 1, 1) := by decide +kernel
theorem dX5_readsItem_151 : decode cX5_readsItem 151 = .ok (.iadd, 1) := by decide +kernel
theorem dX5_readsItem_152 : decode cX5_readsItem 152 = .ok (.iastore, 1) := by decide +kernel
theorem dX5_readsItem_153 : decode cX5_readsItem 153 = .ok (.return_, 1) := by decide +kernel
theorem dX5_valley_0 : decode cX5_valley 0 = .ok (.aload_n 0, 1) := by decide +kernel
theorem dX5_valley_1 : decode cX5_valley 1 = .ok (.iconst 0, 1) := by decide +kernel
theorem dX5_valley_2 : decode cX5_valley 2 = .ok (.putfield 62, 3) := by decide +kernel
theorem dX5_valley_5 : decode cX5_valley 5 = .ok (.aload_n 0, 1) := by decide +kernel
theorem dX5_valley_6 : decode cX5_valley 6 = .ok (.iconst (-1), 1) := by decide +kernel
theorem dX5_valley_7 : decode cX5_valley 7 = .ok (.putfield 89, 3) := by decide +kernel
theorem dX5_valley_10 : decode cX5_valley 10 = .ok (.aload_n 0, 1) := by decide +kernel
theorem dX5_valley_11 : decode cX5_valley 11 = .ok (.iconst 0, 1) := by decide +kernel
theorem dX5_valley_12 : decode cX5_valley 12 = .ok (.putfield 73, 3) := by decide +kernel
theorem dX5_valley_15 : decode cX5_valley 15 = .ok (.iconst 0, 1) := by decide +kernel
theorem dX5_valley_16 : decode cX5_valley 16 = .ok (.istore_n 1, 1) := by decide +kernel
theorem dX5_valley_17 : decode cX5_valley 17 = .ok (.aload_n 0, 1) := by decide +kernel
theorem dX5_valley_18 : decode cX5_valley 18 = .ok (.getfield 13, 3) := by decide +kernel
theorem dX5_valley_21 : decode cX5_valley 21 = .ok (.iconst 2, 1) := by decide +kernel
theorem dX5_valley_22 : decode cX5_valley 22 = .ok (.iconst 0, 1) := by decide +kernel
theorem dX5_valley_23 : decode cX5_valley 23 = .ok (.iastore, 1) := by decide +kernel
theorem dX5_valley_24 : decode cX5_valley 24 = .ok (.aload_n 0, 1) := by decide +kernel
theorem dX5_valley_25 : decode cX5_valley 25 = .ok (.getfield 13, 3) := by decide +kernel
theorem dX5_valley_28 : decode cX5_valley 28 = .ok (.iconst 3, 1) := by decide +kernel
theorem dX5_valley_29 : decode cX5_valley 29 = .ok (.iconst 0, 1) := by decide +kernel
theorem dX5_valley_30 : decode cX5_valley 30 = .ok (.iastore, 1) := by decide +kernel
theorem dX5_valley_31 : decode cX5_valley 31 = .ok (.aload_n 0, 1) := by decide +kernel
theorem dX5_valley_32 : decode cX5_valley 32 = .ok (.invokevirtual 96, 3) := by decide +kernel
theorem dX5_valley_35 : decode cX5_valley 35 = .ok (.aload_n 0, 1) := by decide +kernel
theorem dX5_valley_36 : decode cX5_valley 36 = .ok (.invokevirtual 92, 3) := by decide +kernel
theorem dX5_valley_39 : decode cX5_valley 39 = .ok (.ifCond .eq 115, 3) := by decide +kernel
theorem dX5_valley_42 : decode cX5_valley 42 = .ok (.aload_n 0, 1) := by decide +kernel
theorem dX5_valley_43 : decode cX5_valley 43 = .ok (.getfield 83, 3) := by decide +kernel
theorem dX5_valley_46 : decode cX5_valley 46 = .ok (.ifCond .eq 108, 3) := by decide +kernel
theorem dX5_valley_49 : decode cX5_valley 49 = .ok (.aload_n 0, 1) := by decide +kernel
theorem dX5_valley_50 : decode cX5_valley 50 = .ok (.aload_n 0, 1) := by decide +kernel
theorem dX5_valley_51 : decode cX5_valley 51 = .ok (.getfield 83, 3) := by decide +kernel
theorem dX5_valley_54 : decode cX5_valley 54 = .ok (.iconst 1, 1) := by decide +kernel
theorem dX5_valley_55 : decode cX5_valley 55 = .ok (.if_icmp .ne 58, 3) := by decide +kernel
theorem dX5_valley_58 : decode cX5_valley 58 = .ok (.aload_n 0, 1) := by decide +kernel
theorem dX5_valley_59 : decode cX5_valley 59 = .ok (.getfield 86, 3) := by decide +kernel
theorem dX5_valley_62 : decode cX5_valley 62 = .ok (.bipush 99, 2) := by decide +kernel
theorem dX5_valley_64 : decode cX5_valley 64 = .ok (.if_icmp .ne 25, 3) := by decide +kernel
theorem dX5_valley_67 : decode cX5_valley 67 = .ok (.aload_n 0, 1) := by decide +kernel
theorem dX5_valley_68 : decode cX5_valley 68 = .ok (.getfield 13, 3) := by decide +kernel
theorem dX5_valley_71 : decode cX5_valley 71 = .ok (.iconst 2, 1) := by decide +kernel
theorem dX5_valley_72 : decode cX5_valley 72 = .ok (.iaload, 1) := by decide +kernel
theorem dX5_valley_73 : decode cX5_valley 73 = .ok (.iconst 3, 1) := by decide +kernel
theorem dX5_valley_74 : decode cX5_valley 74 = .ok (.if_icmp .ge 39, 3) := by decide +kernel
theorem dX5_valley_77 : decode cX5_valley 77 = .ok (.aload_n 0, 1) := by decide +kernel
theorem dX5_valley_78 : decode cX5_valley 78 = .ok (.getfield 13, 3) := by decide +kernel
theorem dX5_valley_81 : decode cX5_valley 81 = .ok (.iconst 3, 1) := by decide +kernel
theorem dX5_valley_82 : decode cX5_valley 82 = .ok (.iaload, 1) := by decide +kernel
theorem dX5_valley_83 : decode cX5_valley 83 = .ok (.ifCond .ne 30, 3) := by decide +kernel
theorem dX5_valley_86 : decode cX5_valley 86 = .ok (.goto 23, 3) := by decide +kernel
theorem dX5_valley_89 : decode cX5_valley 89 = .ok (.aload_n 0, 1) := by decide +kernel
theorem dX5_valley_90 : decode cX5_valley 90 = .ok (.getfield 13, 3) := by decide +kernel
theorem dX5_valley_93 : decode cX5_valley 93 = .ok (.iconst 2, 1) := by decide +kernel
theorem dX5_valley_94 : decode cX5_valley 94 = .ok (.iaload, 1) := by decide +kernel
theorem dX5_valley_95 : decode cX5_valley 95 = .ok (.ifCond .le 18, 3) := by decide +kernel
theorem dX5_valley_98 : decode cX5_valley 98 = .ok (.aload_n 0, 1) := by decide +kernel
theorem dX5_valley_99 : decode cX5_valley 99 = .ok (.getfield 13, 3) := by decide +kernel
theorem dX5_valley_102 : decode cX5_valley 102 = .ok (.iconst 3, 1) := by decide +kernel
theorem dX5_valley_103 : decode cX5_valley 103 = .ok (.iaload, 1) := by decide +kernel
theorem dX5_valley_104 : decode cX5_valley 104 = .ok (.bipush 6, 2) := by decide +kernel
theorem dX5_valley_106 : decode cX5_valley 106 = .ok (.if_icmp .ge 7, 3) := by decide +kernel
theorem dX5_valley_109 : decode cX5_valley 109 = .ok (.iconst 1, 1) := by decide +kernel
theorem dX5_valley_110 : decode cX5_valley 110 = .ok (.goto 4, 3) := by decide +kernel
theorem dX5_valley_113 : decode cX5_valley 113 = .ok (.iconst 0, 1) := by decide +kernel
theorem dX5_valley_114 : decode cX5_valley 114 = .ok (.invokevirtual 99, 3) := by decide +kernel
theorem dX5_valley_117 : decode cX5_valley 117 = .ok (.istore_n 2, 1) := by decide +kernel
theorem dX5_valley_118 : decode cX5_valley 118 = .ok (.aload_n 0, 1) := by decide +kernel
theorem dX5_valley_119 : decode cX5_valley 119 = .ok (.invokevirtual 92, 3) := by decide +kernel
theorem dX5_valley_122 : decode cX5_valley 122 = .ok (.ifCond .eq 8, 3) := by decide +kernel
theorem dX5_valley_125 : decode cX5_valley 125 = .ok (.aload_n 0, 1) := by decide +kernel
theorem dX5_valley_126 : decode cX5_valley 126 = .ok (.iload_n 2, 1) := by decide +kernel
theorem dX5_valley_127 : decode cX5_valley 127 = .ok (.invokevirtual 107, 3) := by decide +kernel
theorem dX5_valley_130 : decode cX5_valley 130 = .ok (.aload_n 0, 1) := by decide +kernel
theorem dX5_valley_131 : decode cX5_valley 131 = .ok (.aload_n 0, 1) := by decide +kernel
theorem dX5_valley_132 : decode cX5_valley 132 = .ok (.getfield 83, 3) := by decide +kernel
theorem dX5_valley_135 : decode cX5_valley 135 = .ok (.iconst 3, 1) := by decide +kernel
theorem dX5_valley_136 : decode cX5_valley 136 = .ok (.if_icmp .ne 7, 3) := by decide +kernel
theorem dX5_valley_139 : decode cX5_valley 139 = .ok (.iconst 1, 1) := by decide +kernel
theorem dX5_valley_140 : decode cX5_valley 140 = .ok (.goto 4, 3) := by decide +kernel
theorem dX5_valley_143 : decode cX5_valley 143 = .ok (.iconst 0, 1) := by decide +kernel
theorem dX5_valley_144 : decode cX5_valley 144 = .ok (.invokevirtual 99, 3) := by decide +kernel
theorem dX5_valley_147 : decode cX5_valley 147 = .ok (.pop, 1) := by decide +kernel
theorem dX5_valley_148 : decode cX5_valley 148 = .ok (.iinc 1 1, 3) := by decide +kernel
theorem dX5_valley_151 : decode cX5_valley 151 = .ok (.goto (-116), 3) := by decide +kernel
theorem dX5_valley_154 : decode cX5_valley 154 = .ok (.aload_n 0, 1) := by decide +kernel
theorem dX5_valley_155 : decode cX5_valley 155 = .ok (.invokevirtual 92, 3) := by decide +kernel
theorem dX5_valley_158 : decode cX5_valley 158 = .ok (.ifCond .ne 11, 3) := by decide +kernel
theorem dX5_valley_161 : decode cX5_valley 161 = .ok (.bipush (-10), 2) := by decide +kernel
theorem dX5_valley_163 : decode cX5_valley 163 = .ok (.aload_n 0, 1) := by decide +kernel
theorem dX5_valley_164 : decode cX5_valley 164 = .ok (.getfield 89, 3) := by decide +kernel
theorem dX5_valley_167 : decode cX5_valley 167 = .ok (.isub, 1) := by decide +kernel
theorem dX5_valley_168 : decode cX5_valley 168 = .ok (.ireturn, 1) := by decide +kernel
theorem dX5_valley_169 : decode cX5_valley 169 = .ok (.aload_n 0, 1) := by decide +kernel
theorem dX5_valley_170 : decode cX5_valley 170 = .ok (.invokevirtual 111, 3) := by decide +kernel
theorem dX5_valley_173 : decode cX5_valley 173 = .ok (.iload_n 1, 1) := by decide +kernel
theorem dX5_valley_174 : decode cX5_valley 174 = .ok (.ireturn, 1) := by decide +kernel
theorem dX5_settles_0 : decode cX5_settles 0 = .ok (.aload_n 0, 1) := by decide +kernel
theorem dX5_settles_1 : decode cX5_settles 1 = .ok (.getfield 13, 3) := by decide +kernel
theorem dX5_settles_4 : decode cX5_settles 4 = .ok (.iconst 0, 1) := by decide +kernel
theorem dX5_settles_5 : decode cX5_settles 5 = .ok (.aload_n 0, 1) := by decide +kernel
theorem dX5_settles_6 : decode cX5_settles 6 = .ok (.getfield 13, 3) := by decide +kernel
theorem dX5_settles_9 : decode cX5_settles 9 = .ok (.iconst 2, 1) := by decide +kernel
theorem dX5_settles_10 : decode cX5_settles 10 = .ok (.iaload, 1) := by decide +kernel
theorem dX5_settles_11 : decode cX5_settles 11 = .ok (.iastore, 1) := by decide +kernel
theorem dX5_settles_12 : decode cX5_settles 12 = .ok (.aload_n 0, 1) := by decide +kernel
theorem dX5_settles_13 : decode cX5_settles 13 = .ok (.getfield 13, 3) := by decide +kernel
theorem dX5_settles_16 : decode cX5_settles 16 = .ok (.iconst 1, 1) := by decide +kernel
theorem dX5_settles_17 : decode cX5_settles 17 = .ok (.aload_n 0, 1) := by decide +kernel
theorem dX5_settles_18 : decode cX5_settles 18 = .ok (.getfield 13, 3) := by decide +kernel
theorem dX5_settles_21 : decode cX5_settles 21 = .ok (.iconst 3, 1) := by decide +kernel
theorem dX5_settles_22 : decode cX5_settles 22 = .ok (.iaload, 1) := by decide +kernel
theorem dX5_settles_23 : decode cX5_settles 23 = .ok (.iastore, 1) := by decide +kernel
theorem dX5_settles_24 : decode cX5_settles 24 = .ok (.iconst 0, 1) := by decide +kernel
theorem dX5_settles_25 : decode cX5_settles 25 = .ok (.istore_n 1, 1) := by decide +kernel
theorem dX5_settles_26 : decode cX5_settles 26 = .ok (.iload_n 1, 1) := by decide +kernel
theorem dX5_settles_27 : decode cX5_settles 27 = .ok (.bipush 32, 2) := by decide +kernel
theorem dX5_settles_29 : decode cX5_settles 29 = .ok (.if_icmp .ge 16, 3) := by decide +kernel
theorem dX5_settles_32 : decode cX5_settles 32 = .ok (.aload_n 0, 1) := by decide +kernel
theorem dX5_settles_33 : decode cX5_settles 33 = .ok (.getfield 34, 3) := by decide +kernel
theorem dX5_settles_36 : decode cX5_settles 36 = .ok (.iload_n 1, 1) := by decide +kernel
theorem dX5_settles_37 : decode cX5_settles 37 = .ok (.iconst 0, 1) := by decide +kernel
theorem dX5_settles_38 : decode cX5_settles 38 = .ok (.iastore, 1) := by decide +kernel
theorem dX5_settles_39 : decode cX5_settles 39 = .ok (.iinc 1 1, 3) := by decide +kernel
theorem dX5_settles_42 : decode cX5_settles 42 = .ok (.goto (-16), 3) := by decide +kernel
theorem dX5_settles_45 : decode cX5_settles 45 = .ok (.iconst 0, 1) := by decide +kernel
theorem dX5_settles_46 : decode cX5_settles 46 = .ok (.istore_n 1, 1) := by decide +kernel
theorem dX5_settles_47 : decode cX5_settles 47 = .ok (.iload_n 1, 1) := by decide +kernel
theorem dX5_settles_48 : decode cX5_settles 48 = .ok (.iconst 3, 1) := by decide +kernel
theorem dX5_settles_49 : decode cX5_settles 49 = .ok (.if_icmp .ge 37, 3) := by decide +kernel
theorem dX5_settles_52 : decode cX5_settles 52 = .ok (.aload_n 0, 1) := by decide +kernel
theorem dX5_settles_53 : decode cX5_settles 53 = .ok (.getfield 16, 3) := by decide +kernel
theorem dX5_settles_56 : decode cX5_settles 56 = .ok (.iload_n 1, 1) := by decide +kernel
theorem dX5_settles_57 : decode cX5_settles 57 = .ok (.aload_n 0, 1) := by decide +kernel
theorem dX5_settles_58 : decode cX5_settles 58 = .ok (.getfield 16, 3) := by decide +kernel
theorem dX5_settles_61 : decode cX5_settles 61 = .ok (.iconst 3, 1) := by decide +kernel
theorem dX5_settles_62 : decode cX5_settles 62 = .ok (.iload_n 1, 1) := by decide +kernel
theorem dX5_settles_63 : decode cX5_settles 63 = .ok (.iadd, 1) := by decide +kernel
theorem dX5_settles_64 : decode cX5_settles 64 = .ok (.iaload, 1) := by decide +kernel
theorem dX5_settles_65 : decode cX5_settles 65 = .ok (.iastore, 1) := by decide +kernel
theorem dX5_settles_66 : decode cX5_settles 66 = .ok (.aload_n 0, 1) := by decide +kernel
theorem dX5_settles_67 : decode cX5_settles 67 = .ok (.getfield 19, 3) := by decide +kernel
theorem dX5_settles_70 : decode cX5_settles 70 = .ok (.iload_n 1, 1) := by decide +kernel
theorem dX5_settles_71 : decode cX5_settles 71 = .ok (.aload_n 0, 1) := by decide +kernel
theorem dX5_settles_72 : decode cX5_settles 72 = .ok (.getfield 19, 3) := by decide +kernel
theorem dX5_settles_75 : decode cX5_settles 75 = .ok (.iconst 3, 1) := by decide +kernel
theorem dX5_settles_76 : decode cX5_settles 76 = .ok (.iload_n 1, 1) := by decide +kernel
theorem dX5_settles_77 : decode cX5_settles 77 = .ok (.iadd, 1) := by decide +kernel
theorem dX5_settles_78 : decode cX5_settles 78 = .ok (.iaload, 1) := by decide +kernel
theorem dX5_settles_79 : decode cX5_settles 79 = .ok (.iastore, 1) := by decide +kernel
theorem dX5_settles_80 : decode cX5_settles 80 = .ok (.iinc 1 1, 3) := by decide +kernel
theorem dX5_settles_83 : decode cX5_settles 83 = .ok (.goto (-36), 3) := by decide +kernel
theorem dX5_settles_86 : decode cX5_settles 86 = .ok (.iconst 0, 1) := by decide +kernel
theorem dX5_settles_87 : decode cX5_settles 87 = .ok (.istore_n 1, 1) := by decide +kernel
theorem dX5_settles_88 : decode cX5_settles 88 = .ok (.iload_n 1, 1) := by decide +kernel
theorem dX5_settles_89 : decode cX5_settles 89 = .ok (.bipush 6, 2) := by decide +kernel
theorem dX5_settles_91 : decode cX5_settles 91 = .ok (.if_icmp .ge 106, 3) := by decide +kernel
theorem dX5_settles_94 : decode cX5_settles 94 = .ok (.aload_n 0, 1) := by decide +kernel
theorem dX5_settles_95 : decode cX5_settles 95 = .ok (.getfield 22, 3) := by decide +kernel
theorem dX5_settles_98 : decode cX5_settles 98 = .ok (.iload_n 1, 1) := by decide +kernel
theorem dX5_settles_99 : decode cX5_settles 99 = .ok (.aload_n 0, 1) := by decide +kernel
theorem dX5_settles_100 : decode cX5_settles 100 = .ok (.getfield 22, 3) := by decide +kernel
theorem dX5_settles_103 : decode cX5_settles 103 = .ok (.bipush 6, 2) := by decide +kernel
theorem dX5_settles_105 : decode cX5_settles 105 = .ok (.iload_n 1, 1) := by decide +kernel
theorem dX5_settles_106 : decode cX5_settles 106 = .ok (.iadd, 1) := by decide +kernel
theorem dX5_settles_107 : decode cX5_settles 107 = .ok (.iaload, 1) := by decide +kernel
theorem dX5_settles_108 : decode cX5_settles 108 = .ok (.iastore, 1) := by decide +kernel
theorem dX5_settles_109 : decode cX5_settles 109 = .ok (.aload_n 0, 1) := by decide +kernel
theorem dX5_settles_110 : decode cX5_settles 110 = .ok (.getfield 25, 3) := by decide +kernel
theorem dX5_settles_113 : decode cX5_settles 113 = .ok (.iload_n 1, 1) := by decide +kernel
theorem dX5_settles_114 : decode cX5_settles 114 = .ok (.aload_n 0, 1) := by decide +kernel
theorem dX5_settles_115 : decode cX5_settles 115 = .ok (.getfield 25, 3) := by decide +kernel
theorem dX5_settles_118 : decode cX5_settles 118 = .ok (.bipush 6, 2) := by decide +kernel
theorem dX5_settles_120 : decode cX5_settles 120 = .ok (.iload_n 1, 1) := by decide +kernel
theorem dX5_settles_121 : decode cX5_settles 121 = .ok (.iadd, 1) := by decide +kernel
theorem dX5_settles_122 : decode cX5_settles 122 = .ok (.iaload, 1) := by decide +kernel
theorem dX5_settles_123 : decode cX5_settles 123 = .ok (.iastore, 1) := by decide +kernel
theorem dX5_settles_124 : decode cX5_settles 124 = .ok (.aload_n 0, 1) := by decide +kernel
theorem dX5_settles_125 : decode cX5_settles 125 = .ok (.getfield 28, 3) := by decide +kernel
theorem dX5_settles_128 : decode cX5_settles 128 = .ok (.iload_n 1, 1) := by decide +kernel
theorem dX5_settles_129 : decode cX5_settles 129 = .ok (.aload_n 0, 1) := by decide +kernel
theorem dX5_settles_130 : decode cX5_settles 130 = .ok (.getfield 28, 3) := by decide +kernel
theorem dX5_settles_133 : decode cX5_settles 133 = .ok (.bipush 6, 2) := by decide +kernel
theorem dX5_settles_135 : decode cX5_settles 135 = .ok (.iload_n 1, 1) := by decide +kernel
theorem dX5_settles_136 : decode cX5_settles 136 = .ok (.iadd, 1) := by decide +kernel
theorem dX5_settles_137 : decode cX5_settles 137 = .ok (.iaload, 1) := by decide +kernel
theorem dX5_settles_138 : decode cX5_settles 138 = .ok (.iastore, 1) := by decide +kernel
theorem dX5_settles_139 : decode cX5_settles 139 = .ok (.iload_n 1, 1) := by decide +kernel
theorem dX5_settles_140 : decode cX5_settles 140 = .ok (.iconst 2, 1) := by decide +kernel
theorem dX5_settles_141 : decode cX5_settles 141 = .ok (.irem, 1) := by decide +kernel
theorem dX5_settles_142 : decode cX5_settles 142 = .ok (.ifCond .ne 9, 3) := by decide +kernel
theorem dX5_settles_145 : decode cX5_settles 145 = .ok (.iload_n 1, 1) := by decide +kernel
theorem dX5_settles_146 : decode cX5_settles 146 = .ok (.iconst 1, 1) := by decide +kernel
theorem dX5_settles_147 : decode cX5_settles 147 = .ok (.iadd, 1) := by decide +kernel
theorem dX5_settles_148 : decode cX5_settles 148 = .ok (.goto 6, 3) := by decide +kernel
theorem dX5_settles_151 : decode cX5_settles 151 = .ok (.iload_n 1, 1) := by decide +kernel
theorem dX5_settles_152 : decode cX5_settles 152 = .ok (.iconst 1, 1) := by decide +kernel
theorem dX5_settles_153 : decode cX5_settles 153 = .ok (.isub, 1) := by decide +kernel
theorem dX5_settles_154 : decode cX5_settles 154 = .ok (.istore_n 2, 1) := by decide +kernel
theorem dX5_settles_155 : decode cX5_settles 155 = .ok (.aload_n 0, 1) := by decide +kernel
theorem dX5_settles_156 : decode cX5_settles 156 = .ok (.getfield 34, 3) := by decide +kernel
theorem dX5_settles_159 : decode cX5_settles 159 = .ok (.bipush 6, 2) := by decide +kernel
theorem dX5_settles_161 : decode cX5_settles 161 = .ok (.iload_n 1, 1) := by decide +kernel
theorem dX5_settles_162 : decode cX5_settles 162 = .ok (.iadd, 1) := by decide +kernel
theorem dX5_settles_163 : decode cX5_settles 163 = .ok (.iload_n 1, 1) := by decide +kernel
theorem dX5_settles_164 : decode cX5_settles 164 = .ok (.aload_n 0, 1) := by decide +kernel
theorem dX5_settles_165 : decode cX5_settles 165 = .ok (.getfield 13, 3) := by decide +kernel
theorem dX5_settles_168 : decode cX5_settles 168 = .ok (.iconst 1, 1) := by decide +kernel
theorem dX5_settles_169 : decode cX5_settles 169 = .ok (.iaload, 1) := by decide +kernel
theorem dX5_settles_170 : decode cX5_settles 170 = .ok (.if_icmp .ge 19, 3) := by decide +kernel
theorem dX5_settles_173 : decode cX5_settles 173 = .ok (.iload_n 2, 1) := by decide +kernel
theorem dX5_settles_174 : decode cX5_settles 174 = .ok (.aload_n 0, 1) := by decide +kernel
theorem dX5_settles_175 : decode cX5_settles 175 = .ok (.getfield 13, 3) := by decide +kernel
theorem dX5_settles_178 : decode cX5_settles 178 = .ok (.iconst 1, 1) := by decide +kernel
theorem dX5_settles_179 : decode cX5_settles 179 = .ok (.iaload, 1) := by decide +kernel
theorem dX5_settles_180 : decode cX5_settles 180 = .ok (.if_icmp .ge 9, 3) := by decide +kernel
theorem dX5_settles_183 : decode cX5_settles 183 = .ok (.iload_n 2, 1) := by decide +kernel
theorem dX5_settles_184 : decode cX5_settles 184 = .ok (.iconst 1, 1) := by decide +kernel
theorem dX5_settles_185 : decode cX5_settles 185 = .ok (.iadd, 1) := by decide +kernel
theorem dX5_settles_186 : decode cX5_settles 186 = .ok (.goto 4, 3) := by decide +kernel
theorem dX5_settles_189 : decode cX5_settles 189 = .ok (.iconst 0, 1) := by decide +kernel
theorem dX5_settles_190 : decode cX5_settles 190 = .ok (.iastore, 1) := by decide +kernel
theorem dX5_settles_191 : decode cX5_settles 191 = .ok (.iinc 1 1, 3) := by decide +kernel
theorem dX5_settles_194 : decode cX5_settles 194 = .ok (.goto (-106), 3) := by decide +kernel
theorem dX5_settles_197 : decode cX5_settles 197 = .ok (.iconst 0, 1) := by decide +kernel
theorem dX5_settles_198 : decode cX5_settles 198 = .ok (.istore_n 1, 1) := by decide +kernel
theorem dX5_settles_199 : decode cX5_settles 199 = .ok (.iload_n 1, 1) := by decide +kernel
theorem dX5_settles_200 : decode cX5_settles 200 = .ok (.bipush 18, 2) := by decide +kernel
theorem dX5_settles_202 : decode cX5_settles 202 = .ok (.if_icmp .ge 24, 3) := by decide +kernel
theorem dX5_settles_205 : decode cX5_settles 205 = .ok (.aload_n 0, 1) := by decide +kernel
theorem dX5_settles_206 : decode cX5_settles 206 = .ok (.getfield 31, 3) := by decide +kernel
theorem dX5_settles_209 : decode cX5_settles 209 = .ok (.iload_n 1, 1) := by decide +kernel
theorem dX5_settles_210 : decode cX5_settles 210 = .ok (.aload_n 0, 1) := by decide +kernel
theorem dX5_settles_211 : decode cX5_settles 211 = .ok (.getfield 31, 3) := by decide +kernel
theorem dX5_settles_214 : decode cX5_settles 214 = .ok (.bipush 18, 2) := by decide +kernel
theorem dX5_settles_216 : decode cX5_settles 216 = .ok (.iload_n 1, 1) := by decide +kernel
theorem dX5_settles_217 : decode cX5_settles 217 = .ok (.iadd, 1) := by decide +kernel
theorem dX5_settles_218 : decode cX5_settles 218 = .ok (.iaload, 1) := by decide +kernel
theorem dX5_settles_219 : decode cX5_settles 219 = .ok (.iastore, 1) := by decide +kernel
theorem dX5_settles_220 : decode cX5_settles 220 = .ok (.iinc 1 1, 3) := by decide +kernel
theorem dX5_settles_223 : decode cX5_settles 223 = .ok (.goto (-24), 3) := by decide +kernel
theorem dX5_settles_226 : decode cX5_settles 226 = .ok (.aload_n 0, 1) := by decide +kernel
theorem dX5_settles_227 : decode cX5_settles 227 = .ok (.iconst 0, 1) := by decide +kernel
theorem dX5_settles_228 : decode cX5_settles 228 = .ok (.putfield 70, 3) := by decide +kernel
theorem dX5_settles_231 : decode cX5_settles 231 = .ok (.aload_n 0, 1) := by decide +kernel
theorem dX5_settles_232 : decode cX5_settles 232 = .ok (.iconst 0, 1) := by decide +kernel
theorem dX5_settles_233 : decode cX5_settles 233 = .ok (.putfield 114, 3) := by decide +kernel
theorem dX5_settles_236 : decode cX5_settles 236 = .ok (.aload_n 0, 1) := by decide +kernel
theorem dX5_settles_237 : decode cX5_settles 237 = .ok (.iconst 0, 1) := by decide +kernel
theorem dX5_settles_238 : decode cX5_settles 238 = .ok (.putfield 117, 3) := by decide +kernel
theorem dX5_settles_241 : decode cX5_settles 241 = .ok (.aload_n 0, 1) := by decide +kernel
theorem dX5_settles_242 : decode cX5_settles 242 = .ok (.getfield 43, 3) := by decide +kernel
theorem dX5_settles_245 : decode cX5_settles 245 = .ok (.iconst 0, 1) := by decide +kernel
theorem dX5_settles_246 : decode cX5_settles 246 = .ok (.iconst 0, 1) := by decide +kernel
theorem dX5_settles_247 : decode cX5_settles 247 = .ok (.bastore, 1) := by decide +kernel
theorem dX5_settles_248 : decode cX5_settles 248 = .ok (.aload_n 0, 1) := by decide +kernel
theorem dX5_settles_249 : decode cX5_settles 249 = .ok (.getfield 43, 3) := by decide +kernel
theorem dX5_settles_252 : decode cX5_settles 252 = .ok (.iconst 1, 1) := by decide +kernel
theorem dX5_settles_253 : decode cX5_settles 253 = .ok (.iconst 0, 1) := by decide +kernel
theorem dX5_settles_254 : decode cX5_settles 254 = .ok (.bastore, 1) := by decide +kernel
theorem dX5_settles_255 : decode cX5_settles 255 = .ok (.return_, 1) := by decide +kernel
theorem dX5_isMan_0 : decode cX5_isMan 0 = .ok (.iload_n 1, 1) := by decide +kernel
theorem dX5_isMan_1 : decode cX5_isMan 1 = .ok (.iconst 0, 1) := by decide +kernel
theorem dX5_isMan_2 : decode cX5_isMan 2 = .ok (.aload_n 0, 1) := by decide +kernel
theorem dX5_isMan_3 : decode cX5_isMan 3 = .ok (.getfield 13, 3) := by decide +kernel
theorem dX5_isMan_6 : decode cX5_isMan 6 = .ok (.iconst 1, 1) := by decide +kernel
theorem dX5_isMan_7 : decode cX5_isMan 7 = .ok (.iaload, 1) := by decide +kernel
theorem dX5_isMan_8 : decode cX5_isMan 8 = .ok (.iconst 1, 1) := by decide +kernel
theorem dX5_isMan_9 : decode cX5_isMan 9 = .ok (.isub, 1) := by decide +kernel
theorem dX5_isMan_10 : decode cX5_isMan 10 = .ok (.invokestatic 66, 3) := by decide +kernel
theorem dX5_isMan_13 : decode cX5_isMan 13 = .ok (.ireturn, 1) := by decide +kernel
theorem dX5_isCrop_0 : decode cX5_isCrop 0 = .ok (.iload_n 1, 1) := by decide +kernel
theorem dX5_isCrop_1 : decode cX5_isCrop 1 = .ok (.iconst 0, 1) := by decide +kernel
theorem dX5_isCrop_2 : decode cX5_isCrop 2 = .ok (.aload_n 0, 1) := by decide +kernel
theorem dX5_isCrop_3 : decode cX5_isCrop 3 = .ok (.getfield 13, 3) := by decide +kernel
theorem dX5_isCrop_6 : decode cX5_isCrop 6 = .ok (.iconst 0, 1) := by decide +kernel
theorem dX5_isCrop_7 : decode cX5_isCrop 7 = .ok (.iaload, 1) := by decide +kernel
theorem dX5_isCrop_8 : decode cX5_isCrop 8 = .ok (.iconst 1, 1) := by decide +kernel
theorem dX5_isCrop_9 : decode cX5_isCrop 9 = .ok (.isub, 1) := by decide +kernel
theorem dX5_isCrop_10 : decode cX5_isCrop 10 = .ok (.invokestatic 66, 3) := by decide +kernel
theorem dX5_isCrop_13 : decode cX5_isCrop 13 = .ok (.ireturn, 1) := by decide +kernel
theorem dX5_carriesBy_0 : decode cX5_carriesBy 0 = .ok (.aload_n 0, 1) := by decide +kernel
theorem dX5_carriesBy_1 : decode cX5_carriesBy 1 = .ok (.getfield 22, 3) := by decide +kernel
theorem dX5_carriesBy_4 : decode cX5_carriesBy 4 = .ok (.iload_n 2, 1) := by decide +kernel
theorem dX5_carriesBy_5 : decode cX5_carriesBy 5 = .ok (.iaload, 1) := by decide +kernel
theorem dX5_carriesBy_6 : decode cX5_carriesBy 6 = .ok (.iconst 3, 1) := by decide +kernel
theorem dX5_carriesBy_7 : decode cX5_carriesBy 7 = .ok (.aload_n 1, 1) := by decide +kernel
theorem dX5_carriesBy_8 : decode cX5_carriesBy 8 = .ok (.bipush 12, 2) := by decide +kernel
theorem dX5_carriesBy_10 : decode cX5_carriesBy 10 = .ok (.iload_n 2, 1) := by decide +kernel
theorem dX5_carriesBy_11 : decode cX5_carriesBy 11 = .ok (.iadd, 1) := by decide +kernel
theorem dX5_carriesBy_12 : decode cX5_carriesBy 12 = .ok (.iaload, 1) := by decide +kernel
theorem dX5_carriesBy_13 : decode cX5_carriesBy 13 = .ok (.imul, 1) := by decide +kernel
theorem dX5_carriesBy_14 : decode cX5_carriesBy 14 = .ok (.iadd, 1) := by decide +kernel
theorem dX5_carriesBy_15 : decode cX5_carriesBy 15 = .ok (.aload_n 0, 1) := by decide +kernel
theorem dX5_carriesBy_16 : decode cX5_carriesBy 16 = .ok (.getfield 16, 3) := by decide +kernel
theorem dX5_carriesBy_19 : decode cX5_carriesBy 19 = .ok (.iload_n 3, 1) := by decide +kernel
theorem dX5_carriesBy_20 : decode cX5_carriesBy 20 = .ok (.iaload, 1) := by decide +kernel
theorem dX5_carriesBy_21 : decode cX5_carriesBy 21 = .ok (.aload_n 1, 1) := by decide +kernel
theorem dX5_carriesBy_22 : decode cX5_carriesBy 22 = .ok (.bipush 30, 2) := by decide +kernel
theorem dX5_carriesBy_24 : decode cX5_carriesBy 24 = .ok (.iaload, 1) := by decide +kernel
theorem dX5_carriesBy_25 : decode cX5_carriesBy 25 = .ok (.iadd, 1) := by decide +kernel
theorem dX5_carriesBy_26 : decode cX5_carriesBy 26 = .ok (.idiv, 1) := by decide +kernel
theorem dX5_carriesBy_27 : decode cX5_carriesBy 27 = .ok (.istore 4, 2) := by decide +kernel
theorem dX5_carriesBy_29 : decode cX5_carriesBy 29 = .ok (.aload_n 0, 1) := by decide +kernel
theorem dX5_carriesBy_30 : decode cX5_carriesBy 30 = .ok (.getfield 25, 3) := by decide +kernel
theorem dX5_carriesBy_33 : decode cX5_carriesBy 33 = .ok (.iload_n 2, 1) := by decide +kernel
theorem dX5_carriesBy_34 : decode cX5_carriesBy 34 = .ok (.iaload, 1) := by decide +kernel
theorem dX5_carriesBy_35 : decode cX5_carriesBy 35 = .ok (.iconst 1, 1) := by decide +kernel
theorem dX5_carriesBy_36 : decode cX5_carriesBy 36 = .ok (.aload_n 1, 1) := by decide +kernel
theorem dX5_carriesBy_37 : decode cX5_carriesBy 37 = .ok (.bipush 18, 2) := by decide +kernel
theorem dX5_carriesBy_39 : decode cX5_carriesBy 39 = .ok (.iload_n 2, 1) := by decide +kernel
theorem dX5_carriesBy_40 : decode cX5_carriesBy 40 = .ok (.iadd, 1) := by decide +kernel
theorem dX5_carriesBy_41 : decode cX5_carriesBy 41 = .ok (.iaload, 1) := by decide +kernel
theorem dX5_carriesBy_42 : decode cX5_carriesBy 42 = .ok (.iadd, 1) := by decide +kernel
theorem dX5_carriesBy_43 : decode cX5_carriesBy 43 = .ok (.imul, 1) := by decide +kernel
theorem dX5_carriesBy_44 : decode cX5_carriesBy 44 = .ok (.iload 4, 2) := by decide +kernel
theorem dX5_carriesBy_46 : decode cX5_carriesBy 46 = .ok (.imul, 1) := by decide +kernel
theorem dX5_carriesBy_47 : decode cX5_carriesBy 47 = .ok (.ireturn, 1) := by decide +kernel
theorem dX5_takesBy_0 : decode cX5_takesBy 0 = .ok (.aload_n 1, 1) := by decide +kernel
theorem dX5_takesBy_1 : decode cX5_takesBy 1 = .ok (.bipush 6, 2) := by decide +kernel
theorem dX5_takesBy_3 : decode cX5_takesBy 3 = .ok (.iload_n 2, 1) := by decide +kernel
theorem dX5_takesBy_4 : decode cX5_takesBy 4 = .ok (.iadd, 1) := by decide +kernel
theorem dX5_takesBy_5 : decode cX5_takesBy 5 = .ok (.iaload, 1) := by decide +kernel
theorem dX5_takesBy_6 : decode cX5_takesBy 6 = .ok (.iconst 1, 1) := by decide +kernel
theorem dX5_takesBy_7 : decode cX5_takesBy 7 = .ok (.isub, 1) := by decide +kernel
theorem dX5_takesBy_8 : decode cX5_takesBy 8 = .ok (.istore_n 3, 1) := by decide +kernel
theorem dX5_takesBy_9 : decode cX5_takesBy 9 = .ok (.iload_n 3, 1) := by decide +kernel
theorem dX5_takesBy_10 : decode cX5_takesBy 10 = .ok (.ifCond .ge 5, 3) := by decide +kernel
theorem dX5_takesBy_13 : decode cX5_takesBy 13 = .ok (.iconst 0, 1) := by decide +kernel
theorem dX5_takesBy_14 : decode cX5_takesBy 14 = .ok (.ireturn, 1) := by decide +kernel
theorem dX5_takesBy_15 : decode cX5_takesBy 15 = .ok (.aload_n 1, 1) := by decide +kernel
theorem dX5_takesBy_16 : decode cX5_takesBy 16 = .ok (.iconst 0, 1) := by decide +kernel
theorem dX5_takesBy_17 : decode cX5_takesBy 17 = .ok (.iload_n 3, 1) := by decide +kernel
theorem dX5_takesBy_18 : decode cX5_takesBy 18 = .ok (.iadd, 1) := by decide +kernel
theorem dX5_takesBy_19 : decode cX5_takesBy 19 = .ok (.iaload, 1) := by decide +kernel
theorem dX5_takesBy_20 : decode cX5_takesBy 20 = .ok (.istore 4, 2) := by decide +kernel
theorem dX5_takesBy_22 : decode cX5_takesBy 22 = .ok (.aload_n 0, 1) := by decide +kernel
theorem dX5_takesBy_23 : decode cX5_takesBy 23 = .ok (.aload_n 1, 1) := by decide +kernel
theorem dX5_takesBy_24 : decode cX5_takesBy 24 = .ok (.iload_n 2, 1) := by decide +kernel
theorem dX5_takesBy_25 : decode cX5_takesBy 25 = .ok (.iload 4, 2) := by decide +kernel
theorem dX5_takesBy_27 : decode cX5_takesBy 27 = .ok (.invokevirtual 120, 3) := by decide +kernel
theorem dX5_takesBy_30 : decode cX5_takesBy 30 = .ok (.istore 5, 2) := by decide +kernel
theorem dX5_takesBy_32 : decode cX5_takesBy 32 = .ok (.aload_n 0, 1) := by decide +kernel
theorem dX5_takesBy_33 : decode cX5_takesBy 33 = .ok (.getfield 31, 3) := by decide +kernel
theorem dX5_takesBy_36 : decode cX5_takesBy 36 = .ok (.iconst 3, 1) := by decide +kernel
theorem dX5_takesBy_37 : decode cX5_takesBy 37 = .ok (.iload_n 3, 1) := by decide +kernel
theorem dX5_takesBy_38 : decode cX5_takesBy 38 = .ok (.imul, 1) := by decide +kernel
theorem dX5_takesBy_39 : decode cX5_takesBy 39 = .ok (.iload 4, 2) := by decide +kernel
theorem dX5_takesBy_41 : decode cX5_takesBy 41 = .ok (.iadd, 1) := by decide +kernel
theorem dX5_takesBy_42 : decode cX5_takesBy 42 = .ok (.iaload, 1) := by decide +kernel
theorem dX5_takesBy_43 : decode cX5_takesBy 43 = .ok (.istore 6, 2) := by decide +kernel
theorem dX5_takesBy_45 : decode cX5_takesBy 45 = .ok (.iload 5, 2) := by decide +kernel
theorem dX5_takesBy_47 : decode cX5_takesBy 47 = .ok (.iload 6, 2) := by decide +kernel
theorem dX5_takesBy_49 : decode cX5_takesBy 49 = .ok (.if_icmp .ge 8, 3) := by decide +kernel
theorem dX5_takesBy_52 : decode cX5_takesBy 52 = .ok (.iload 5, 2) := by decide +kernel
theorem dX5_takesBy_54 : decode cX5_takesBy 54 = .ok (.goto 5, 3) := by decide +kernel
theorem dX5_takesBy_57 : decode cX5_takesBy 57 = .ok (.iload 6, 2) := by decide +kernel
theorem dX5_takesBy_59 : decode cX5_takesBy 59 = .ok (.ireturn, 1) := by decide +kernel
theorem dX5_keptBy_0 : decode cX5_keptBy 0 = .ok (.aload_n 1, 1) := by decide +kernel
theorem dX5_keptBy_1 : decode cX5_keptBy 1 = .ok (.bipush 6, 2) := by decide +kernel
theorem dX5_keptBy_3 : decode cX5_keptBy 3 = .ok (.iload_n 2, 1) := by decide +kernel
theorem dX5_keptBy_4 : decode cX5_keptBy 4 = .ok (.iadd, 1) := by decide +kernel
theorem dX5_keptBy_5 : decode cX5_keptBy 5 = .ok (.iaload, 1) := by decide +kernel
theorem dX5_keptBy_6 : decode cX5_keptBy 6 = .ok (.iconst 1, 1) := by decide +kernel
theorem dX5_keptBy_7 : decode cX5_keptBy 7 = .ok (.isub, 1) := by decide +kernel
theorem dX5_keptBy_8 : decode cX5_keptBy 8 = .ok (.istore_n 3, 1) := by decide +kernel
theorem dX5_keptBy_9 : decode cX5_keptBy 9 = .ok (.aload_n 0, 1) := by decide +kernel
theorem dX5_keptBy_10 : decode cX5_keptBy 10 = .ok (.getfield 31, 3) := by decide +kernel
theorem dX5_keptBy_13 : decode cX5_keptBy 13 = .ok (.iconst 3, 1) := by decide +kernel
theorem dX5_keptBy_14 : decode cX5_keptBy 14 = .ok (.iload_n 2, 1) := by decide +kernel
theorem dX5_keptBy_15 : decode cX5_keptBy 15 = .ok (.imul, 1) := by decide +kernel
theorem dX5_keptBy_16 : decode cX5_keptBy 16 = .ok (.aload_n 1, 1) := by decide +kernel
theorem dX5_keptBy_17 : decode cX5_keptBy 17 = .ok (.iconst 0, 1) := by decide +kernel
theorem dX5_keptBy_18 : decode cX5_keptBy 18 = .ok (.iload_n 2, 1) := by decide +kernel
theorem dX5_keptBy_19 : decode cX5_keptBy 19 = .ok (.iadd, 1) := by decide +kernel
theorem dX5_keptBy_20 : decode cX5_keptBy 20 = .ok (.iaload, 1) := by decide +kernel
theorem dX5_keptBy_21 : decode cX5_keptBy 21 = .ok (.iadd, 1) := by decide +kernel
theorem dX5_keptBy_22 : decode cX5_keptBy 22 = .ok (.iaload, 1) := by decide +kernel
theorem dX5_keptBy_23 : decode cX5_keptBy 23 = .ok (.iload_n 3, 1) := by decide +kernel
theorem dX5_keptBy_24 : decode cX5_keptBy 24 = .ok (.ifCond .ge 7, 3) := by decide +kernel
theorem dX5_keptBy_27 : decode cX5_keptBy 27 = .ok (.iconst 0, 1) := by decide +kernel
theorem dX5_keptBy_28 : decode cX5_keptBy 28 = .ok (.goto 9, 3) := by decide +kernel
theorem dX5_keptBy_31 : decode cX5_keptBy 31 = .ok (.aload_n 0, 1) := by decide +kernel
theorem dX5_keptBy_32 : decode cX5_keptBy 32 = .ok (.aload_n 1, 1) := by decide +kernel
theorem dX5_keptBy_33 : decode cX5_keptBy 33 = .ok (.iload_n 3, 1) := by decide +kernel
theorem dX5_keptBy_34 : decode cX5_keptBy 34 = .ok (.invokevirtual 124, 3) := by decide +kernel
theorem dX5_keptBy_37 : decode cX5_keptBy 37 = .ok (.isub, 1) := by decide +kernel
theorem dX5_keptBy_38 : decode cX5_keptBy 38 = .ok (.ireturn, 1) := by decide +kernel
theorem dX5_takenWorth_0 : decode cX5_takenWorth 0 = .ok (.aload_n 1, 1) := by decide +kernel
theorem dX5_takenWorth_1 : decode cX5_takenWorth 1 = .ok (.bipush 6, 2) := by decide +kernel
theorem dX5_takenWorth_3 : decode cX5_takenWorth 3 = .ok (.iload_n 2, 1) := by decide +kernel
theorem dX5_takenWorth_4 : decode cX5_takenWorth 4 = .ok (.iadd, 1) := by decide +kernel
theorem dX5_takenWorth_5 : decode cX5_takenWorth 5 = .ok (.iaload, 1) := by decide +kernel
theorem dX5_takenWorth_6 : decode cX5_takenWorth 6 = .ok (.iconst 1, 1) := by decide +kernel
theorem dX5_takenWorth_7 : decode cX5_takenWorth 7 = .ok (.isub, 1) := by decide +kernel
theorem dX5_takenWorth_8 : decode cX5_takenWorth 8 = .ok (.istore_n 3, 1) := by decide +kernel
theorem dX5_takenWorth_9 : decode cX5_takenWorth 9 = .ok (.iload_n 3, 1) := by decide +kernel
theorem dX5_takenWorth_10 : decode cX5_takenWorth 10 = .ok (.ifCond .ge 7, 3) := by decide +kernel
theorem dX5_takenWorth_13 : decode cX5_takenWorth 13 = .ok (.iconst 0, 1) := by decide +kernel
theorem dX5_takenWorth_14 : decode cX5_takenWorth 14 = .ok (.goto 20, 3) := by decide +kernel
theorem dX5_takenWorth_17 : decode cX5_takenWorth 17 = .ok (.aload_n 0, 1) := by decide +kernel
theorem dX5_takenWorth_18 : decode cX5_takenWorth 18 = .ok (.aload_n 1, 1) := by decide +kernel
theorem dX5_takenWorth_19 : decode cX5_takenWorth 19 = .ok (.iload_n 2, 1) := by decide +kernel
theorem dX5_takenWorth_20 : decode cX5_takenWorth 20 = .ok (.invokevirtual 124, 3) := by decide +kernel
theorem dX5_takenWorth_23 : decode cX5_takenWorth 23 = .ok (.aload_n 0, 1) := by decide +kernel
theorem dX5_takenWorth_24 : decode cX5_takenWorth 24 = .ok (.getfield 19, 3) := by decide +kernel
theorem dX5_takenWorth_27 : decode cX5_takenWorth 27 = .ok (.aload_n 1, 1) := by decide +kernel
theorem dX5_takenWorth_28 : decode cX5_takenWorth 28 = .ok (.iconst 0, 1) := by decide +kernel
theorem dX5_takenWorth_29 : decode cX5_takenWorth 29 = .ok (.iload_n 3, 1) := by decide +kernel
theorem dX5_takenWorth_30 : decode cX5_takenWorth 30 = .ok (.iadd, 1) := by decide +kernel
theorem dX5_takenWorth_31 : decode cX5_takenWorth 31 = .ok (.iaload, 1) := by decide +kernel
theorem dX5_takenWorth_32 : decode cX5_takenWorth 32 = .ok (.iaload, 1) := by decide +kernel
theorem dX5_takenWorth_33 : decode cX5_takenWorth 33 = .ok (.imul, 1) := by decide +kernel
theorem dX5_takenWorth_34 : decode cX5_takenWorth 34 = .ok (.ireturn, 1) := by decide +kernel
theorem dX5_hasBy_0 : decode cX5_hasBy 0 = .ok (.aload_n 0, 1) := by decide +kernel
theorem dX5_hasBy_1 : decode cX5_hasBy 1 = .ok (.aload_n 1, 1) := by decide +kernel
theorem dX5_hasBy_2 : decode cX5_hasBy 2 = .ok (.iload_n 2, 1) := by decide +kernel
theorem dX5_hasBy_3 : decode cX5_hasBy 3 = .ok (.invokevirtual 128, 3) := by decide +kernel
theorem dX5_hasBy_6 : decode cX5_hasBy 6 = .ok (.aload_n 0, 1) := by decide +kernel
theorem dX5_hasBy_7 : decode cX5_hasBy 7 = .ok (.aload_n 1, 1) := by decide +kernel
theorem dX5_hasBy_8 : decode cX5_hasBy 8 = .ok (.iload_n 2, 1) := by decide +kernel
theorem dX5_hasBy_9 : decode cX5_hasBy 9 = .ok (.invokevirtual 131, 3) := by decide +kernel
theorem dX5_hasBy_12 : decode cX5_hasBy 12 = .ok (.aload_n 0, 1) := by decide +kernel
theorem dX5_hasBy_13 : decode cX5_hasBy 13 = .ok (.getfield 19, 3) := by decide +kernel
theorem dX5_hasBy_16 : decode cX5_hasBy 16 = .ok (.aload_n 1, 1) := by decide +kernel
theorem dX5_hasBy_17 : decode cX5_hasBy 17 = .ok (.iconst 0, 1) := by decide +kernel
theorem dX5_hasBy_18 : decode cX5_hasBy 18 = .ok (.iload_n 2, 1) := by decide +kernel
theorem dX5_hasBy_19 : decode cX5_hasBy 19 = .ok (.iadd, 1) := by decide +kernel
theorem dX5_hasBy_20 : decode cX5_hasBy 20 = .ok (.iaload, 1) := by decide +kernel
theorem dX5_hasBy_21 : decode cX5_hasBy 21 = .ok (.iaload, 1) := by decide +kernel
theorem dX5_hasBy_22 : decode cX5_hasBy 22 = .ok (.imul, 1) := by decide +kernel
theorem dX5_hasBy_23 : decode cX5_hasBy 23 = .ok (.iadd, 1) := by decide +kernel
theorem dX5_hasBy_24 : decode cX5_hasBy 24 = .ok (.ireturn, 1) := by decide +kernel
theorem dX5_man_0 : decode cX5_man 0 = .ok (.aload_n 0, 1) := by decide +kernel
theorem dX5_man_1 : decode cX5_man 1 = .ok (.iconst 0, 1) := by decide +kernel
theorem dX5_man_2 : decode cX5_man 2 = .ok (.putfield 62, 3) := by decide +kernel
theorem dX5_man_5 : decode cX5_man 5 = .ok (.aload_n 0, 1) := by decide +kernel
theorem dX5_man_6 : decode cX5_man 6 = .ok (.iload_n 1, 1) := by decide +kernel
theorem dX5_man_7 : decode cX5_man 7 = .ok (.invokevirtual 134, 3) := by decide +kernel
theorem dX5_man_10 : decode cX5_man 10 = .ok (.ifCond .eq 13, 3) := by decide +kernel
theorem dX5_man_13 : decode cX5_man 13 = .ok (.iload_n 2, 1) := by decide +kernel
theorem dX5_man_14 : decode cX5_man 14 = .ok (.iconst 0, 1) := by decide +kernel
theorem dX5_man_15 : decode cX5_man 15 = .ok (.bipush 6, 2) := by decide +kernel
theorem dX5_man_17 : decode cX5_man 17 = .ok (.invokestatic 66, 3) := by decide +kernel
theorem dX5_man_20 : decode cX5_man 20 = .ok (.ifCond .ne 5, 3) := by decide +kernel
theorem dX5_man_23 : decode cX5_man 23 = .ok (.iconst (-1), 1) := by decide +kernel
theorem dX5_man_24 : decode cX5_man 24 = .ok (.ireturn, 1) := by decide +kernel
theorem dX5_man_25 : decode cX5_man 25 = .ok (.iload_n 2, 1) := by decide +kernel
theorem dX5_man_26 : decode cX5_man 26 = .ok (.iconst 3, 1) := by decide +kernel
theorem dX5_man_27 : decode cX5_man 27 = .ok (.if_icmp .ge 37, 3) := by decide +kernel
theorem dX5_man_30 : decode cX5_man 30 = .ok (.iload_n 2, 1) := by decide +kernel
theorem dX5_man_31 : decode cX5_man 31 = .ok (.ifCond .ne 12, 3) := by decide +kernel
theorem dX5_man_34 : decode cX5_man 34 = .ok (.aload_n 0, 1) := by decide +kernel
theorem dX5_man_35 : decode cX5_man 35 = .ok (.getfield 22, 3) := by decide +kernel
theorem dX5_man_38 : decode cX5_man 38 = .ok (.iload_n 1, 1) := by decide +kernel
theorem dX5_man_39 : decode cX5_man 39 = .ok (.iaload, 1) := by decide +kernel
theorem dX5_man_40 : decode cX5_man 40 = .ok (.goto 23, 3) := by decide +kernel
theorem dX5_man_43 : decode cX5_man 43 = .ok (.iload_n 2, 1) := by decide +kernel
theorem dX5_man_44 : decode cX5_man 44 = .ok (.iconst 1, 1) := by decide +kernel
theorem dX5_man_45 : decode cX5_man 45 = .ok (.if_icmp .ne 12, 3) := by decide +kernel
theorem dX5_man_48 : decode cX5_man 48 = .ok (.aload_n 0, 1) := by decide +kernel
theorem dX5_man_49 : decode cX5_man 49 = .ok (.getfield 25, 3) := by decide +kernel
theorem dX5_man_52 : decode cX5_man 52 = .ok (.iload_n 1, 1) := by decide +kernel
theorem dX5_man_53 : decode cX5_man 53 = .ok (.iaload, 1) := by decide +kernel
theorem dX5_man_54 : decode cX5_man 54 = .ok (.goto 9, 3) := by decide +kernel
theorem dX5_man_57 : decode cX5_man 57 = .ok (.aload_n 0, 1) := by decide +kernel
theorem dX5_man_58 : decode cX5_man 58 = .ok (.getfield 28, 3) := by decide +kernel
theorem dX5_man_61 : decode cX5_man 61 = .ok (.iload_n 1, 1) := by decide +kernel
theorem dX5_man_62 : decode cX5_man 62 = .ok (.iaload, 1) := by decide +kernel
theorem dX5_man_63 : decode cX5_man 63 = .ok (.ireturn, 1) := by decide +kernel
theorem dX5_man_64 : decode cX5_man 64 = .ok (.iload_n 2, 1) := by decide +kernel
theorem dX5_man_65 : decode cX5_man 65 = .ok (.iconst 3, 1) := by decide +kernel
theorem dX5_man_66 : decode cX5_man 66 = .ok (.if_icmp .ne 14, 3) := by decide +kernel
theorem dX5_man_69 : decode cX5_man 69 = .ok (.aload_n 0, 1) := by decide +kernel
theorem dX5_man_70 : decode cX5_man 70 = .ok (.getfield 34, 3) := by decide +kernel
theorem dX5_man_73 : decode cX5_man 73 = .ok (.iconst 0, 1) := by decide +kernel
theorem dX5_man_74 : decode cX5_man 74 = .ok (.iload_n 1, 1) := by decide +kernel
theorem dX5_man_75 : decode cX5_man 75 = .ok (.iadd, 1) := by decide +kernel
theorem dX5_man_76 : decode cX5_man 76 = .ok (.iaload, 1) := by decide +kernel
theorem dX5_man_77 : decode cX5_man 77 = .ok (.goto 65, 3) := by decide +kernel
theorem dX5_man_80 : decode cX5_man 80 = .ok (.iload_n 2, 1) := by decide +kernel
theorem dX5_man_81 : decode cX5_man 81 = .ok (.iconst 4, 1) := by decide +kernel
theorem dX5_man_82 : decode cX5_man 82 = .ok (.if_icmp .ne 34, 3) := by decide +kernel
theorem dX5_man_85 : decode cX5_man 85 = .ok (.aload_n 0, 1) := by decide +kernel
theorem dX5_man_86 : decode cX5_man 86 = .ok (.getfield 34, 3) := by decide +kernel
theorem dX5_man_89 : decode cX5_man 89 = .ok (.bipush 6, 2) := by decide +kernel
theorem dX5_man_91 : decode cX5_man 91 = .ok (.iload_n 1, 1) := by decide +kernel
theorem dX5_man_92 : decode cX5_man 92 = .ok (.iadd, 1) := by decide +kernel
theorem dX5_man_93 : decode cX5_man 93 = .ok (.iaload, 1) := by decide +kernel
theorem dX5_man_94 : decode cX5_man 94 = .ok (.ifCond .ne 8, 3) := by decide +kernel
theorem dX5_man_97 : decode cX5_man 97 = .ok (.bipush (-9), 2) := by decide +kernel
theorem dX5_man_99 : decode cX5_man 99 = .ok (.goto 43, 3) := by decide +kernel
theorem dX5_man_102 : decode cX5_man 102 = .ok (.aload_n 0, 1) := by decide +kernel
theorem dX5_man_103 : decode cX5_man 103 = .ok (.getfield 34, 3) := by decide +kernel
theorem dX5_man_106 : decode cX5_man 106 = .ok (.bipush 6, 2) := by decide +kernel
theorem dX5_man_108 : decode cX5_man 108 = .ok (.iload_n 1, 1) := by decide +kernel
theorem dX5_man_109 : decode cX5_man 109 = .ok (.iadd, 1) := by decide +kernel
theorem dX5_man_110 : decode cX5_man 110 = .ok (.iaload, 1) := by decide +kernel
theorem dX5_man_111 : decode cX5_man 111 = .ok (.iconst 1, 1) := by decide +kernel
theorem dX5_man_112 : decode cX5_man 112 = .ok (.isub, 1) := by decide +kernel
theorem dX5_man_113 : decode cX5_man 113 = .ok (.goto 29, 3) := by decide +kernel
theorem dX5_man_116 : decode cX5_man 116 = .ok (.iload_n 2, 1) := by decide +kernel
theorem dX5_man_117 : decode cX5_man 117 = .ok (.iconst 5, 1) := by decide +kernel
theorem dX5_man_118 : decode cX5_man 118 = .ok (.if_icmp .ne 15, 3) := by decide +kernel
theorem dX5_man_121 : decode cX5_man 121 = .ok (.aload_n 0, 1) := by decide +kernel
theorem dX5_man_122 : decode cX5_man 122 = .ok (.getfield 34, 3) := by decide +kernel
theorem dX5_man_125 : decode cX5_man 125 = .ok (.bipush 12, 2) := by decide +kernel
theorem dX5_man_127 : decode cX5_man 127 = .ok (.iload_n 1, 1) := by decide +kernel
theorem dX5_man_128 : decode cX5_man 128 = .ok (.iadd, 1) := by decide +kernel
theorem dX5_man_129 : decode cX5_man 129 = .ok (.iaload, 1) := by decide +kernel
theorem dX5_man_130 : decode cX5_man 130 = .ok (.goto 12, 3) := by decide +kernel
theorem dX5_man_133 : decode cX5_man 133 = .ok (.aload_n 0, 1) := by decide +kernel
theorem dX5_man_134 : decode cX5_man 134 = .ok (.getfield 34, 3) := by decide +kernel
theorem dX5_man_137 : decode cX5_man 137 = .ok (.bipush 18, 2) := by decide +kernel
theorem dX5_man_139 : decode cX5_man 139 = .ok (.iload_n 1, 1) := by decide +kernel
theorem dX5_man_140 : decode cX5_man 140 = .ok (.iadd, 1) := by decide +kernel
theorem dX5_man_141 : decode cX5_man 141 = .ok (.iaload, 1) := by decide +kernel
theorem dX5_man_142 : decode cX5_man 142 = .ok (.ireturn, 1) := by decide +kernel
theorem dX5_yieldOf_0 : decode cX5_yieldOf 0 = .ok (.aload_n 0, 1) := by decide +kernel
theorem dX5_yieldOf_1 : decode cX5_yieldOf 1 = .ok (.iconst 0, 1) := by decide +kernel
theorem dX5_yieldOf_2 : decode cX5_yieldOf 2 = .ok (.putfield 62, 3) := by decide +kernel
theorem dX5_yieldOf_5 : decode cX5_yieldOf 5 = .ok (.aload_n 0, 1) := by decide +kernel
theorem dX5_yieldOf_6 : decode cX5_yieldOf 6 = .ok (.iload_n 1, 1) := by decide +kernel
theorem dX5_yieldOf_7 : decode cX5_yieldOf 7 = .ok (.invokevirtual 134, 3) := by decide +kernel
theorem dX5_yieldOf_10 : decode cX5_yieldOf 10 = .ok (.ifCond .eq 24, 3) := by decide +kernel
theorem dX5_yieldOf_13 : decode cX5_yieldOf 13 = .ok (.aload_n 0, 1) := by decide +kernel
theorem dX5_yieldOf_14 : decode cX5_yieldOf 14 = .ok (.iload_n 2, 1) := by decide +kernel
theorem dX5_yieldOf_15 : decode cX5_yieldOf 15 = .ok (.invokevirtual 138, 3) := by decide +kernel
theorem dX5_yieldOf_18 : decode cX5_yieldOf 18 = .ok (.ifCond .eq 16, 3) := by decide +kernel
theorem dX5_yieldOf_21 : decode cX5_yieldOf 21 = .ok (.aload_n 0, 1) := by decide +kernel
theorem dX5_yieldOf_22 : decode cX5_yieldOf 22 = .ok (.getfield 31, 3) := by decide +kernel
theorem dX5_yieldOf_25 : decode cX5_yieldOf 25 = .ok (.iconst 3, 1) := by decide +kernel
theorem dX5_yieldOf_26 : decode cX5_yieldOf 26 = .ok (.iload_n 1, 1) := by decide +kernel
theorem dX5_yieldOf_27 : decode cX5_yieldOf 27 = .ok (.imul, 1) := by decide +kernel
theorem dX5_yieldOf_28 : decode cX5_yieldOf 28 = .ok (.iload_n 2, 1) := by decide +kernel
theorem dX5_yieldOf_29 : decode cX5_yieldOf 29 = .ok (.iadd, 1) := by decide +kernel
theorem dX5_yieldOf_30 : decode cX5_yieldOf 30 = .ok (.iaload, 1) := by decide +kernel
theorem dX5_yieldOf_31 : decode cX5_yieldOf 31 = .ok (.goto 4, 3) := by decide +kernel
theorem dX5_yieldOf_34 : decode cX5_yieldOf 34 = .ok (.iconst (-1), 1) := by decide +kernel
theorem dX5_yieldOf_35 : decode cX5_yieldOf 35 = .ok (.ireturn, 1) := by decide +kernel
theorem dX5_carries_0 : decode cX5_carries 0 = .ok (.aload_n 0, 1) := by decide +kernel
theorem dX5_carries_1 : decode cX5_carries 1 = .ok (.iconst 0, 1) := by decide +kernel
theorem dX5_carries_2 : decode cX5_carries 2 = .ok (.putfield 62, 3) := by decide +kernel
theorem dX5_carries_5 : decode cX5_carries 5 = .ok (.aload_n 0, 1) := by decide +kernel
theorem dX5_carries_6 : decode cX5_carries 6 = .ok (.iload_n 1, 1) := by decide +kernel
theorem dX5_carries_7 : decode cX5_carries 7 = .ok (.invokevirtual 134, 3) := by decide +kernel
theorem dX5_carries_10 : decode cX5_carries 10 = .ok (.ifCond .eq 24, 3) := by decide +kernel
theorem dX5_carries_13 : decode cX5_carries 13 = .ok (.aload_n 0, 1) := by decide +kernel
theorem dX5_carries_14 : decode cX5_carries 14 = .ok (.iload_n 2, 1) := by decide +kernel
theorem dX5_carries_15 : decode cX5_carries 15 = .ok (.invokevirtual 138, 3) := by decide +kernel
theorem dX5_carries_18 : decode cX5_carries 18 = .ok (.ifCond .eq 16, 3) := by decide +kernel
theorem dX5_carries_21 : decode cX5_carries 21 = .ok (.aload_n 0, 1) := by decide +kernel
theorem dX5_carries_22 : decode cX5_carries 22 = .ok (.aload_n 0, 1) := by decide +kernel
theorem dX5_carries_23 : decode cX5_carries 23 = .ok (.getfield 34, 3) := by decide +kernel
theorem dX5_carries_26 : decode cX5_carries 26 = .ok (.iload_n 1, 1) := by decide +kernel
theorem dX5_carries_27 : decode cX5_carries 27 = .ok (.iload_n 2, 1) := by decide +kernel
theorem dX5_carries_28 : decode cX5_carries 28 = .ok (.invokevirtual 120, 3) := by decide +kernel
theorem dX5_carries_31 : decode cX5_carries 31 = .ok (.goto 4, 3) := by decide +kernel
theorem dX5_carries_34 : decode cX5_carries 34 = .ok (.iconst (-1), 1) := by decide +kernel
theorem dX5_carries_35 : decode cX5_carries 35 = .ok (.ireturn, 1) := by decide +kernel
theorem dX5_has_0 : decode cX5_has 0 = .ok (.aload_n 0, 1) := by decide +kernel
theorem dX5_has_1 : decode cX5_has 1 = .ok (.iconst 0, 1) := by decide +kernel
theorem dX5_has_2 : decode cX5_has 2 = .ok (.putfield 62, 3) := by decide +kernel
theorem dX5_has_5 : decode cX5_has 5 = .ok (.aload_n 0, 1) := by decide +kernel
theorem dX5_has_6 : decode cX5_has 6 = .ok (.iload_n 1, 1) := by decide +kernel
theorem dX5_has_7 : decode cX5_has 7 = .ok (.invokevirtual 134, 3) := by decide +kernel
theorem dX5_has_10 : decode cX5_has 10 = .ok (.ifCond .eq 12, 3) := by decide +kernel
theorem dX5_has_13 : decode cX5_has 13 = .ok (.iload_n 2, 1) := by decide +kernel
theorem dX5_has_14 : decode cX5_has 14 = .ok (.iconst 0, 1) := by decide +kernel
theorem dX5_has_15 : decode cX5_has 15 = .ok (.iconst 3, 1) := by decide +kernel
theorem dX5_has_16 : decode cX5_has 16 = .ok (.invokestatic 66, 3) := by decide +kernel
theorem dX5_has_19 : decode cX5_has 19 = .ok (.ifCond .ne 6, 3) := by decide +kernel
theorem dX5_has_22 : decode cX5_has 22 = .ok (.ldc 141, 2) := by decide +kernel
theorem dX5_has_24 : decode cX5_has 24 = .ok (.ireturn, 1) := by decide +kernel
theorem dX5_has_25 : decode cX5_has 25 = .ok (.iload_n 2, 1) := by decide +kernel
theorem dX5_has_26 : decode cX5_has 26 = .ok (.ifCond .ne 15, 3) := by decide +kernel
theorem dX5_has_29 : decode cX5_has 29 = .ok (.aload_n 0, 1) := by decide +kernel
theorem dX5_has_30 : decode cX5_has 30 = .ok (.aload_n 0, 1) := by decide +kernel
theorem dX5_has_31 : decode cX5_has 31 = .ok (.getfield 34, 3) := by decide +kernel
theorem dX5_has_34 : decode cX5_has 34 = .ok (.iload_n 1, 1) := by decide +kernel
theorem dX5_has_35 : decode cX5_has 35 = .ok (.invokevirtual 124, 3) := by decide +kernel
theorem dX5_has_38 : decode cX5_has 38 = .ok (.goto 46, 3) := by decide +kernel
theorem dX5_has_41 : decode cX5_has 41 = .ok (.iload_n 2, 1) := by decide +kernel
theorem dX5_has_42 : decode cX5_has 42 = .ok (.iconst 1, 1) := by decide +kernel
theorem dX5_has_43 : decode cX5_has 43 = .ok (.if_icmp .ne 15, 3) := by decide +kernel
theorem dX5_has_46 : decode cX5_has 46 = .ok (.aload_n 0, 1) := by decide +kernel
theorem dX5_has_47 : decode cX5_has 47 = .ok (.aload_n 0, 1) := by decide +kernel
theorem dX5_has_48 : decode cX5_has 48 = .ok (.getfield 34, 3) := by decide +kernel
theorem dX5_has_51 : decode cX5_has 51 = .ok (.iload_n 1, 1) := by decide +kernel
theorem dX5_has_52 : decode cX5_has 52 = .ok (.invokevirtual 131, 3) := by decide +kernel
theorem dX5_has_55 : decode cX5_has 55 = .ok (.goto 29, 3) := by decide +kernel
theorem dX5_has_58 : decode cX5_has 58 = .ok (.iload_n 2, 1) := by decide +kernel
theorem dX5_has_59 : decode cX5_has 59 = .ok (.iconst 2, 1) := by decide +kernel
theorem dX5_has_60 : decode cX5_has 60 = .ok (.if_icmp .ne 15, 3) := by decide +kernel
theorem dX5_has_63 : decode cX5_has 63 = .ok (.aload_n 0, 1) := by decide +kernel
theorem dX5_has_64 : decode cX5_has 64 = .ok (.aload_n 0, 1) := by decide +kernel
theorem dX5_has_65 : decode cX5_has 65 = .ok (.getfield 34, 3) := by decide +kernel
theorem dX5_has_68 : decode cX5_has 68 = .ok (.iload_n 1, 1) := by decide +kernel
theorem dX5_has_69 : decode cX5_has 69 = .ok (.invokevirtual 142, 3) := by decide +kernel
theorem dX5_has_72 : decode cX5_has 72 = .ok (.goto 12, 3) := by decide +kernel
theorem dX5_has_75 : decode cX5_has 75 = .ok (.aload_n 0, 1) := by decide +kernel
theorem dX5_has_76 : decode cX5_has 76 = .ok (.getfield 34, 3) := by decide +kernel
theorem dX5_has_79 : decode cX5_has 79 = .ok (.bipush 24, 2) := by decide +kernel
theorem dX5_has_81 : decode cX5_has 81 = .ok (.iload_n 1, 1) := by decide +kernel
theorem dX5_has_82 : decode cX5_has 82 = .ok (.iadd, 1) := by decide +kernel
theorem dX5_has_83 : decode cX5_has 83 = .ok (.iaload, 1) := by decide +kernel
theorem dX5_has_84 : decode cX5_has 84 = .ok (.ireturn, 1) := by decide +kernel
theorem dX5_hasAll_0 : decode cX5_hasAll 0 = .ok (.iconst 0, 1) := by decide +kernel
theorem dX5_hasAll_1 : decode cX5_hasAll 1 = .ok (.istore_n 1, 1) := by decide +kernel
theorem dX5_hasAll_2 : decode cX5_hasAll 2 = .ok (.iconst 0, 1) := by decide +kernel
theorem dX5_hasAll_3 : decode cX5_hasAll 3 = .ok (.istore_n 2, 1) := by decide +kernel
theorem dX5_hasAll_4 : decode cX5_hasAll 4 = .ok (.iload_n 2, 1) := by decide +kernel
theorem dX5_hasAll_5 : decode cX5_hasAll 5 = .ok (.aload_n 0, 1) := by decide +kernel
theorem dX5_hasAll_6 : decode cX5_hasAll 6 = .ok (.getfield 13, 3) := by decide +kernel
theorem dX5_hasAll_9 : decode cX5_hasAll 9 = .ok (.iconst 1, 1) := by decide +kernel
theorem dX5_hasAll_10 : decode cX5_hasAll 10 = .ok (.iaload, 1) := by decide +kernel
theorem dX5_hasAll_11 : decode cX5_hasAll 11 = .ok (.if_icmp .ge 21, 3) := by decide +kernel
theorem dX5_hasAll_14 : decode cX5_hasAll 14 = .ok (.iload_n 1, 1) := by decide +kernel
theorem dX5_hasAll_15 : decode cX5_hasAll 15 = .ok (.aload_n 0, 1) := by decide +kernel
theorem dX5_hasAll_16 : decode cX5_hasAll 16 = .ok (.aload_n 0, 1) := by decide +kernel
theorem dX5_hasAll_17 : decode cX5_hasAll 17 = .ok (.getfield 34, 3) := by decide +kernel
theorem dX5_hasAll_20 : decode cX5_hasAll 20 = .ok (.iload_n 2, 1) := by decide +kernel
theorem dX5_hasAll_21 : decode cX5_hasAll 21 = .ok (.invokevirtual 142, 3) := by decide +kernel
theorem dX5_hasAll_24 : decode cX5_hasAll 24 = .ok (.iadd, 1) := by decide +kernel
theorem dX5_hasAll_25 : decode cX5_hasAll 25 = .ok (.istore_n 1, 1) := by decide +kernel
theorem dX5_hasAll_26 : decode cX5_hasAll 26 = .ok (.iinc 2 1, 3) := by decide +kernel
theorem dX5_hasAll_29 : decode cX5_hasAll 29 = .ok (.goto (-25), 3) := by decide +kernel
theorem dX5_hasAll_32 : decode cX5_hasAll 32 = .ok (.iload_n 1, 1) := by decide +kernel
theorem dX5_hasAll_33 : decode cX5_hasAll 33 = .ok (.ireturn, 1) := by decide +kernel
theorem dX5_hungries_0 : decode cX5_hungries 0 = .ok (.iconst 0, 1) := by decide +kernel
theorem dX5_hungries_1 : decode cX5_hungries 1 = .ok (.istore_n 1, 1) := by decide +kernel
theorem dX5_hungries_2 : decode cX5_hungries 2 = .ok (.iconst 0, 1) := by decide +kernel
theorem dX5_hungries_3 : decode cX5_hungries 3 = .ok (.istore_n 2, 1) := by decide +kernel
theorem dX5_hungries_4 : decode cX5_hungries 4 = .ok (.iload_n 2, 1) := by decide +kernel
theorem dX5_hungries_5 : decode cX5_hungries 5 = .ok (.aload_n 0, 1) := by decide +kernel
theorem dX5_hungries_6 : decode cX5_hungries 6 = .ok (.getfield 13, 3) := by decide +kernel
theorem dX5_hungries_9 : decode cX5_hungries 9 = .ok (.iconst 1, 1) := by decide +kernel
theorem dX5_hungries_10 : decode cX5_hungries 10 = .ok (.iaload, 1) := by decide +kernel
theorem dX5_hungries_11 : decode cX5_hungries 11 = .ok (.if_icmp .ge 27, 3) := by decide +kernel
theorem dX5_hungries_14 : decode cX5_hungries 14 = .ok (.iload_n 1, 1) := by decide +kernel
theorem dX5_hungries_15 : decode cX5_hungries 15 = .ok (.aload_n 0, 1) := by decide +kernel
theorem dX5_hungries_16 : decode cX5_hungries 16 = .ok (.iload_n 2, 1) := by decide +kernel
theorem dX5_hungries_17 : decode cX5_hungries 17 = .ok (.invokevirtual 145, 3) := by decide +kernel
theorem dX5_hungries_20 : decode cX5_hungries 20 = .ok (.ifCond .eq 9, 3) := by decide +kernel
theorem dX5_hungries_23 : decode cX5_hungries 23 = .ok (.iconst 1, 1) := by decide +kernel
theorem dX5_hungries_24 : decode cX5_hungries 24 = .ok (.iload_n 2, 1) := by decide +kernel
theorem dX5_hungries_25 : decode cX5_hungries 25 = .ok (.ishl, 1) := by decide +kernel
theorem dX5_hungries_26 : decode cX5_hungries 26 = .ok (.goto 4, 3) := by decide +kernel
theorem dX5_hungries_29 : decode cX5_hungries 29 = .ok (.iconst 0, 1) := by decide +kernel
theorem dX5_hungries_30 : decode cX5_hungries 30 = .ok (.ior, 1) := by decide +kernel
theorem dX5_hungries_31 : decode cX5_hungries 31 = .ok (.istore_n 1, 1) := by decide +kernel
theorem dX5_hungries_32 : decode cX5_hungries 32 = .ok (.iinc 2 1, 3) := by decide +kernel
theorem dX5_hungries_35 : decode cX5_hungries 35 = .ok (.goto (-31), 3) := by decide +kernel
theorem dX5_hungries_38 : decode cX5_hungries 38 = .ok (.iload_n 1, 1) := by decide +kernel
theorem dX5_hungries_39 : decode cX5_hungries 39 = .ok (.ireturn, 1) := by decide +kernel
theorem dX5_now_0 : decode cX5_now 0 = .ok (.aload_n 0, 1) := by decide +kernel
theorem dX5_now_1 : decode cX5_now 1 = .ok (.iconst 0, 1) := by decide +kernel
theorem dX5_now_2 : decode cX5_now 2 = .ok (.putfield 62, 3) := by decide +kernel
theorem dX5_now_5 : decode cX5_now 5 = .ok (.iload_n 1, 1) := by decide +kernel
theorem dX5_now_6 : decode cX5_now 6 = .ok (.iconst 0, 1) := by decide +kernel
theorem dX5_now_7 : decode cX5_now 7 = .ok (.iconst 5, 1) := by decide +kernel
theorem dX5_now_8 : decode cX5_now 8 = .ok (.invokestatic 66, 3) := by decide +kernel
theorem dX5_now_11 : decode cX5_now 11 = .ok (.ifCond .ne 5, 3) := by decide +kernel
theorem dX5_now_14 : decode cX5_now 14 = .ok (.iconst (-1), 1) := by decide +kernel
theorem dX5_now_15 : decode cX5_now 15 = .ok (.ireturn, 1) := by decide +kernel
theorem dX5_now_16 : decode cX5_now 16 = .ok (.iconst 0, 1) := by decide +kernel
theorem dX5_now_17 : decode cX5_now 17 = .ok (.istore_n 2, 1) := by decide +kernel
theorem dX5_now_18 : decode cX5_now 18 = .ok (.iconst 0, 1) := by decide +kernel
theorem dX5_now_19 : decode cX5_now 19 = .ok (.istore_n 3, 1) := by decide +kernel
theorem dX5_now_20 : decode cX5_now 20 = .ok (.iload_n 3, 1) := by decide +kernel
theorem dX5_now_21 : decode cX5_now 21 = .ok (.aload_n 0, 1) := by decide +kernel
theorem dX5_now_22 : decode cX5_now 22 = .ok (.getfield 13, 3) := by decide +kernel
theorem dX5_now_25 : decode cX5_now 25 = .ok (.iconst 1, 1) := by decide +kernel
theorem dX5_now_26 : decode cX5_now 26 = .ok (.iaload, 1) := by decide +kernel
theorem dX5_now_27 : decode cX5_now 27 = .ok (.if_icmp .ge 21, 3) := by decide +kernel
theorem dX5_now_30 : decode cX5_now 30 = .ok (.iload_n 2, 1) := by decide +kernel
theorem dX5_now_31 : decode cX5_now 31 = .ok (.aload_n 0, 1) := by decide +kernel
theorem dX5_now_32 : decode cX5_now 32 = .ok (.getfield 34, 3) := by decide +kernel
theorem dX5_now_35 : decode cX5_now 35 = .ok (.bipush 12, 2) := by decide +kernel
theorem dX5_now_37 : decode cX5_now 37 = .ok (.iload_n 3, 1) := by decide +kernel
theorem dX5_now_38 : decode cX5_now 38 = .ok (.iadd, 1) := by decide +kernel
theorem dX5_now_39 : decode cX5_now 39 = .ok (.iaload, 1) := by decide +kernel
theorem dX5_now_40 : decode cX5_now 40 = .ok (.iadd, 1) := by decide +kernel
theorem dX5_now_41 : decode cX5_now 41 = .ok (.istore_n 2, 1) := by decide +kernel
theorem dX5_now_42 : decode cX5_now 42 = .ok (.iinc 3 1, 3) := by decide +kernel
theorem dX5_now_45 : decode cX5_now 45 = .ok (.goto (-25), 3) := by decide +kernel
theorem dX5_now_48 : decode cX5_now 48 = .ok (.iload_n 1, 1) := by decide +kernel
theorem dX5_now_49 : decode cX5_now 49 = .ok (.ifCond .ne 13, 3) := by decide +kernel
theorem dX5_now_52 : decode cX5_now 52 = .ok (.aload_n 0, 1) := by decide +kernel
theorem dX5_now_53 : decode cX5_now 53 = .ok (.getfield 34, 3) := by decide +kernel
theorem dX5_now_56 : decode cX5_now 56 = .ok (.bipush 31, 2) := by decide +kernel
theorem dX5_now_58 : decode cX5_now 58 = .ok (.iaload, 1) := by decide +kernel
theorem dX5_now_59 : decode cX5_now 59 = .ok (.goto 55, 3) := by decide +kernel
theorem dX5_now_62 : decode cX5_now 62 = .ok (.iload_n 1, 1) := by decide +kernel
theorem dX5_now_63 : decode cX5_now 63 = .ok (.iconst 1, 1) := by decide +kernel
theorem dX5_now_64 : decode cX5_now 64 = .ok (.if_icmp .ne 13, 3) := by decide +kernel
theorem dX5_now_67 : decode cX5_now 67 = .ok (.aload_n 0, 1) := by decide +kernel
theorem dX5_now_68 : decode cX5_now 68 = .ok (.getfield 34, 3) := by decide +kernel
theorem dX5_now_71 : decode cX5_now 71 = .ok (.bipush 30, 2) := by decide +kernel
theorem dX5_now_73 : decode cX5_now 73 = .ok (.iaload, 1) := by decide +kernel
theorem dX5_now_74 : decode cX5_now 74 = .ok (.goto 40, 3) := by decide +kernel
theorem dX5_now_77 : decode cX5_now 77 = .ok (.iload_n 1, 1) := by decide +kernel
theorem dX5_now_78 : decode cX5_now 78 = .ok (.iconst 2, 1) := by decide +kernel
theorem dX5_now_79 : decode cX5_now 79 = .ok (.if_icmp .ne 7, 3) := by decide +kernel
theorem dX5_now_82 : decode cX5_now 82 = .ok (.iload_n 2, 1) := by decide +kernel
theorem dX5_now_83 : decode cX5_now 83 = .ok (.goto 31, 3) := by decide +kernel
theorem dX5_now_86 : decode cX5_now 86 = .ok (.iload_n 1, 1) := by decide +kernel
theorem dX5_now_87 : decode cX5_now 87 = .ok (.iconst 3, 1) := by decide +kernel
theorem dX5_now_88 : decode cX5_now 88 = .ok (.if_icmp .ne 10, 3) := by decide +kernel
theorem dX5_now_91 : decode cX5_now 91 = .ok (.aload_n 0, 1) := by decide +kernel
theorem dX5_now_92 : decode cX5_now 92 = .ok (.invokevirtual 148, 3) := by decide +kernel
theorem dX5_now_95 : decode cX5_now 95 = .ok (.goto 19, 3) := by decide +kernel
theorem dX5_now_98 : decode cX5_now 98 = .ok (.iload_n 1, 1) := by decide +kernel
theorem dX5_now_99 : decode cX5_now 99 = .ok (.iconst 4, 1) := by decide +kernel
theorem dX5_now_100 : decode cX5_now 100 = .ok (.if_icmp .ne 10, 3) := by decide +kernel
theorem dX5_now_103 : decode cX5_now 103 = .ok (.aload_n 0, 1) := by decide +kernel
theorem dX5_now_104 : decode cX5_now 104 = .ok (.invokevirtual 152, 3) := by decide +kernel
theorem dX5_now_107 : decode cX5_now 107 = .ok (.goto 7, 3) := by decide +kernel
theorem dX5_now_110 : decode cX5_now 110 = .ok (.aload_n 0, 1) := by decide +kernel
theorem dX5_now_111 : decode cX5_now 111 = .ok (.getfield 117, 3) := by decide +kernel
theorem dX5_now_114 : decode cX5_now 114 = .ok (.ireturn, 1) := by decide +kernel
theorem dX5_notes_0 : decode cX5_notes 0 = .ok (.aload_n 0, 1) := by decide +kernel
theorem dX5_notes_1 : decode cX5_notes 1 = .ok (.getfield 117, 3) := by decide +kernel
theorem dX5_notes_4 : decode cX5_notes 4 = .ok (.bipush 10, 2) := by decide +kernel
theorem dX5_notes_6 : decode cX5_notes 6 = .ok (.if_icmp .ne 39, 3) := by decide +kernel
theorem dX5_notes_9 : decode cX5_notes 9 = .ok (.iconst 0, 1) := by decide +kernel
theorem dX5_notes_10 : decode cX5_notes 10 = .ok (.istore_n 1, 1) := by decide +kernel
theorem dX5_notes_11 : decode cX5_notes 11 = .ok (.iload_n 1, 1) := by decide +kernel
theorem dX5_notes_12 : decode cX5_notes 12 = .ok (.sipush 288, 3) := by decide +kernel
theorem dX5_notes_15 : decode cX5_notes 15 = .ok (.if_icmp .ge 24, 3) := by decide +kernel
theorem dX5_notes_18 : decode cX5_notes 18 = .ok (.aload_n 0, 1) := by decide +kernel
theorem dX5_notes_19 : decode cX5_notes 19 = .ok (.getfield 47, 3) := by decide +kernel
theorem dX5_notes_22 : decode cX5_notes 22 = .ok (.iload_n 1, 1) := by decide +kernel
theorem dX5_notes_23 : decode cX5_notes 23 = .ok (.aload_n 0, 1) := by decide +kernel
theorem dX5_notes_24 : decode cX5_notes 24 = .ok (.getfield 47, 3) := by decide +kernel
theorem dX5_notes_27 : decode cX5_notes 27 = .ok (.iload_n 1, 1) := by decide +kernel
theorem dX5_notes_28 : decode cX5_notes 28 = .ok (.bipush 32, 2) := by decide +kernel
theorem dX5_notes_30 : decode cX5_notes 30 = .ok (.iadd, 1) := by decide +kernel
theorem dX5_notes_31 : decode cX5_notes 31 = .ok (.iaload, 1) := by decide +kernel
theorem dX5_notes_32 : decode cX5_notes 32 = .ok (.iastore, 1) := by decide +kernel
theorem dX5_notes_33 : decode cX5_notes 33 = .ok (.iinc 1 1, 3) := by decide +kernel
theorem dX5_notes_36 : decode cX5_notes 36 = .ok (.goto (-25), 3) := by decide +kernel
theorem dX5_notes_39 : decode cX5_notes 39 = .ok (.aload_n 0, 1) := by decide +kernel
theorem dX5_notes_40 : decode cX5_notes 40 = .ok (.bipush 9, 2) := by decide +kernel
theorem dX5_notes_42 : decode cX5_notes 42 = .ok (.putfield 117, 3) := by decide +kernel
theorem dX5_notes_45 : decode cX5_notes 45 = .ok (.iconst 0, 1) := by decide +kernel
theorem dX5_notes_46 : decode cX5_notes 46 = .ok (.istore_n 1, 1) := by decide +kernel
theorem dX5_notes_47 : decode cX5_notes 47 = .ok (.iload_n 1, 1) := by decide +kernel
theorem dX5_notes_48 : decode cX5_notes 48 = .ok (.bipush 32, 2) := by decide +kernel
theorem dX5_notes_50 : decode cX5_notes 50 = .ok (.if_icmp .ge 29, 3) := by decide +kernel
theorem dX5_notes_53 : decode cX5_notes 53 = .ok (.aload_n 0, 1) := by decide +kernel
theorem dX5_notes_54 : decode cX5_notes 54 = .ok (.getfield 47, 3) := by decide +kernel
theorem dX5_notes_57 : decode cX5_notes 57 = .ok (.bipush 32, 2) := by decide +kernel
theorem dX5_notes_59 : decode cX5_notes 59 = .ok (.aload_n 0, 1) := by decide +kernel
theorem dX5_notes_60 : decode cX5_notes 60 = .ok (.getfield 117, 3) := by decide +kernel
theorem dX5_notes_63 : decode cX5_notes 63 = .ok (.imul, 1) := by decide +kernel
theorem dX5_notes_64 : decode cX5_notes 64 = .ok (.iload_n 1, 1) := by decide +kernel
theorem dX5_notes_65 : decode cX5_notes 65 = .ok (.iadd, 1) := by decide +kernel
theorem dX5_notes_66 : decode cX5_notes 66 = .ok (.aload_n 0, 1) := by decide +kernel
theorem dX5_notes_67 : decode cX5_notes 67 = .ok (.getfield 34, 3) := by decide +kernel
theorem dX5_notes_70 : decode cX5_notes 70 = .ok (.iload_n 1, 1) := by decide +kernel
theorem dX5_notes_71 : decode cX5_notes 71 = .ok (.iaload, 1) := by decide +kernel
theorem dX5_notes_72 : decode cX5_notes 72 = .ok (.iastore, 1) := by decide +kernel
theorem dX5_notes_73 : decode cX5_notes 73 = .ok (.iinc 1 1, 3) := by decide +kernel
theorem dX5_notes_76 : decode cX5_notes 76 = .ok (.goto (-29), 3) := by decide +kernel
theorem dX5_notes_79 : decode cX5_notes 79 = .ok (.aload_n 0, 1) := by decide +kernel
theorem dX5_notes_80 : decode cX5_notes 80 = .ok (.dup, 1) := by decide +kernel
theorem dX5_notes_81 : decode cX5_notes 81 = .ok (.getfield 117, 3) := by decide +kernel
theorem dX5_notes_84 : decode cX5_notes 84 = .ok (.iconst 1, 1) := by decide +kernel
theorem dX5_notes_85 : decode cX5_notes 85 = .ok (.iadd, 1) := by decide +kernel
theorem dX5_notes_86 : decode cX5_notes 86 = .ok (.putfield 117, 3) := by decide +kernel
theorem dX5_notes_89 : decode cX5_notes 89 = .ok (.return_, 1) := by decide +kernel
theorem dX5_becomes_0 : decode cX5_becomes 0 = .ok (.aload_n 0, 1) := by decide +kernel
theorem dX5_becomes_1 : decode cX5_becomes 1 = .ok (.invokevirtual 155, 3) := by decide +kernel
theorem dX5_becomes_4 : decode cX5_becomes 4 = .ok (.aload_n 0, 1) := by decide +kernel
theorem dX5_becomes_5 : decode cX5_becomes 5 = .ok (.getfield 34, 3) := by decide +kernel
theorem dX5_becomes_8 : decode cX5_becomes 8 = .ok (.iload_n 1, 1) := by decide +kernel
theorem dX5_becomes_9 : decode cX5_becomes 9 = .ok (.iaload, 1) := by decide +kernel
theorem dX5_becomes_10 : decode cX5_becomes 10 = .ok (.istore_n 3, 1) := by decide +kernel
theorem dX5_becomes_11 : decode cX5_becomes 11 = .ok (.aload_n 0, 1) := by decide +kernel
theorem dX5_becomes_12 : decode cX5_becomes 12 = .ok (.getfield 34, 3) := by decide +kernel
theorem dX5_becomes_15 : decode cX5_becomes 15 = .ok (.iload_n 1, 1) := by decide +kernel
theorem dX5_becomes_16 : decode cX5_becomes 16 = .ok (.iload_n 2, 1) := by decide +kernel
theorem dX5_becomes_17 : decode cX5_becomes 17 = .ok (.iastore, 1) := by decide +kernel
theorem dX5_becomes_18 : decode cX5_becomes 18 = .ok (.iload_n 3, 1) := by decide +kernel
theorem dX5_becomes_19 : decode cX5_becomes 19 = .ok (.ireturn, 1) := by decide +kernel
theorem dX5_sows_0 : decode cX5_sows 0 = .ok (.aload_n 0, 1) := by decide +kernel
theorem dX5_sows_1 : decode cX5_sows 1 = .ok (.iconst 0, 1) := by decide +kernel
theorem dX5_sows_2 : decode cX5_sows 2 = .ok (.putfield 62, 3) := by decide +kernel
theorem dX5_sows_5 : decode cX5_sows 5 = .ok (.aload_n 0, 1) := by decide +kernel
theorem dX5_sows_6 : decode cX5_sows 6 = .ok (.iload_n 1, 1) := by decide +kernel
theorem dX5_sows_7 : decode cX5_sows 7 = .ok (.invokevirtual 134, 3) := by decide +kernel
theorem dX5_sows_10 : decode cX5_sows 10 = .ok (.ifCond .eq 22, 3) := by decide +kernel
theorem dX5_sows_13 : decode cX5_sows 13 = .ok (.aload_n 0, 1) := by decide +kernel
theorem dX5_sows_14 : decode cX5_sows 14 = .ok (.iload_n 2, 1) := by decide +kernel
theorem dX5_sows_15 : decode cX5_sows 15 = .ok (.invokevirtual 138, 3) := by decide +kernel
theorem dX5_sows_18 : decode cX5_sows 18 = .ok (.ifCond .eq 14, 3) := by decide +kernel
theorem dX5_sows_21 : decode cX5_sows 21 = .ok (.aload_n 0, 1) := by decide +kernel
theorem dX5_sows_22 : decode cX5_sows 22 = .ok (.iconst 0, 1) := by decide +kernel
theorem dX5_sows_23 : decode cX5_sows 23 = .ok (.iload_n 1, 1) := by decide +kernel
theorem dX5_sows_24 : decode cX5_sows 24 = .ok (.iadd, 1) := by decide +kernel
theorem dX5_sows_25 : decode cX5_sows 25 = .ok (.iload_n 2, 1) := by decide +kernel
theorem dX5_sows_26 : decode cX5_sows 26 = .ok (.invokevirtual 158, 3) := by decide +kernel
theorem dX5_sows_29 : decode cX5_sows 29 = .ok (.goto 4, 3) := by decide +kernel
theorem dX5_sows_32 : decode cX5_sows 32 = .ok (.iconst (-1), 1) := by decide +kernel
theorem dX5_sows_33 : decode cX5_sows 33 = .ok (.ireturn, 1) := by decide +kernel
theorem dX5_rains_0 : decode cX5_rains 0 = .ok (.aload_n 0, 1) := by decide +kernel
theorem dX5_rains_1 : decode cX5_rains 1 = .ok (.iconst 0, 1) := by decide +kernel
theorem dX5_rains_2 : decode cX5_rains 2 = .ok (.putfield 62, 3) := by decide +kernel
theorem dX5_rains_5 : decode cX5_rains 5 = .ok (.iload_n 1, 1) := by decide +kernel
theorem dX5_rains_6 : decode cX5_rains 6 = .ok (.iconst 0, 1) := by decide +kernel
theorem dX5_rains_7 : decode cX5_rains 7 = .ok (.iconst 1, 1) := by decide +kernel
theorem dX5_rains_8 : decode cX5_rains 8 = .ok (.invokestatic 66, 3) := by decide +kernel
theorem dX5_rains_11 : decode cX5_rains 11 = .ok (.ifCond .eq 13, 3) := by decide +kernel
theorem dX5_rains_14 : decode cX5_rains 14 = .ok (.aload_n 0, 1) := by decide +kernel
theorem dX5_rains_15 : decode cX5_rains 15 = .ok (.bipush 30, 2) := by decide +kernel
theorem dX5_rains_17 : decode cX5_rains 17 = .ok (.iload_n 1, 1) := by decide +kernel
theorem dX5_rains_18 : decode cX5_rains 18 = .ok (.invokevirtual 158, 3) := by decide +kernel
theorem dX5_rains_21 : decode cX5_rains 21 = .ok (.goto 4, 3) := by decide +kernel
theorem dX5_rains_24 : decode cX5_rains 24 = .ok (.iconst (-1), 1) := by decide +kernel
theorem dX5_rains_25 : decode cX5_rains 25 = .ok (.ireturn, 1) := by decide +kernel
theorem dX5_ropes_0 : decode cX5_ropes 0 = .ok (.aload_n 0, 1) := by decide +kernel
theorem dX5_ropes_1 : decode cX5_ropes 1 = .ok (.iconst 0, 1) := by decide +kernel
theorem dX5_ropes_2 : decode cX5_ropes 2 = .ok (.putfield 62, 3) := by decide +kernel
theorem dX5_ropes_5 : decode cX5_ropes 5 = .ok (.aload_n 0, 1) := by decide +kernel
theorem dX5_ropes_6 : decode cX5_ropes 6 = .ok (.iload_n 1, 1) := by decide +kernel
theorem dX5_ropes_7 : decode cX5_ropes 7 = .ok (.invokevirtual 134, 3) := by decide +kernel
theorem dX5_ropes_10 : decode cX5_ropes 10 = .ok (.ifCond .eq 24, 3) := by decide +kernel
theorem dX5_ropes_13 : decode cX5_ropes 13 = .ok (.iload_n 2, 1) := by decide +kernel
theorem dX5_ropes_14 : decode cX5_ropes 14 = .ok (.iconst 0, 1) := by decide +kernel
theorem dX5_ropes_15 : decode cX5_ropes 15 = .ok (.iconst 3, 1) := by decide +kernel
theorem dX5_ropes_16 : decode cX5_ropes 16 = .ok (.invokestatic 66, 3) := by decide +kernel
theorem dX5_ropes_19 : decode cX5_ropes 19 = .ok (.ifCond .eq 15, 3) := by decide +kernel
theorem dX5_ropes_22 : decode cX5_ropes 22 = .ok (.aload_n 0, 1) := by decide +kernel
theorem dX5_ropes_23 : decode cX5_ropes 23 = .ok (.bipush 12, 2) := by decide +kernel
theorem dX5_ropes_25 : decode cX5_ropes 25 = .ok (.iload_n 1, 1) := by decide +kernel
theorem dX5_ropes_26 : decode cX5_ropes 26 = .ok (.iadd, 1) := by decide +kernel
theorem dX5_ropes_27 : decode cX5_ropes 27 = .ok (.iload_n 2, 1) := by decide +kernel
theorem dX5_ropes_28 : decode cX5_ropes 28 = .ok (.invokevirtual 158, 3) := by decide +kernel
theorem dX5_ropes_31 : decode cX5_ropes 31 = .ok (.goto 4, 3) := by decide +kernel
theorem dX5_ropes_34 : decode cX5_ropes 34 = .ok (.iconst (-1), 1) := by decide +kernel
theorem dX5_ropes_35 : decode cX5_ropes 35 = .ok (.ireturn, 1) := by decide +kernel
theorem dX5_mules_0 : decode cX5_mules 0 = .ok (.aload_n 0, 1) := by decide +kernel
theorem dX5_mules_1 : decode cX5_mules 1 = .ok (.iconst 0, 1) := by decide +kernel
theorem dX5_mules_2 : decode cX5_mules 2 = .ok (.putfield 62, 3) := by decide +kernel
theorem dX5_mules_5 : decode cX5_mules 5 = .ok (.aload_n 0, 1) := by decide +kernel
theorem dX5_mules_6 : decode cX5_mules 6 = .ok (.iload_n 1, 1) := by decide +kernel
theorem dX5_mules_7 : decode cX5_mules 7 = .ok (.invokevirtual 134, 3) := by decide +kernel
theorem dX5_mules_10 : decode cX5_mules 10 = .ok (.ifCond .eq 24, 3) := by decide +kernel
theorem dX5_mules_13 : decode cX5_mules 13 = .ok (.iload_n 2, 1) := by decide +kernel
theorem dX5_mules_14 : decode cX5_mules 14 = .ok (.iconst 0, 1) := by decide +kernel
theorem dX5_mules_15 : decode cX5_mules 15 = .ok (.iconst 1, 1) := by decide +kernel
theorem dX5_mules_16 : decode cX5_mules 16 = .ok (.invokestatic 66, 3) := by decide +kernel
theorem dX5_mules_19 : decode cX5_mules 19 = .ok (.ifCond .eq 15, 3) := by decide +kernel
theorem dX5_mules_22 : decode cX5_mules 22 = .ok (.aload_n 0, 1) := by decide +kernel
theorem dX5_mules_23 : decode cX5_mules 23 = .ok (.bipush 18, 2) := by decide +kernel
theorem dX5_mules_25 : decode cX5_mules 25 = .ok (.iload_n 1, 1) := by decide +kernel
theorem dX5_mules_26 : decode cX5_mules 26 = .ok (.iadd, 1) := by decide +kernel
theorem dX5_mules_27 : decode cX5_mules 27 = .ok (.iload_n 2, 1) := by decide +kernel
theorem dX5_mules_28 : decode cX5_mules 28 = .ok (.invokevirtual 158, 3) := by decide +kernel
theorem dX5_mules_31 : decode cX5_mules 31 = .ok (.goto 4, 3) := by decide +kernel
theorem dX5_mules_34 : decode cX5_mules 34 = .ok (.iconst (-1), 1) := by decide +kernel
theorem dX5_mules_35 : decode cX5_mules 35 = .ok (.ireturn, 1) := by decide +kernel
theorem dX5_puts_0 : decode cX5_puts 0 = .ok (.aload_n 1, 1) := by decide +kernel
theorem dX5_puts_1 : decode cX5_puts 1 = .ok (.bipush 6, 2) := by decide +kernel
theorem dX5_puts_3 : decode cX5_puts 3 = .ok (.iload_n 2, 1) := by decide +kernel
theorem dX5_puts_4 : decode cX5_puts 4 = .ok (.iadd, 1) := by decide +kernel
theorem dX5_puts_5 : decode cX5_puts 5 = .ok (.iload_n 3, 1) := by decide +kernel
theorem dX5_puts_6 : decode cX5_puts 6 = .ok (.iastore, 1) := by decide +kernel
theorem dX5_puts_7 : decode cX5_puts 7 = .ok (.iload_n 3, 1) := by decide +kernel
theorem dX5_puts_8 : decode cX5_puts 8 = .ok (.ifCond .le 14, 3) := by decide +kernel
theorem dX5_puts_11 : decode cX5_puts 11 = .ok (.aload_n 1, 1) := by decide +kernel
theorem dX5_puts_12 : decode cX5_puts 12 = .ok (.bipush 6, 2) := by decide +kernel
theorem dX5_puts_14 : decode cX5_puts 14 = .ok (.iload_n 3, 1) := by decide +kernel
theorem dX5_puts_15 : decode cX5_puts 15 = .ok (.iadd, 1) := by decide +kernel
theorem dX5_puts_16 : decode cX5_puts 16 = .ok (.iconst 1, 1) := by decide +kernel
theorem dX5_puts_17 : decode cX5_puts 17 = .ok (.isub, 1) := by decide +kernel
theorem dX5_puts_18 : decode cX5_puts 18 = .ok (.iload_n 2, 1) := by decide +kernel
theorem dX5_puts_19 : decode cX5_puts 19 = .ok (.iconst 1, 1) := by decide +kernel
theorem dX5_puts_20 : decode cX5_puts 20 = .ok (.iadd, 1) := by decide +kernel
theorem dX5_puts_21 : decode cX5_puts 21 = .ok (.iastore, 1) := by decide +kernel
theorem dX5_puts_22 : decode cX5_puts 22 = .ok (.return_, 1) := by decide +kernel
theorem dX5_marries_0 : decode cX5_marries 0 = .ok (.aload_n 0, 1) := by decide +kernel
theorem dX5_marries_1 : decode cX5_marries 1 = .ok (.iconst 0, 1) := by decide +kernel
theorem dX5_marries_2 : decode cX5_marries 2 = .ok (.putfield 62, 3) := by decide +kernel
theorem dX5_marries_5 : decode cX5_marries 5 = .ok (.aload_n 0, 1) := by decide +kernel
theorem dX5_marries_6 : decode cX5_marries 6 = .ok (.iload_n 1, 1) := by decide +kernel
theorem dX5_marries_7 : decode cX5_marries 7 = .ok (.invokevirtual 134, 3) := by decide +kernel
theorem dX5_marries_10 : decode cX5_marries 10 = .ok (.ifCond .eq 16, 3) := by decide +kernel
theorem dX5_marries_13 : decode cX5_marries 13 = .ok (.aload_n 0, 1) := by decide +kernel
theorem dX5_marries_14 : decode cX5_marries 14 = .ok (.iload_n 2, 1) := by decide +kernel
theorem dX5_marries_15 : decode cX5_marries 15 = .ok (.invokevirtual 134, 3) := by decide +kernel
theorem dX5_marries_18 : decode cX5_marries 18 = .ok (.ifCond .eq 8, 3) := by decide +kernel
theorem dX5_marries_21 : decode cX5_marries 21 = .ok (.iload_n 1, 1) := by decide +kernel
theorem dX5_marries_22 : decode cX5_marries 22 = .ok (.iload_n 2, 1) := by decide +kernel
theorem dX5_marries_23 : decode cX5_marries 23 = .ok (.if_icmp .ne 5, 3) := by decide +kernel
theorem dX5_marries_26 : decode cX5_marries 26 = .ok (.iconst (-1), 1) := by decide +kernel
theorem dX5_marries_27 : decode cX5_marries 27 = .ok (.ireturn, 1) := by decide +kernel
theorem dX5_marries_28 : decode cX5_marries 28 = .ok (.aload_n 0, 1) := by decide +kernel
theorem dX5_marries_29 : decode cX5_marries 29 = .ok (.invokevirtual 155, 3) := by decide +kernel
theorem dX5_marries_32 : decode cX5_marries 32 = .ok (.aload_n 0, 1) := by decide +kernel
theorem dX5_marries_33 : decode cX5_marries 33 = .ok (.getfield 34, 3) := by decide +kernel
theorem dX5_marries_36 : decode cX5_marries 36 = .ok (.bipush 6, 2) := by decide +kernel
theorem dX5_marries_38 : decode cX5_marries 38 = .ok (.iload_n 1, 1) := by decide +kernel
theorem dX5_marries_39 : decode cX5_marries 39 = .ok (.iadd, 1) := by decide +kernel
theorem dX5_marries_40 : decode cX5_marries 40 = .ok (.iaload, 1) := by decide +kernel
theorem dX5_marries_41 : decode cX5_marries 41 = .ok (.istore_n 3, 1) := by decide +kernel
theorem dX5_marries_42 : decode cX5_marries 42 = .ok (.aload_n 0, 1) := by decide +kernel
theorem dX5_marries_43 : decode cX5_marries 43 = .ok (.getfield 34, 3) := by decide +kernel
theorem dX5_marries_46 : decode cX5_marries 46 = .ok (.bipush 6, 2) := by decide +kernel
theorem dX5_marries_48 : decode cX5_marries 48 = .ok (.iload_n 2, 1) := by decide +kernel
theorem dX5_marries_49 : decode cX5_marries 49 = .ok (.iadd, 1) := by decide +kernel
theorem dX5_marries_50 : decode cX5_marries 50 = .ok (.iaload, 1) := by decide +kernel
theorem dX5_marries_51 : decode cX5_marries 51 = .ok (.istore 4, 2) := by decide +kernel
theorem dX5_marries_53 : decode cX5_marries 53 = .ok (.iload_n 3, 1) := by decide +kernel
theorem dX5_marries_54 : decode cX5_marries 54 = .ok (.iload_n 2, 1) := by decide +kernel
theorem dX5_marries_55 : decode cX5_marries 55 = .ok (.iconst 1, 1) := by decide +kernel
theorem dX5_marries_56 : decode cX5_marries 56 = .ok (.iadd, 1) := by decide +kernel
theorem dX5_marries_57 : decode cX5_marries 57 = .ok (.if_icmp .eq 24, 3) := by decide +kernel
theorem dX5_marries_60 : decode cX5_marries 60 = .ok (.aload_n 0, 1) := by decide +kernel
theorem dX5_marries_61 : decode cX5_marries 61 = .ok (.aload_n 0, 1) := by decide +kernel
theorem dX5_marries_62 : decode cX5_marries 62 = .ok (.getfield 34, 3) := by decide +kernel
theorem dX5_marries_65 : decode cX5_marries 65 = .ok (.iload_n 1, 1) := by decide +kernel
theorem dX5_marries_66 : decode cX5_marries 66 = .ok (.iload 4, 2) := by decide +kernel
theorem dX5_marries_68 : decode cX5_marries 68 = .ok (.invokevirtual 161, 3) := by decide +kernel
theorem dX5_marries_71 : decode cX5_marries 71 = .ok (.aload_n 0, 1) := by decide +kernel
theorem dX5_marries_72 : decode cX5_marries 72 = .ok (.aload_n 0, 1) := by decide +kernel
theorem dX5_marries_73 : decode cX5_marries 73 = .ok (.getfield 34, 3) := by decide +kernel
theorem dX5_marries_76 : decode cX5_marries 76 = .ok (.iload_n 2, 1) := by decide +kernel
theorem dX5_marries_77 : decode cX5_marries 77 = .ok (.iload_n 3, 1) := by decide +kernel
theorem dX5_marries_78 : decode cX5_marries 78 = .ok (.invokevirtual 161, 3) := by decide +kernel
theorem dX5_marries_81 : decode cX5_marries 81 = .ok (.aload_n 0, 1) := by decide +kernel
theorem dX5_marries_82 : decode cX5_marries 82 = .ok (.getfield 34, 3) := by decide +kernel
theorem dX5_marries_85 : decode cX5_marries 85 = .ok (.bipush 6, 2) := by decide +kernel
theorem dX5_marries_87 : decode cX5_marries 87 = .ok (.iload_n 1, 1) := by decide +kernel
theorem dX5_marries_88 : decode cX5_marries 88 = .ok (.iadd, 1) := by decide +kernel
theorem dX5_marries_89 : decode cX5_marries 89 = .ok (.iaload, 1) := by decide +kernel
theorem dX5_marries_90 : decode cX5_marries 90 = .ok (.ifCond .ne 8, 3) := by decide +kernel
theorem dX5_marries_93 : decode cX5_marries 93 = .ok (.bipush (-9), 2) := by decide +kernel
theorem dX5_marries_95 : decode cX5_marries 95 = .ok (.goto 14, 3) := by decide +kernel
theorem dX5_marries_98 : decode cX5_marries 98 = .ok (.aload_n 0, 1) := by decide +kernel
theorem dX5_marries_99 : decode cX5_marries 99 = .ok (.getfield 34, 3) := by decide +kernel
theorem dX5_marries_102 : decode cX5_marries 102 = .ok (.bipush 6, 2) := by decide +kernel
theorem dX5_marries_104 : decode cX5_marries 104 = .ok (.iload_n 1, 1) := by decide +kernel
theorem dX5_marries_105 : decode cX5_marries 105 = .ok (.iadd, 1) := by decide +kernel
theorem dX5_marries_106 : decode cX5_marries 106 = .ok (.iaload, 1) := by decide +kernel
theorem dX5_marries_107 : decode cX5_marries 107 = .ok (.iconst 1, 1) := by decide +kernel
theorem dX5_marries_108 : decode cX5_marries 108 = .ok (.isub, 1) := by decide +kernel
theorem dX5_marries_109 : decode cX5_marries 109 = .ok (.ireturn, 1) := by decide +kernel
theorem dX5_goes_0 : decode cX5_goes 0 = .ok (.iconst 0, 1) := by decide +kernel
theorem dX5_goes_1 : decode cX5_goes 1 = .ok (.istore_n 2, 1) := by decide +kernel
theorem dX5_goes_2 : decode cX5_goes 2 = .ok (.iconst 0, 1) := by decide +kernel
theorem dX5_goes_3 : decode cX5_goes 3 = .ok (.istore_n 3, 1) := by decide +kernel
theorem dX5_goes_4 : decode cX5_goes 4 = .ok (.iload_n 3, 1) := by decide +kernel
theorem dX5_goes_5 : decode cX5_goes 5 = .ok (.aload_n 0, 1) := by decide +kernel
theorem dX5_goes_6 : decode cX5_goes 6 = .ok (.getfield 13, 3) := by decide +kernel
theorem dX5_goes_9 : decode cX5_goes 9 = .ok (.iconst 1, 1) := by decide +kernel
theorem dX5_goes_10 : decode cX5_goes 10 = .ok (.iaload, 1) := by decide +kernel
theorem dX5_goes_11 : decode cX5_goes 11 = .ok (.if_icmp .ge 84, 3) := by decide +kernel
theorem dX5_goes_14 : decode cX5_goes 14 = .ok (.aload_n 0, 1) := by decide +kernel
theorem dX5_goes_15 : decode cX5_goes 15 = .ok (.aload_n 1, 1) := by decide +kernel
theorem dX5_goes_16 : decode cX5_goes 16 = .ok (.iload_n 3, 1) := by decide +kernel
theorem dX5_goes_17 : decode cX5_goes 17 = .ok (.invokevirtual 142, 3) := by decide +kernel
theorem dX5_goes_20 : decode cX5_goes 20 = .ok (.aload_n 0, 1) := by decide +kernel
theorem dX5_goes_21 : decode cX5_goes 21 = .ok (.getfield 28, 3) := by decide +kernel
theorem dX5_goes_24 : decode cX5_goes 24 = .ok (.iload_n 3, 1) := by decide +kernel
theorem dX5_goes_25 : decode cX5_goes 25 = .ok (.iaload, 1) := by decide +kernel
theorem dX5_goes_26 : decode cX5_goes 26 = .ok (.isub, 1) := by decide +kernel
theorem dX5_goes_27 : decode cX5_goes 27 = .ok (.istore 4, 2) := by decide +kernel
theorem dX5_goes_29 : decode cX5_goes 29 = .ok (.aload_n 1, 1) := by decide +kernel
theorem dX5_goes_30 : decode cX5_goes 30 = .ok (.bipush 24, 2) := by decide +kernel
theorem dX5_goes_32 : decode cX5_goes 32 = .ok (.iload_n 3, 1) := by decide +kernel
theorem dX5_goes_33 : decode cX5_goes 33 = .ok (.iadd, 1) := by decide +kernel
theorem dX5_goes_34 : decode cX5_goes 34 = .ok (.iaload, 1) := by decide +kernel
theorem dX5_goes_35 : decode cX5_goes 35 = .ok (.iload 4, 2) := by decide +kernel
theorem dX5_goes_37 : decode cX5_goes 37 = .ok (.iadd, 1) := by decide +kernel
theorem dX5_goes_38 : decode cX5_goes 38 = .ok (.istore 5, 2) := by decide +kernel
theorem dX5_goes_40 : decode cX5_goes 40 = .ok (.aload_n 1, 1) := by decide +kernel
theorem dX5_goes_41 : decode cX5_goes 41 = .ok (.bipush 24, 2) := by decide +kernel
theorem dX5_goes_43 : decode cX5_goes 43 = .ok (.iload_n 3, 1) := by decide +kernel
theorem dX5_goes_44 : decode cX5_goes 44 = .ok (.iadd, 1) := by decide +kernel
theorem dX5_goes_45 : decode cX5_goes 45 = .ok (.iload 5, 2) := by decide +kernel
theorem dX5_goes_47 : decode cX5_goes 47 = .ok (.sipush (-9999), 3) := by decide +kernel
theorem dX5_goes_50 : decode cX5_goes 50 = .ok (.if_icmp .ge 9, 3) := by decide +kernel
theorem dX5_goes_53 : decode cX5_goes 53 = .ok (.sipush (-9999), 3) := by decide +kernel
theorem dX5_goes_56 : decode cX5_goes 56 = .ok (.goto 19, 3) := by decide +kernel
theorem dX5_goes_59 : decode cX5_goes 59 = .ok (.iload 5, 2) := by decide +kernel
theorem dX5_goes_61 : decode cX5_goes 61 = .ok (.sipush 9999, 3) := by decide +kernel
theorem dX5_goes_64 : decode cX5_goes 64 = .ok (.if_icmp .le 9, 3) := by decide +kernel
theorem dX5_goes_67 : decode cX5_goes 67 = .ok (.sipush 9999, 3) := by decide +kernel
theorem dX5_goes_70 : decode cX5_goes 70 = .ok (.goto 5, 3) := by decide +kernel
theorem dX5_goes_73 : decode cX5_goes 73 = .ok (.iload 5, 2) := by decide +kernel
theorem dX5_goes_75 : decode cX5_goes 75 = .ok (.iastore, 1) := by decide +kernel
theorem dX5_goes_76 : decode cX5_goes 76 = .ok (.iload_n 2, 1) := by decide +kernel
theorem dX5_goes_77 : decode cX5_goes 77 = .ok (.iload 4, 2) := by decide +kernel
theorem dX5_goes_79 : decode cX5_goes 79 = .ok (.ifCond .lt 7, 3) := by decide +kernel
theorem dX5_goes_82 : decode cX5_goes 82 = .ok (.iconst 1, 1) := by decide +kernel
theorem dX5_goes_83 : decode cX5_goes 83 = .ok (.goto 4, 3) := by decide +kernel
theorem dX5_goes_86 : decode cX5_goes 86 = .ok (.iconst 0, 1) := by decide +kernel
theorem dX5_goes_87 : decode cX5_goes 87 = .ok (.iadd, 1) := by decide +kernel
theorem dX5_goes_88 : decode cX5_goes 88 = .ok (.istore_n 2, 1) := by decide +kernel
theorem dX5_goes_89 : decode cX5_goes 89 = .ok (.iinc 3 1, 3) := by decide +kernel
theorem dX5_goes_92 : decode cX5_goes 92 = .ok (.goto (-88), 3) := by decide +kernel
theorem dX5_goes_95 : decode cX5_goes 95 = .ok (.aload_n 1, 1) := by decide +kernel
theorem dX5_goes_96 : decode cX5_goes 96 = .ok (.bipush 31, 2) := by decide +kernel
theorem dX5_goes_98 : decode cX5_goes 98 = .ok (.dup2, 1) := by decide +kernel
theorem dX5_goes_99 : decode cX5_goes 99 = .ok (.iaload, 1) := by decide +kernel
theorem dX5_goes_100 : decode cX5_goes 100 = .ok (.iconst 1, 1) := by decide +kernel
theorem dX5_goes_101 : decode cX5_goes 101 = .ok (.iadd, 1) := by decide +kernel
theorem dX5_goes_102 : decode cX5_goes 102 = .ok (.iastore, 1) := by decide +kernel
theorem dX5_goes_103 : decode cX5_goes 103 = .ok (.iload_n 2, 1) := by decide +kernel
theorem dX5_goes_104 : decode cX5_goes 104 = .ok (.ireturn, 1) := by decide +kernel
theorem dX5_year_0 : decode cX5_year 0 = .ok (.aload_n 0, 1) := by decide +kernel
theorem dX5_year_1 : decode cX5_year 1 = .ok (.iconst 0, 1) := by decide +kernel
theorem dX5_year_2 : decode cX5_year 2 = .ok (.putfield 62, 3) := by decide +kernel
theorem dX5_year_5 : decode cX5_year 5 = .ok (.aload_n 0, 1) := by decide +kernel
theorem dX5_year_6 : decode cX5_year 6 = .ok (.getfield 34, 3) := by decide +kernel
theorem dX5_year_9 : decode cX5_year 9 = .ok (.bipush 31, 2) := by decide +kernel
theorem dX5_year_11 : decode cX5_year 11 = .ok (.iaload, 1) := by decide +kernel
theorem dX5_year_12 : decode cX5_year 12 = .ok (.sipush 999, 3) := by decide +kernel
theorem dX5_year_15 : decode cX5_year 15 = .ok (.if_icmp .ne 6, 3) := by decide +kernel
theorem dX5_year_18 : decode cX5_year 18 = .ok (.bipush (-2), 2) := by decide +kernel
theorem dX5_year_20 : decode cX5_year 20 = .ok (.ireturn, 1) := by decide +kernel
theorem dX5_year_21 : decode cX5_year 21 = .ok (.aload_n 0, 1) := by decide +kernel
theorem dX5_year_22 : decode cX5_year 22 = .ok (.invokevirtual 155, 3) := by decide +kernel
theorem dX5_year_25 : decode cX5_year 25 = .ok (.aload_n 0, 1) := by decide +kernel
theorem dX5_year_26 : decode cX5_year 26 = .ok (.aload_n 0, 1) := by decide +kernel
theorem dX5_year_27 : decode cX5_year 27 = .ok (.getfield 34, 3) := by decide +kernel
theorem dX5_year_30 : decode cX5_year 30 = .ok (.invokevirtual 165, 3) := by decide +kernel
theorem dX5_year_33 : decode cX5_year 33 = .ok (.ireturn, 1) := by decide +kernel
theorem dX5_undo_0 : decode cX5_undo 0 = .ok (.aload_n 0, 1) := by decide +kernel
theorem dX5_undo_1 : decode cX5_undo 1 = .ok (.iconst 0, 1) := by decide +kernel
theorem dX5_undo_2 : decode cX5_undo 2 = .ok (.putfield 62, 3) := by decide +kernel
theorem dX5_undo_5 : decode cX5_undo 5 = .ok (.aload_n 0, 1) := by decide +kernel
theorem dX5_undo_6 : decode cX5_undo 6 = .ok (.getfield 117, 3) := by decide +kernel
theorem dX5_undo_9 : decode cX5_undo 9 = .ok (.ifCond .ne 6, 3) := by decide +kernel
theorem dX5_undo_12 : decode cX5_undo 12 = .ok (.bipush (-2), 2) := by decide +kernel
theorem dX5_undo_14 : decode cX5_undo 14 = .ok (.ireturn, 1) := by decide +kernel
theorem dX5_undo_15 : decode cX5_undo 15 = .ok (.aload_n 0, 1) := by decide +kernel
theorem dX5_undo_16 : decode cX5_undo 16 = .ok (.dup, 1) := by decide +kernel
theorem dX5_undo_17 : decode cX5_undo 17 = .ok (.getfield 117, 3) := by decide +kernel
theorem dX5_undo_20 : decode cX5_undo 20 = .ok (.iconst 1, 1) := by decide +kernel
theorem dX5_undo_21 : decode cX5_undo 21 = .ok (.isub, 1) := by decide +kernel
theorem dX5_undo_22 : decode cX5_undo 22 = .ok (.putfield 117, 3) := by decide +kernel
theorem dX5_undo_25 : decode cX5_undo 25 = .ok (.iconst 0, 1) := by decide +kernel
theorem dX5_undo_26 : decode cX5_undo 26 = .ok (.istore_n 1, 1) := by decide +kernel
theorem dX5_undo_27 : decode cX5_undo 27 = .ok (.iload_n 1, 1) := by decide +kernel
theorem dX5_undo_28 : decode cX5_undo 28 = .ok (.bipush 32, 2) := by decide +kernel
theorem dX5_undo_30 : decode cX5_undo 30 = .ok (.if_icmp .ge 29, 3) := by decide +kernel
theorem dX5_undo_33 : decode cX5_undo 33 = .ok (.aload_n 0, 1) := by decide +kernel
theorem dX5_undo_34 : decode cX5_undo 34 = .ok (.getfield 34, 3) := by decide +kernel
theorem dX5_undo_37 : decode cX5_undo 37 = .ok (.iload_n 1, 1) := by decide +kernel
theorem dX5_undo_38 : decode cX5_undo 38 = .ok (.aload_n 0, 1) := by decide +kernel
theorem dX5_undo_39 : decode cX5_undo 39 = .ok (.getfield 47, 3) := by decide +kernel
theorem dX5_undo_42 : decode cX5_undo 42 = .ok (.bipush 32, 2) := by decide +kernel
theorem dX5_undo_44 : decode cX5_undo 44 = .ok (.aload_n 0, 1) := by decide +kernel
theorem dX5_undo_45 : decode cX5_undo 45 = .ok (.getfield 117, 3) := by decide +kernel
theorem dX5_undo_48 : decode cX5_undo 48 = .ok (.imul, 1) := by decide +kernel
theorem dX5_undo_49 : decode cX5_undo 49 = .ok (.iload_n 1, 1) := by decide +kernel
theorem dX5_undo_50 : decode cX5_undo 50 = .ok (.iadd, 1) := by decide +kernel
theorem dX5_undo_51 : decode cX5_undo 51 = .ok (.iaload, 1) := by decide +kernel
theorem dX5_undo_52 : decode cX5_undo 52 = .ok (.iastore, 1) := by decide +kernel
theorem dX5_undo_53 : decode cX5_undo 53 = .ok (.iinc 1 1, 3) := by decide +kernel
theorem dX5_undo_56 : decode cX5_undo 56 = .ok (.goto (-29), 3) := by decide +kernel
theorem dX5_undo_59 : decode cX5_undo 59 = .ok (.aload_n 0, 1) := by decide +kernel
theorem dX5_undo_60 : decode cX5_undo 60 = .ok (.getfield 117, 3) := by decide +kernel
theorem dX5_undo_63 : decode cX5_undo 63 = .ok (.ireturn, 1) := by decide +kernel
theorem dX5_asNow_0 : decode cX5_asNow 0 = .ok (.iconst 0, 1) := by decide +kernel
theorem dX5_asNow_1 : decode cX5_asNow 1 = .ok (.istore_n 1, 1) := by decide +kernel
theorem dX5_asNow_2 : decode cX5_asNow 2 = .ok (.iload_n 1, 1) := by decide +kernel
theorem dX5_asNow_3 : decode cX5_asNow 3 = .ok (.bipush 32, 2) := by decide +kernel
theorem dX5_asNow_5 : decode cX5_asNow 5 = .ok (.if_icmp .ge 21, 3) := by decide +kernel
theorem dX5_asNow_8 : decode cX5_asNow 8 = .ok (.aload_n 0, 1) := by decide +kernel
theorem dX5_asNow_9 : decode cX5_asNow 9 = .ok (.getfield 37, 3) := by decide +kernel
theorem dX5_asNow_12 : decode cX5_asNow 12 = .ok (.iload_n 1, 1) := by decide +kernel
theorem dX5_asNow_13 : decode cX5_asNow 13 = .ok (.aload_n 0, 1) := by decide +kernel
theorem dX5_asNow_14 : decode cX5_asNow 14 = .ok (.getfield 34, 3) := by decide +kernel
theorem dX5_asNow_17 : decode cX5_asNow 17 = .ok (.iload_n 1, 1) := by decide +kernel
theorem dX5_asNow_18 : decode cX5_asNow 18 = .ok (.iaload, 1) := by decide +kernel
theorem dX5_asNow_19 : decode cX5_asNow 19 = .ok (.iastore, 1) := by decide +kernel
theorem dX5_asNow_20 : decode cX5_asNow 20 = .ok (.iinc 1 1, 3) := by decide +kernel
theorem dX5_asNow_23 : decode cX5_asNow 23 = .ok (.goto (-21), 3) := by decide +kernel
theorem dX5_asNow_26 : decode cX5_asNow 26 = .ok (.return_, 1) := by decide +kernel
theorem dX5_best_0 : decode cX5_best 0 = .ok (.aload_n 0, 1) := by decide +kernel
theorem dX5_best_1 : decode cX5_best 1 = .ok (.iconst 0, 1) := by decide +kernel
theorem dX5_best_2 : decode cX5_best 2 = .ok (.putfield 62, 3) := by decide +kernel
theorem dX5_best_5 : decode cX5_best 5 = .ok (.aload_n 0, 1) := by decide +kernel
theorem dX5_best_6 : decode cX5_best 6 = .ok (.iload_n 1, 1) := by decide +kernel
theorem dX5_best_7 : decode cX5_best 7 = .ok (.invokevirtual 134, 3) := by decide +kernel
theorem dX5_best_10 : decode cX5_best 10 = .ok (.ifCond .eq 23, 3) := by decide +kernel
theorem dX5_best_13 : decode cX5_best 13 = .ok (.iload_n 2, 1) := by decide +kernel
theorem dX5_best_14 : decode cX5_best 14 = .ok (.iconst 0, 1) := by decide +kernel
theorem dX5_best_15 : decode cX5_best 15 = .ok (.sipush 999, 3) := by decide +kernel
theorem dX5_best_18 : decode cX5_best 18 = .ok (.invokestatic 66, 3) := by decide +kernel
theorem dX5_best_21 : decode cX5_best 21 = .ok (.ifCond .eq 12, 3) := by decide +kernel
theorem dX5_best_24 : decode cX5_best 24 = .ok (.iload_n 3, 1) := by decide +kernel
theorem dX5_best_25 : decode cX5_best 25 = .ok (.iconst 0, 1) := by decide +kernel
theorem dX5_best_26 : decode cX5_best 26 = .ok (.iconst 1, 1) := by decide +kernel
theorem dX5_best_27 : decode cX5_best 27 = .ok (.invokestatic 66, 3) := by decide +kernel
theorem dX5_best_30 : decode cX5_best 30 = .ok (.ifCond .ne 5, 3) := by decide +kernel
theorem dX5_best_33 : decode cX5_best 33 = .ok (.iconst (-1), 1) := by decide +kernel
theorem dX5_best_34 : decode cX5_best 34 = .ok (.ireturn, 1) := by decide +kernel
theorem dX5_best_35 : decode cX5_best 35 = .ok (.bipush (-9), 2) := by decide +kernel
theorem dX5_best_37 : decode cX5_best 37 = .ok (.istore 4, 2) := by decide +kernel
theorem dX5_best_39 : decode cX5_best 39 = .ok (.bipush (-9), 2) := by decide +kernel
theorem dX5_best_41 : decode cX5_best 41 = .ok (.istore 5, 2) := by decide +kernel
theorem dX5_best_43 : decode cX5_best 43 = .ok (.aload_n 0, 1) := by decide +kernel
theorem dX5_best_44 : decode cX5_best 44 = .ok (.getfield 34, 3) := by decide +kernel
theorem dX5_best_47 : decode cX5_best 47 = .ok (.bipush 6, 2) := by decide +kernel
theorem dX5_best_49 : decode cX5_best 49 = .ok (.iload_n 1, 1) := by decide +kernel
theorem dX5_best_50 : decode cX5_best 50 = .ok (.iadd, 1) := by decide +kernel
theorem dX5_best_51 : decode cX5_best 51 = .ok (.iaload, 1) := by decide +kernel
theorem dX5_best_52 : decode cX5_best 52 = .ok (.iconst 1, 1) := by decide +kernel
theorem dX5_best_53 : decode cX5_best 53 = .ok (.isub, 1) := by decide +kernel
theorem dX5_best_54 : decode cX5_best 54 = .ok (.istore 6, 2) := by decide +kernel
theorem dX5_best_56 : decode cX5_best 56 = .ok (.aload_n 0, 1) := by decide +kernel
theorem dX5_best_57 : decode cX5_best 57 = .ok (.invokevirtual 169, 3) := by decide +kernel
theorem dX5_best_60 : decode cX5_best 60 = .ok (.iconst 0, 1) := by decide +kernel
theorem dX5_best_61 : decode cX5_best 61 = .ok (.istore 7, 2) := by decide +kernel
theorem dX5_best_63 : decode cX5_best 63 = .ok (.iload 7, 2) := by decide +kernel
theorem dX5_best_65 : decode cX5_best 65 = .ok (.aload_n 0, 1) := by decide +kernel
theorem dX5_best_66 : decode cX5_best 66 = .ok (.getfield 13, 3) := by decide +kernel
theorem dX5_best_69 : decode cX5_best 69 = .ok (.iconst 0, 1) := by decide +kernel
theorem dX5_best_70 : decode cX5_best 70 = .ok (.iaload, 1) := by decide +kernel
theorem dX5_best_71 : decode cX5_best 71 = .ok (.if_icmp .ge 79, 3) := by decide +kernel
theorem dX5_best_74 : decode cX5_best 74 = .ok (.aload_n 0, 1) := by decide +kernel
theorem dX5_best_75 : decode cX5_best 75 = .ok (.getfield 37, 3) := by decide +kernel
theorem dX5_best_78 : decode cX5_best 78 = .ok (.iconst 0, 1) := by decide +kernel
theorem dX5_best_79 : decode cX5_best 79 = .ok (.iload_n 1, 1) := by decide +kernel
theorem dX5_best_80 : decode cX5_best 80 = .ok (.iadd, 1) := by decide +kernel
theorem dX5_best_81 : decode cX5_best 81 = .ok (.iload 7, 2) := by decide +kernel
theorem dX5_best_83 : decode cX5_best 83 = .ok (.iastore, 1) := by decide +kernel
theorem dX5_best_84 : decode cX5_best 84 = .ok (.iload 6, 2) := by decide +kernel
theorem dX5_best_86 : decode cX5_best 86 = .ok (.ifCond .lt 17, 3) := by decide +kernel
theorem dX5_best_89 : decode cX5_best 89 = .ok (.aload_n 0, 1) := by decide +kernel
theorem dX5_best_90 : decode cX5_best 90 = .ok (.aload_n 0, 1) := by decide +kernel
theorem dX5_best_91 : decode cX5_best 91 = .ok (.getfield 37, 3) := by decide +kernel
theorem dX5_best_94 : decode cX5_best 94 = .ok (.iload 6, 2) := by decide +kernel
theorem dX5_best_96 : decode cX5_best 96 = .ok (.invokevirtual 128, 3) := by decide +kernel
theorem dX5_best_99 : decode cX5_best 99 = .ok (.iload_n 2, 1) := by decide +kernel
theorem dX5_best_100 : decode cX5_best 100 = .ok (.if_icmp .lt 7, 3) := by decide +kernel
theorem dX5_best_103 : decode cX5_best 103 = .ok (.iconst 1, 1) := by decide +kernel
theorem dX5_best_104 : decode cX5_best 104 = .ok (.goto 4, 3) := by decide +kernel
theorem dX5_best_107 : decode cX5_best 107 = .ok (.iconst 0, 1) := by decide +kernel
theorem dX5_best_108 : decode cX5_best 108 = .ok (.istore 8, 2) := by decide +kernel
theorem dX5_best_110 : decode cX5_best 110 = .ok (.iload 8, 2) := by decide +kernel
theorem dX5_best_112 : decode cX5_best 112 = .ok (.ifCond .eq 32, 3) := by decide +kernel
theorem dX5_best_115 : decode cX5_best 115 = .ok (.aload_n 0, 1) := by decide +kernel
theorem dX5_best_116 : decode cX5_best 116 = .ok (.aload_n 0, 1) := by decide +kernel
theorem dX5_best_117 : decode cX5_best 117 = .ok (.getfield 37, 3) := by decide +kernel
theorem dX5_best_120 : decode cX5_best 120 = .ok (.iload_n 1, 1) := by decide +kernel
theorem dX5_best_121 : decode cX5_best 121 = .ok (.invokevirtual 142, 3) := by decide +kernel
theorem dX5_best_124 : decode cX5_best 124 = .ok (.iload 5, 2) := by decide +kernel
theorem dX5_best_126 : decode cX5_best 126 = .ok (.if_icmp .le 18, 3) := by decide +kernel
theorem dX5_best_129 : decode cX5_best 129 = .ok (.iload 7, 2) := by decide +kernel
theorem dX5_best_131 : decode cX5_best 131 = .ok (.istore 4, 2) := by decide +kernel
theorem dX5_best_133 : decode cX5_best 133 = .ok (.aload_n 0, 1) := by decide +kernel
theorem dX5_best_134 : decode cX5_best 134 = .ok (.aload_n 0, 1) := by decide +kernel
theorem dX5_best_135 : decode cX5_best 135 = .ok (.getfield 37, 3) := by decide +kernel
theorem dX5_best_138 : decode cX5_best 138 = .ok (.iload_n 1, 1) := by decide +kernel
theorem dX5_best_139 : decode cX5_best 139 = .ok (.invokevirtual 142, 3) := by decide +kernel
theorem dX5_best_142 : decode cX5_best 142 = .ok (.istore 5, 2) := by decide +kernel
theorem dX5_best_144 : decode cX5_best 144 = .ok (.iinc 7 1, 3) := by decide +kernel
theorem dX5_best_147 : decode cX5_best 147 = .ok (.goto (-84), 3) := by decide +kernel
theorem dX5_best_150 : decode cX5_best 150 = .ok (.iload_n 3, 1) := by decide +kernel
theorem dX5_best_151 : decode cX5_best 151 = .ok (.ifCond .ne 8, 3) := by decide +kernel
theorem dX5_best_154 : decode cX5_best 154 = .ok (.iload 4, 2) := by decide +kernel
theorem dX5_best_156 : decode cX5_best 156 = .ok (.goto 5, 3) := by decide +kernel
theorem dX5_best_159 : decode cX5_best 159 = .ok (.iload 5, 2) := by decide +kernel
theorem dX5_best_161 : decode cX5_best 161 = .ok (.ireturn, 1) := by decide +kernel
theorem dX5_hasWith_0 : decode cX5_hasWith 0 = .ok (.aload_n 0, 1) := by decide +kernel
theorem dX5_hasWith_1 : decode cX5_hasWith 1 = .ok (.getfield 37, 3) := by decide +kernel
theorem dX5_hasWith_4 : decode cX5_hasWith 4 = .ok (.iconst 0, 1) := by decide +kernel
theorem dX5_hasWith_5 : decode cX5_hasWith 5 = .ok (.iload_n 1, 1) := by decide +kernel
theorem dX5_hasWith_6 : decode cX5_hasWith 6 = .ok (.iadd, 1) := by decide +kernel
theorem dX5_hasWith_7 : decode cX5_hasWith 7 = .ok (.iload_n 3, 1) := by decide +kernel
theorem dX5_hasWith_8 : decode cX5_hasWith 8 = .ok (.iastore, 1) := by decide +kernel
theorem dX5_hasWith_9 : decode cX5_hasWith 9 = .ok (.aload_n 0, 1) := by decide +kernel
theorem dX5_hasWith_10 : decode cX5_hasWith 10 = .ok (.getfield 37, 3) := by decide +kernel
theorem dX5_hasWith_13 : decode cX5_hasWith 13 = .ok (.iconst 0, 1) := by decide +kernel
theorem dX5_hasWith_14 : decode cX5_hasWith 14 = .ok (.iload_n 2, 1) := by decide +kernel
theorem dX5_hasWith_15 : decode cX5_hasWith 15 = .ok (.iadd, 1) := by decide +kernel
theorem dX5_hasWith_16 : decode cX5_hasWith 16 = .ok (.iload 4, 2) := by decide +kernel
theorem dX5_hasWith_18 : decode cX5_hasWith 18 = .ok (.iastore, 1) := by decide +kernel
theorem dX5_hasWith_19 : decode cX5_hasWith 19 = .ok (.aload_n 0, 1) := by decide +kernel
theorem dX5_hasWith_20 : decode cX5_hasWith 20 = .ok (.aload_n 0, 1) := by decide +kernel
theorem dX5_hasWith_21 : decode cX5_hasWith 21 = .ok (.getfield 37, 3) := by decide +kernel
theorem dX5_hasWith_24 : decode cX5_hasWith 24 = .ok (.iload_n 1, 1) := by decide +kernel
theorem dX5_hasWith_25 : decode cX5_hasWith 25 = .ok (.invokevirtual 142, 3) := by decide +kernel
theorem dX5_hasWith_28 : decode cX5_hasWith 28 = .ok (.ireturn, 1) := by decide +kernel
theorem dX5_isRest_0 : decode cX5_isRest 0 = .ok (.iconst 1, 1) := by decide +kernel
theorem dX5_isRest_1 : decode cX5_isRest 1 = .ok (.istore 5, 2) := by decide +kernel
theorem dX5_isRest_3 : decode cX5_isRest 3 = .ok (.iconst 0, 1) := by decide +kernel
theorem dX5_isRest_4 : decode cX5_isRest 4 = .ok (.istore 6, 2) := by decide +kernel
theorem dX5_isRest_6 : decode cX5_isRest 6 = .ok (.iload 6, 2) := by decide +kernel
theorem dX5_isRest_8 : decode cX5_isRest 8 = .ok (.aload_n 0, 1) := by decide +kernel
theorem dX5_isRest_9 : decode cX5_isRest 9 = .ok (.getfield 13, 3) := by decide +kernel
theorem dX5_isRest_12 : decode cX5_isRest 12 = .ok (.iconst 0, 1) := by decide +kernel
theorem dX5_isRest_13 : decode cX5_isRest 13 = .ok (.iaload, 1) := by decide +kernel
theorem dX5_isRest_14 : decode cX5_isRest 14 = .ok (.if_icmp .ge 64, 3) := by decide +kernel
theorem dX5_isRest_17 : decode cX5_isRest 17 = .ok (.iload 5, 2) := by decide +kernel
theorem dX5_isRest_19 : decode cX5_isRest 19 = .ok (.ifCond .eq 50, 3) := by decide +kernel
theorem dX5_isRest_22 : decode cX5_isRest 22 = .ok (.aload_n 0, 1) := by decide +kernel
theorem dX5_isRest_23 : decode cX5_isRest 23 = .ok (.iload_n 1, 1) := by decide +kernel
theorem dX5_isRest_24 : decode cX5_isRest 24 = .ok (.iload_n 2, 1) := by decide +kernel
theorem dX5_isRest_25 : decode cX5_isRest 25 = .ok (.iload 6, 2) := by decide +kernel
theorem dX5_isRest_27 : decode cX5_isRest 27 = .ok (.iload 4, 2) := by decide +kernel
theorem dX5_isRest_29 : decode cX5_isRest 29 = .ok (.invokevirtual 172, 3) := by decide +kernel
theorem dX5_isRest_32 : decode cX5_isRest 32 = .ok (.aload_n 0, 1) := by decide +kernel
theorem dX5_isRest_33 : decode cX5_isRest 33 = .ok (.iload_n 1, 1) := by decide +kernel
theorem dX5_isRest_34 : decode cX5_isRest 34 = .ok (.iload_n 2, 1) := by decide +kernel
theorem dX5_isRest_35 : decode cX5_isRest 35 = .ok (.iload_n 3, 1) := by decide +kernel
theorem dX5_isRest_36 : decode cX5_isRest 36 = .ok (.iload 4, 2) := by decide +kernel
theorem dX5_isRest_38 : decode cX5_isRest 38 = .ok (.invokevirtual 172, 3) := by decide +kernel
theorem dX5_isRest_41 : decode cX5_isRest 41 = .ok (.if_icmp .gt 28, 3) := by decide +kernel
theorem dX5_isRest_44 : decode cX5_isRest 44 = .ok (.aload_n 0, 1) := by decide +kernel
theorem dX5_isRest_45 : decode cX5_isRest 45 = .ok (.iload_n 2, 1) := by decide +kernel
theorem dX5_isRest_46 : decode cX5_isRest 46 = .ok (.iload_n 1, 1) := by decide +kernel
theorem dX5_isRest_47 : decode cX5_isRest 47 = .ok (.iload 6, 2) := by decide +kernel
theorem dX5_isRest_49 : decode cX5_isRest 49 = .ok (.iload_n 3, 1) := by decide +kernel
theorem dX5_isRest_50 : decode cX5_isRest 50 = .ok (.invokevirtual 172, 3) := by decide +kernel
theorem dX5_isRest_53 : decode cX5_isRest 53 = .ok (.aload_n 0, 1) := by decide +kernel
theorem dX5_isRest_54 : decode cX5_isRest 54 = .ok (.iload_n 2, 1) := by decide +kernel
theorem dX5_isRest_55 : decode cX5_isRest 55 = .ok (.iload_n 1, 1) := by decide +kernel
theorem dX5_isRest_56 : decode cX5_isRest 56 = .ok (.iload 4, 2) := by decide +kernel
theorem dX5_isRest_58 : decode cX5_isRest 58 = .ok (.iload_n 3, 1) := by decide +kernel
theorem dX5_isRest_59 : decode cX5_isRest 59 = .ok (.invokevirtual 172, 3) := by decide +kernel
theorem dX5_isRest_62 : decode cX5_isRest 62 = .ok (.if_icmp .gt 7, 3) := by decide +kernel
theorem dX5_isRest_65 : decode cX5_isRest 65 = .ok (.iconst 1, 1) := by decide +kernel
theorem dX5_isRest_66 : decode cX5_isRest 66 = .ok (.goto 4, 3) := by decide +kernel
theorem dX5_isRest_69 : decode cX5_isRest 69 = .ok (.iconst 0, 1) := by decide +kernel
theorem dX5_isRest_70 : decode cX5_isRest 70 = .ok (.istore 5, 2) := by decide +kernel
theorem dX5_isRest_72 : decode cX5_isRest 72 = .ok (.iinc 6 1, 3) := by decide +kernel
theorem dX5_isRest_75 : decode cX5_isRest 75 = .ok (.goto (-69), 3) := by decide +kernel
theorem dX5_isRest_78 : decode cX5_isRest 78 = .ok (.iload 5, 2) := by decide +kernel
theorem dX5_isRest_80 : decode cX5_isRest 80 = .ok (.ireturn, 1) := by decide +kernel
theorem dX5_rest_0 : decode cX5_rest 0 = .ok (.aload_n 0, 1) := by decide +kernel
theorem dX5_rest_1 : decode cX5_rest 1 = .ok (.iconst 0, 1) := by decide +kernel
theorem dX5_rest_2 : decode cX5_rest 2 = .ok (.putfield 62, 3) := by decide +kernel
theorem dX5_rest_5 : decode cX5_rest 5 = .ok (.aload_n 0, 1) := by decide +kernel
theorem dX5_rest_6 : decode cX5_rest 6 = .ok (.iload_n 1, 1) := by decide +kernel
theorem dX5_rest_7 : decode cX5_rest 7 = .ok (.invokevirtual 134, 3) := by decide +kernel
theorem dX5_rest_10 : decode cX5_rest 10 = .ok (.ifCond .eq 12, 3) := by decide +kernel
theorem dX5_rest_13 : decode cX5_rest 13 = .ok (.iload_n 2, 1) := by decide +kernel
theorem dX5_rest_14 : decode cX5_rest 14 = .ok (.iconst 0, 1) := by decide +kernel
theorem dX5_rest_15 : decode cX5_rest 15 = .ok (.iconst 1, 1) := by decide +kernel
theorem dX5_rest_16 : decode cX5_rest 16 = .ok (.invokestatic 66, 3) := by decide +kernel
theorem dX5_rest_19 : decode cX5_rest 19 = .ok (.ifCond .ne 5, 3) := by decide +kernel
theorem dX5_rest_22 : decode cX5_rest 22 = .ok (.iconst (-1), 1) := by decide +kernel
theorem dX5_rest_23 : decode cX5_rest 23 = .ok (.ireturn, 1) := by decide +kernel
theorem dX5_rest_24 : decode cX5_rest 24 = .ok (.aload_n 0, 1) := by decide +kernel
theorem dX5_rest_25 : decode cX5_rest 25 = .ok (.getfield 34, 3) := by decide +kernel
theorem dX5_rest_28 : decode cX5_rest 28 = .ok (.bipush 6, 2) := by decide +kernel
theorem dX5_rest_30 : decode cX5_rest 30 = .ok (.iload_n 1, 1) := by decide +kernel
theorem dX5_rest_31 : decode cX5_rest 31 = .ok (.iadd, 1) := by decide +kernel
theorem dX5_rest_32 : decode cX5_rest 32 = .ok (.iaload, 1) := by decide +kernel
theorem dX5_rest_33 : decode cX5_rest 33 = .ok (.iconst 1, 1) := by decide +kernel
theorem dX5_rest_34 : decode cX5_rest 34 = .ok (.isub, 1) := by decide +kernel
theorem dX5_rest_35 : decode cX5_rest 35 = .ok (.istore_n 3, 1) := by decide +kernel
theorem dX5_rest_36 : decode cX5_rest 36 = .ok (.iload_n 3, 1) := by decide +kernel
theorem dX5_rest_37 : decode cX5_rest 37 = .ok (.ifCond .ge 6, 3) := by decide +kernel
theorem dX5_rest_40 : decode cX5_rest 40 = .ok (.bipush (-2), 2) := by decide +kernel
theorem dX5_rest_42 : decode cX5_rest 42 = .ok (.ireturn, 1) := by decide +kernel
theorem dX5_rest_43 : decode cX5_rest 43 = .ok (.aload_n 0, 1) := by decide +kernel
theorem dX5_rest_44 : decode cX5_rest 44 = .ok (.invokevirtual 169, 3) := by decide +kernel
theorem dX5_rest_47 : decode cX5_rest 47 = .ok (.iconst 0, 1) := by decide +kernel
theorem dX5_rest_48 : decode cX5_rest 48 = .ok (.istore 4, 2) := by decide +kernel
theorem dX5_rest_50 : decode cX5_rest 50 = .ok (.bipush (-9), 2) := by decide +kernel
theorem dX5_rest_52 : decode cX5_rest 52 = .ok (.istore 5, 2) := by decide +kernel
theorem dX5_rest_54 : decode cX5_rest 54 = .ok (.iconst 0, 1) := by decide +kernel
theorem dX5_rest_55 : decode cX5_rest 55 = .ok (.istore 6, 2) := by decide +kernel
theorem dX5_rest_57 : decode cX5_rest 57 = .ok (.iload 6, 2) := by decide +kernel
theorem dX5_rest_59 : decode cX5_rest 59 = .ok (.aload_n 0, 1) := by decide +kernel
theorem dX5_rest_60 : decode cX5_rest 60 = .ok (.getfield 13, 3) := by decide +kernel
theorem dX5_rest_63 : decode cX5_rest 63 = .ok (.iconst 0, 1) := by decide +kernel
theorem dX5_rest_64 : decode cX5_rest 64 = .ok (.iaload, 1) := by decide +kernel
theorem dX5_rest_65 : decode cX5_rest 65 = .ok (.if_icmp .ge 65, 3) := by decide +kernel
theorem dX5_rest_68 : decode cX5_rest 68 = .ok (.iconst 0, 1) := by decide +kernel
theorem dX5_rest_69 : decode cX5_rest 69 = .ok (.istore 7, 2) := by decide +kernel
theorem dX5_rest_71 : decode cX5_rest 71 = .ok (.iload 7, 2) := by decide +kernel
theorem dX5_rest_73 : decode cX5_rest 73 = .ok (.aload_n 0, 1) := by decide +kernel
theorem dX5_rest_74 : decode cX5_rest 74 = .ok (.getfield 13, 3) := by decide +kernel
theorem dX5_rest_77 : decode cX5_rest 77 = .ok (.iconst 0, 1) := by decide +kernel
theorem dX5_rest_78 : decode cX5_rest 78 = .ok (.iaload, 1) := by decide +kernel
theorem dX5_rest_79 : decode cX5_rest 79 = .ok (.if_icmp .ge 45, 3) := by decide +kernel
theorem dX5_rest_82 : decode cX5_rest 82 = .ok (.aload_n 0, 1) := by decide +kernel
theorem dX5_rest_83 : decode cX5_rest 83 = .ok (.iload_n 1, 1) := by decide +kernel
theorem dX5_rest_84 : decode cX5_rest 84 = .ok (.iload_n 3, 1) := by decide +kernel
theorem dX5_rest_85 : decode cX5_rest 85 = .ok (.iload 6, 2) := by decide +kernel
theorem dX5_rest_87 : decode cX5_rest 87 = .ok (.iload 7, 2) := by decide +kernel
theorem dX5_rest_89 : decode cX5_rest 89 = .ok (.invokevirtual 176, 3) := by decide +kernel
theorem dX5_rest_92 : decode cX5_rest 92 = .ok (.ifCond .eq 26, 3) := by decide +kernel
theorem dX5_rest_95 : decode cX5_rest 95 = .ok (.iload 4, 2) := by decide +kernel
theorem dX5_rest_97 : decode cX5_rest 97 = .ok (.ifCond .ne 14, 3) := by decide +kernel
theorem dX5_rest_100 : decode cX5_rest 100 = .ok (.bipush 10, 2) := by decide +kernel
theorem dX5_rest_102 : decode cX5_rest 102 = .ok (.iload 6, 2) := by decide +kernel
theorem dX5_rest_104 : decode cX5_rest 104 = .ok (.imul, 1) := by decide +kernel
theorem dX5_rest_105 : decode cX5_rest 105 = .ok (.iload 7, 2) := by decide +kernel
theorem dX5_rest_107 : decode cX5_rest 107 = .ok (.iadd, 1) := by decide +kernel
theorem dX5_rest_108 : decode cX5_rest 108 = .ok (.goto 5, 3) := by decide +kernel
theorem dX5_rest_111 : decode cX5_rest 111 = .ok (.iload 5, 2) := by decide +kernel
theorem dX5_rest_113 : decode cX5_rest 113 = .ok (.istore 5, 2) := by decide +kernel
theorem dX5_rest_115 : decode cX5_rest 115 = .ok (.iinc 4 1, 3) := by decide +kernel
theorem dX5_rest_118 : decode cX5_rest 118 = .ok (.iinc 7 1, 3) := by decide +kernel
theorem dX5_rest_121 : decode cX5_rest 121 = .ok (.goto (-50), 3) := by decide +kernel
theorem dX5_rest_124 : decode cX5_rest 124 = .ok (.iinc 6 1, 3) := by decide +kernel
theorem dX5_rest_127 : decode cX5_rest 127 = .ok (.goto (-70), 3) := by decide +kernel
theorem dX5_rest_130 : decode cX5_rest 130 = .ok (.iload_n 2, 1) := by decide +kernel
theorem dX5_rest_131 : decode cX5_rest 131 = .ok (.ifCond .ne 8, 3) := by decide +kernel
theorem dX5_rest_134 : decode cX5_rest 134 = .ok (.iload 4, 2) := by decide +kernel
theorem dX5_rest_136 : decode cX5_rest 136 = .ok (.goto 5, 3) := by decide +kernel
theorem dX5_rest_139 : decode cX5_rest 139 = .ok (.iload 5, 2) := by decide +kernel
theorem dX5_rest_141 : decode cX5_rest 141 = .ok (.ireturn, 1) := by decide +kernel
theorem dX5_isHungry_0 : decode cX5_isHungry 0 = .ok (.aload_n 0, 1) := by decide +kernel
theorem dX5_isHungry_1 : decode cX5_isHungry 1 = .ok (.getfield 34, 3) := by decide +kernel
theorem dX5_isHungry_4 : decode cX5_isHungry 4 = .ok (.bipush 6, 2) := by decide +kernel
theorem dX5_isHungry_6 : decode cX5_isHungry 6 = .ok (.iload_n 1, 1) := by decide +kernel
theorem dX5_isHungry_7 : decode cX5_isHungry 7 = .ok (.iadd, 1) := by decide +kernel
theorem dX5_isHungry_8 : decode cX5_isHungry 8 = .ok (.iaload, 1) := by decide +kernel
theorem dX5_isHungry_9 : decode cX5_isHungry 9 = .ok (.iconst 1, 1) := by decide +kernel
theorem dX5_isHungry_10 : decode cX5_isHungry 10 = .ok (.isub, 1) := by decide +kernel
theorem dX5_isHungry_11 : decode cX5_isHungry 11 = .ok (.istore_n 2, 1) := by decide +kernel
theorem dX5_isHungry_12 : decode cX5_isHungry 12 = .ok (.iconst 1, 1) := by decide +kernel
theorem dX5_isHungry_13 : decode cX5_isHungry 13 = .ok (.istore_n 3, 1) := by decide +kernel
theorem dX5_isHungry_14 : decode cX5_isHungry 14 = .ok (.aload_n 0, 1) := by decide +kernel
theorem dX5_isHungry_15 : decode cX5_isHungry 15 = .ok (.invokevirtual 169, 3) := by decide +kernel
theorem dX5_isHungry_18 : decode cX5_isHungry 18 = .ok (.iconst 0, 1) := by decide +kernel
theorem dX5_isHungry_19 : decode cX5_isHungry 19 = .ok (.istore 4, 2) := by decide +kernel
theorem dX5_isHungry_21 : decode cX5_isHungry 21 = .ok (.iload 4, 2) := by decide +kernel
theorem dX5_isHungry_23 : decode cX5_isHungry 23 = .ok (.aload_n 0, 1) := by decide +kernel
theorem dX5_isHungry_24 : decode cX5_isHungry 24 = .ok (.getfield 13, 3) := by decide +kernel
theorem dX5_isHungry_27 : decode cX5_isHungry 27 = .ok (.iconst 0, 1) := by decide +kernel
theorem dX5_isHungry_28 : decode cX5_isHungry 28 = .ok (.iaload, 1) := by decide +kernel
theorem dX5_isHungry_29 : decode cX5_isHungry 29 = .ok (.if_icmp .ge 81, 3) := by decide +kernel
theorem dX5_isHungry_32 : decode cX5_isHungry 32 = .ok (.iconst 0, 1) := by decide +kernel
theorem dX5_isHungry_33 : decode cX5_isHungry 33 = .ok (.istore 5, 2) := by decide +kernel
theorem dX5_isHungry_35 : decode cX5_isHungry 35 = .ok (.iload 5, 2) := by decide +kernel
theorem dX5_isHungry_37 : decode cX5_isHungry 37 = .ok (.aload_n 0, 1) := by decide +kernel
theorem dX5_isHungry_38 : decode cX5_isHungry 38 = .ok (.getfield 13, 3) := by decide +kernel
theorem dX5_isHungry_41 : decode cX5_isHungry 41 = .ok (.iconst 0, 1) := by decide +kernel
theorem dX5_isHungry_42 : decode cX5_isHungry 42 = .ok (.iaload, 1) := by decide +kernel
theorem dX5_isHungry_43 : decode cX5_isHungry 43 = .ok (.if_icmp .ge 61, 3) := by decide +kernel
theorem dX5_isHungry_46 : decode cX5_isHungry 46 = .ok (.aload_n 0, 1) := by decide +kernel
theorem dX5_isHungry_47 : decode cX5_isHungry 47 = .ok (.getfield 37, 3) := by decide +kernel
theorem dX5_isHungry_50 : decode cX5_isHungry 50 = .ok (.iconst 0, 1) := by decide +kernel
theorem dX5_isHungry_51 : decode cX5_isHungry 51 = .ok (.iload_n 1, 1) := by decide +kernel
theorem dX5_isHungry_52 : decode cX5_isHungry 52 = .ok (.iadd, 1) := by decide +kernel
theorem dX5_isHungry_53 : decode cX5_isHungry 53 = .ok (.iload 4, 2) := by decide +kernel
theorem dX5_isHungry_55 : decode cX5_isHungry 55 = .ok (.iastore, 1) := by decide +kernel
theorem dX5_isHungry_56 : decode cX5_isHungry 56 = .ok (.iload_n 2, 1) := by decide +kernel
theorem dX5_isHungry_57 : decode cX5_isHungry 57 = .ok (.ifCond .lt 13, 3) := by decide +kernel
theorem dX5_isHungry_60 : decode cX5_isHungry 60 = .ok (.aload_n 0, 1) := by decide +kernel
theorem dX5_isHungry_61 : decode cX5_isHungry 61 = .ok (.getfield 37, 3) := by decide +kernel
theorem dX5_isHungry_64 : decode cX5_isHungry 64 = .ok (.iconst 0, 1) := by decide +kernel
theorem dX5_isHungry_65 : decode cX5_isHungry 65 = .ok (.iload_n 2, 1) := by decide +kernel
theorem dX5_isHungry_66 : decode cX5_isHungry 66 = .ok (.iadd, 1) := by decide +kernel
theorem dX5_isHungry_67 : decode cX5_isHungry 67 = .ok (.iload 5, 2) := by decide +kernel
theorem dX5_isHungry_69 : decode cX5_isHungry 69 = .ok (.iastore, 1) := by decide +kernel
theorem dX5_isHungry_70 : decode cX5_isHungry 70 = .ok (.iload_n 3, 1) := by decide +kernel
theorem dX5_isHungry_71 : decode cX5_isHungry 71 = .ok (.ifCond .eq 25, 3) := by decide +kernel
theorem dX5_isHungry_74 : decode cX5_isHungry 74 = .ok (.aload_n 0, 1) := by decide +kernel
theorem dX5_isHungry_75 : decode cX5_isHungry 75 = .ok (.aload_n 0, 1) := by decide +kernel
theorem dX5_isHungry_76 : decode cX5_isHungry 76 = .ok (.getfield 37, 3) := by decide +kernel
theorem dX5_isHungry_79 : decode cX5_isHungry 79 = .ok (.iload_n 1, 1) := by decide +kernel
theorem dX5_isHungry_80 : decode cX5_isHungry 80 = .ok (.invokevirtual 142, 3) := by decide +kernel
theorem dX5_isHungry_83 : decode cX5_isHungry 83 = .ok (.aload_n 0, 1) := by decide +kernel
theorem dX5_isHungry_84 : decode cX5_isHungry 84 = .ok (.getfield 28, 3) := by decide +kernel
theorem dX5_isHungry_87 : decode cX5_isHungry 87 = .ok (.iload_n 1, 1) := by decide +kernel
theorem dX5_isHungry_88 : decode cX5_isHungry 88 = .ok (.iaload, 1) := by decide +kernel
theorem dX5_isHungry_89 : decode cX5_isHungry 89 = .ok (.if_icmp .ge 7, 3) := by decide +kernel
theorem dX5_isHungry_92 : decode cX5_isHungry 92 = .ok (.iconst 1, 1) := by decide +kernel
theorem dX5_isHungry_93 : decode cX5_isHungry 93 = .ok (.goto 4, 3) := by decide +kernel
theorem dX5_isHungry_96 : decode cX5_isHungry 96 = .ok (.iconst 0, 1) := by decide +kernel
theorem dX5_isHungry_97 : decode cX5_isHungry 97 = .ok (.istore_n 3, 1) := by decide +kernel
theorem dX5_isHungry_98 : decode cX5_isHungry 98 = .ok (.iinc 5 1, 3) := by decide +kernel
theorem dX5_isHungry_101 : decode cX5_isHungry 101 = .ok (.goto (-66), 3) := by decide +kernel
theorem dX5_isHungry_104 : decode cX5_isHungry 104 = .ok (.iinc 4 1, 3) := by decide +kernel
theorem dX5_isHungry_107 : decode cX5_isHungry 107 = .ok (.goto (-86), 3) := by decide +kernel
theorem dX5_isHungry_110 : decode cX5_isHungry 110 = .ok (.iload_n 3, 1) := by decide +kernel
theorem dX5_isHungry_111 : decode cX5_isHungry 111 = .ok (.ireturn, 1) := by decide +kernel
theorem dX5_hungry_0 : decode cX5_hungry 0 = .ok (.aload_n 0, 1) := by decide +kernel
theorem dX5_hungry_1 : decode cX5_hungry 1 = .ok (.iconst 0, 1) := by decide +kernel
theorem dX5_hungry_2 : decode cX5_hungry 2 = .ok (.putfield 62, 3) := by decide +kernel
theorem dX5_hungry_5 : decode cX5_hungry 5 = .ok (.aload_n 0, 1) := by decide +kernel
theorem dX5_hungry_6 : decode cX5_hungry 6 = .ok (.iload_n 1, 1) := by decide +kernel
theorem dX5_hungry_7 : decode cX5_hungry 7 = .ok (.invokevirtual 134, 3) := by decide +kernel
theorem dX5_hungry_10 : decode cX5_hungry 10 = .ok (.ifCond .eq 19, 3) := by decide +kernel
theorem dX5_hungry_13 : decode cX5_hungry 13 = .ok (.aload_n 0, 1) := by decide +kernel
theorem dX5_hungry_14 : decode cX5_hungry 14 = .ok (.iload_n 1, 1) := by decide +kernel
theorem dX5_hungry_15 : decode cX5_hungry 15 = .ok (.invokevirtual 145, 3) := by decide +kernel
theorem dX5_hungry_18 : decode cX5_hungry 18 = .ok (.ifCond .eq 7, 3) := by decide +kernel
theorem dX5_hungry_21 : decode cX5_hungry 21 = .ok (.iconst 1, 1) := by decide +kernel
theorem dX5_hungry_22 : decode cX5_hungry 22 = .ok (.goto 8, 3) := by decide +kernel
theorem dX5_hungry_25 : decode cX5_hungry 25 = .ok (.iconst 0, 1) := by decide +kernel
theorem dX5_hungry_26 : decode cX5_hungry 26 = .ok (.goto 4, 3) := by decide +kernel
theorem dX5_hungry_29 : decode cX5_hungry 29 = .ok (.iconst (-1), 1) := by decide +kernel
theorem dX5_hungry_30 : decode cX5_hungry 30 = .ok (.ireturn, 1) := by decide +kernel
theorem dX5_leastBy_0 : decode cX5_leastBy 0 = .ok (.aload_n 0, 1) := by decide +kernel
theorem dX5_leastBy_1 : decode cX5_leastBy 1 = .ok (.invokevirtual 169, 3) := by decide +kernel
theorem dX5_leastBy_4 : decode cX5_leastBy 4 = .ok (.iconst 0, 1) := by decide +kernel
theorem dX5_leastBy_5 : decode cX5_leastBy 5 = .ok (.istore_n 1, 1) := by decide +kernel
theorem dX5_leastBy_6 : decode cX5_leastBy 6 = .ok (.iload_n 1, 1) := by decide +kernel
theorem dX5_leastBy_7 : decode cX5_leastBy 7 = .ok (.aload_n 0, 1) := by decide +kernel
theorem dX5_leastBy_8 : decode cX5_leastBy 8 = .ok (.getfield 13, 3) := by decide +kernel
theorem dX5_leastBy_11 : decode cX5_leastBy 11 = .ok (.iconst 1, 1) := by decide +kernel
theorem dX5_leastBy_12 : decode cX5_leastBy 12 = .ok (.iaload, 1) := by decide +kernel
theorem dX5_leastBy_13 : decode cX5_leastBy 13 = .ok (.if_icmp .ge 24, 3) := by decide +kernel
theorem dX5_leastBy_16 : decode cX5_leastBy 16 = .ok (.aload_n 0, 1) := by decide +kernel
theorem dX5_leastBy_17 : decode cX5_leastBy 17 = .ok (.getfield 37, 3) := by decide +kernel
theorem dX5_leastBy_20 : decode cX5_leastBy 20 = .ok (.bipush 6, 2) := by decide +kernel
theorem dX5_leastBy_22 : decode cX5_leastBy 22 = .ok (.iload_n 1, 1) := by decide +kernel
theorem dX5_leastBy_23 : decode cX5_leastBy 23 = .ok (.iadd, 1) := by decide +kernel
theorem dX5_leastBy_24 : decode cX5_leastBy 24 = .ok (.aload_n 0, 1) := by decide +kernel
theorem dX5_leastBy_25 : decode cX5_leastBy 25 = .ok (.getfield 56, 3) := by decide +kernel
theorem dX5_leastBy_28 : decode cX5_leastBy 28 = .ok (.iload_n 1, 1) := by decide +kernel
theorem dX5_leastBy_29 : decode cX5_leastBy 29 = .ok (.iaload, 1) := by decide +kernel
theorem dX5_leastBy_30 : decode cX5_leastBy 30 = .ok (.iastore, 1) := by decide +kernel
theorem dX5_leastBy_31 : decode cX5_leastBy 31 = .ok (.iinc 1 1, 3) := by decide +kernel
theorem dX5_leastBy_34 : decode cX5_leastBy 34 = .ok (.goto (-28), 3) := by decide +kernel
theorem dX5_leastBy_37 : decode cX5_leastBy 37 = .ok (.ldc 180, 2) := by decide +kernel
theorem dX5_leastBy_39 : decode cX5_leastBy 39 = .ok (.istore_n 1, 1) := by decide +kernel
theorem dX5_leastBy_40 : decode cX5_leastBy 40 = .ok (.iconst 0, 1) := by decide +kernel
theorem dX5_leastBy_41 : decode cX5_leastBy 41 = .ok (.istore_n 2, 1) := by decide +kernel
theorem dX5_leastBy_42 : decode cX5_leastBy 42 = .ok (.iload_n 2, 1) := by decide +kernel
theorem dX5_leastBy_43 : decode cX5_leastBy 43 = .ok (.aload_n 0, 1) := by decide +kernel
theorem dX5_leastBy_44 : decode cX5_leastBy 44 = .ok (.getfield 13, 3) := by decide +kernel
theorem dX5_leastBy_47 : decode cX5_leastBy 47 = .ok (.iconst 1, 1) := by decide +kernel
theorem dX5_leastBy_48 : decode cX5_leastBy 48 = .ok (.iaload, 1) := by decide +kernel
theorem dX5_leastBy_49 : decode cX5_leastBy 49 = .ok (.if_icmp .ge 37, 3) := by decide +kernel
theorem dX5_leastBy_52 : decode cX5_leastBy 52 = .ok (.aload_n 0, 1) := by decide +kernel
theorem dX5_leastBy_53 : decode cX5_leastBy 53 = .ok (.aload_n 0, 1) := by decide +kernel
theorem dX5_leastBy_54 : decode cX5_leastBy 54 = .ok (.getfield 37, 3) := by decide +kernel
theorem dX5_leastBy_57 : decode cX5_leastBy 57 = .ok (.iload_n 2, 1) := by decide +kernel
theorem dX5_leastBy_58 : decode cX5_leastBy 58 = .ok (.invokevirtual 142, 3) := by decide +kernel
theorem dX5_leastBy_61 : decode cX5_leastBy 61 = .ok (.aload_n 0, 1) := by decide +kernel
theorem dX5_leastBy_62 : decode cX5_leastBy 62 = .ok (.getfield 28, 3) := by decide +kernel
theorem dX5_leastBy_65 : decode cX5_leastBy 65 = .ok (.iload_n 2, 1) := by decide +kernel
theorem dX5_leastBy_66 : decode cX5_leastBy 66 = .ok (.iaload, 1) := by decide +kernel
theorem dX5_leastBy_67 : decode cX5_leastBy 67 = .ok (.isub, 1) := by decide +kernel
theorem dX5_leastBy_68 : decode cX5_leastBy 68 = .ok (.istore_n 3, 1) := by decide +kernel
theorem dX5_leastBy_69 : decode cX5_leastBy 69 = .ok (.iload_n 3, 1) := by decide +kernel
theorem dX5_leastBy_70 : decode cX5_leastBy 70 = .ok (.iload_n 1, 1) := by decide +kernel
theorem dX5_leastBy_71 : decode cX5_leastBy 71 = .ok (.if_icmp .ge 7, 3) := by decide +kernel
theorem dX5_leastBy_74 : decode cX5_leastBy 74 = .ok (.iload_n 3, 1) := by decide +kernel
theorem dX5_leastBy_75 : decode cX5_leastBy 75 = .ok (.goto 4, 3) := by decide +kernel
theorem dX5_leastBy_78 : decode cX5_leastBy 78 = .ok (.iload_n 1, 1) := by decide +kernel
theorem dX5_leastBy_79 : decode cX5_leastBy 79 = .ok (.istore_n 1, 1) := by decide +kernel
theorem dX5_leastBy_80 : decode cX5_leastBy 80 = .ok (.iinc 2 1, 3) := by decide +kernel
theorem dX5_leastBy_83 : decode cX5_leastBy 83 = .ok (.goto (-41), 3) := by decide +kernel
theorem dX5_leastBy_86 : decode cX5_leastBy 86 = .ok (.iload_n 1, 1) := by decide +kernel
theorem dX5_leastBy_87 : decode cX5_leastBy 87 = .ok (.ireturn, 1) := by decide +kernel
theorem dX5_isRow_0 : decode cX5_isRow 0 = .ok (.iload_n 1, 1) := by decide +kernel
theorem dX5_isRow_1 : decode cX5_isRow 1 = .ok (.istore_n 2, 1) := by decide +kernel
theorem dX5_isRow_2 : decode cX5_isRow 2 = .ok (.iconst 0, 1) := by decide +kernel
theorem dX5_isRow_3 : decode cX5_isRow 3 = .ok (.istore_n 3, 1) := by decide +kernel
theorem dX5_isRow_4 : decode cX5_isRow 4 = .ok (.iconst 1, 1) := by decide +kernel
theorem dX5_isRow_5 : decode cX5_isRow 5 = .ok (.istore 4, 2) := by decide +kernel
theorem dX5_isRow_7 : decode cX5_isRow 7 = .ok (.aload_n 0, 1) := by decide +kernel
theorem dX5_isRow_8 : decode cX5_isRow 8 = .ok (.getfield 13, 3) := by decide +kernel
theorem dX5_isRow_11 : decode cX5_isRow 11 = .ok (.iconst 1, 1) := by decide +kernel
theorem dX5_isRow_12 : decode cX5_isRow 12 = .ok (.iaload, 1) := by decide +kernel
theorem dX5_isRow_13 : decode cX5_isRow 13 = .ok (.iconst 1, 1) := by decide +kernel
theorem dX5_isRow_14 : decode cX5_isRow 14 = .ok (.isub, 1) := by decide +kernel
theorem dX5_isRow_15 : decode cX5_isRow 15 = .ok (.istore 5, 2) := by decide +kernel
theorem dX5_isRow_17 : decode cX5_isRow 17 = .ok (.iload 5, 2) := by decide +kernel
theorem dX5_isRow_19 : decode cX5_isRow 19 = .ok (.ifCond .lt 81, 3) := by decide +kernel
theorem dX5_isRow_22 : decode cX5_isRow 22 = .ok (.aload_n 0, 1) := by decide +kernel
theorem dX5_isRow_23 : decode cX5_isRow 23 = .ok (.getfield 56, 3) := by decide +kernel
theorem dX5_isRow_26 : decode cX5_isRow 26 = .ok (.iload 5, 2) := by decide +kernel
theorem dX5_isRow_28 : decode cX5_isRow 28 = .ok (.iload_n 2, 1) := by decide +kernel
theorem dX5_isRow_29 : decode cX5_isRow 29 = .ok (.aload_n 0, 1) := by decide +kernel
theorem dX5_isRow_30 : decode cX5_isRow 30 = .ok (.getfield 13, 3) := by decide +kernel
theorem dX5_isRow_33 : decode cX5_isRow 33 = .ok (.iconst 1, 1) := by decide +kernel
theorem dX5_isRow_34 : decode cX5_isRow 34 = .ok (.iaload, 1) := by decide +kernel
theorem dX5_isRow_35 : decode cX5_isRow 35 = .ok (.iconst 1, 1) := by decide +kernel
theorem dX5_isRow_36 : decode cX5_isRow 36 = .ok (.iadd, 1) := by decide +kernel
theorem dX5_isRow_37 : decode cX5_isRow 37 = .ok (.irem, 1) := by decide +kernel
theorem dX5_isRow_38 : decode cX5_isRow 38 = .ok (.iastore, 1) := by decide +kernel
theorem dX5_isRow_39 : decode cX5_isRow 39 = .ok (.iload_n 2, 1) := by decide +kernel
theorem dX5_isRow_40 : decode cX5_isRow 40 = .ok (.aload_n 0, 1) := by decide +kernel
theorem dX5_isRow_41 : decode cX5_isRow 41 = .ok (.getfield 13, 3) := by decide +kernel
theorem dX5_isRow_44 : decode cX5_isRow 44 = .ok (.iconst 1, 1) := by decide +kernel
theorem dX5_isRow_45 : decode cX5_isRow 45 = .ok (.iaload, 1) := by decide +kernel
theorem dX5_isRow_46 : decode cX5_isRow 46 = .ok (.iconst 1, 1) := by decide +kernel
theorem dX5_isRow_47 : decode cX5_isRow 47 = .ok (.iadd, 1) := by decide +kernel
theorem dX5_isRow_48 : decode cX5_isRow 48 = .ok (.idiv, 1) := by decide +kernel
theorem dX5_isRow_49 : decode cX5_isRow 49 = .ok (.istore_n 2, 1) := by decide +kernel
theorem dX5_isRow_50 : decode cX5_isRow 50 = .ok (.iload_n 3, 1) := by decide +kernel
theorem dX5_isRow_51 : decode cX5_isRow 51 = .ok (.aload_n 0, 1) := by decide +kernel
theorem dX5_isRow_52 : decode cX5_isRow 52 = .ok (.getfield 56, 3) := by decide +kernel
theorem dX5_isRow_55 : decode cX5_isRow 55 = .ok (.iload 5, 2) := by decide +kernel
theorem dX5_isRow_57 : decode cX5_isRow 57 = .ok (.iaload, 1) := by decide +kernel
theorem dX5_isRow_58 : decode cX5_isRow 58 = .ok (.ifCond .ne 7, 3) := by decide +kernel
theorem dX5_isRow_61 : decode cX5_isRow 61 = .ok (.iconst 1, 1) := by decide +kernel
theorem dX5_isRow_62 : decode cX5_isRow 62 = .ok (.goto 4, 3) := by decide +kernel
theorem dX5_isRow_65 : decode cX5_isRow 65 = .ok (.iconst 0, 1) := by decide +kernel
theorem dX5_isRow_66 : decode cX5_isRow 66 = .ok (.iadd, 1) := by decide +kernel
theorem dX5_isRow_67 : decode cX5_isRow 67 = .ok (.istore_n 3, 1) := by decide +kernel
theorem dX5_isRow_68 : decode cX5_isRow 68 = .ok (.iload 4, 2) := by decide +kernel
theorem dX5_isRow_70 : decode cX5_isRow 70 = .ok (.ifCond .eq 21, 3) := by decide +kernel
theorem dX5_isRow_73 : decode cX5_isRow 73 = .ok (.aload_n 0, 1) := by decide +kernel
theorem dX5_isRow_74 : decode cX5_isRow 74 = .ok (.getfield 56, 3) := by decide +kernel
theorem dX5_isRow_77 : decode cX5_isRow 77 = .ok (.iload 5, 2) := by decide +kernel
theorem dX5_isRow_79 : decode cX5_isRow 79 = .ok (.iaload, 1) := by decide +kernel
theorem dX5_isRow_80 : decode cX5_isRow 80 = .ok (.iload 5, 2) := by decide +kernel
theorem dX5_isRow_82 : decode cX5_isRow 82 = .ok (.iconst 1, 1) := by decide +kernel
theorem dX5_isRow_83 : decode cX5_isRow 83 = .ok (.iadd, 1) := by decide +kernel
theorem dX5_isRow_84 : decode cX5_isRow 84 = .ok (.if_icmp .eq 7, 3) := by decide +kernel
theorem dX5_isRow_87 : decode cX5_isRow 87 = .ok (.iconst 1, 1) := by decide +kernel
theorem dX5_isRow_88 : decode cX5_isRow 88 = .ok (.goto 4, 3) := by decide +kernel
theorem dX5_isRow_91 : decode cX5_isRow 91 = .ok (.iconst 0, 1) := by decide +kernel
theorem dX5_isRow_92 : decode cX5_isRow 92 = .ok (.istore 4, 2) := by decide +kernel
theorem dX5_isRow_94 : decode cX5_isRow 94 = .ok (.iinc 5 (-1), 3) := by decide +kernel
theorem dX5_isRow_97 : decode cX5_isRow 97 = .ok (.goto (-80), 3) := by decide +kernel
theorem dX5_isRow_100 : decode cX5_isRow 100 = .ok (.iconst 0, 1) := by decide +kernel
theorem dX5_isRow_101 : decode cX5_isRow 101 = .ok (.istore 5, 2) := by decide +kernel
theorem dX5_isRow_103 : decode cX5_isRow 103 = .ok (.iload 5, 2) := by decide +kernel
theorem dX5_isRow_105 : decode cX5_isRow 105 = .ok (.aload_n 0, 1) := by decide +kernel
theorem dX5_isRow_106 : decode cX5_isRow 106 = .ok (.getfield 13, 3) := by decide +kernel
theorem dX5_isRow_109 : decode cX5_isRow 109 = .ok (.iconst 1, 1) := by decide +kernel
theorem dX5_isRow_110 : decode cX5_isRow 110 = .ok (.iaload, 1) := by decide +kernel
theorem dX5_isRow_111 : decode cX5_isRow 111 = .ok (.if_icmp .ge 52, 3) := by decide +kernel
theorem dX5_isRow_114 : decode cX5_isRow 114 = .ok (.iload 4, 2) := by decide +kernel
theorem dX5_isRow_116 : decode cX5_isRow 116 = .ok (.ifCond .eq 47, 3) := by decide +kernel
theorem dX5_isRow_119 : decode cX5_isRow 119 = .ok (.aload_n 0, 1) := by decide +kernel
theorem dX5_isRow_120 : decode cX5_isRow 120 = .ok (.getfield 56, 3) := by decide +kernel
theorem dX5_isRow_123 : decode cX5_isRow 123 = .ok (.iload 5, 2) := by decide +kernel
theorem dX5_isRow_125 : decode cX5_isRow 125 = .ok (.iaload, 1) := by decide +kernel
theorem dX5_isRow_126 : decode cX5_isRow 126 = .ok (.ifCond .eq 24, 3) := by decide +kernel
theorem dX5_isRow_129 : decode cX5_isRow 129 = .ok (.aload_n 0, 1) := by decide +kernel
theorem dX5_isRow_130 : decode cX5_isRow 130 = .ok (.getfield 56, 3) := by decide +kernel
theorem dX5_isRow_133 : decode cX5_isRow 133 = .ok (.aload_n 0, 1) := by decide +kernel
theorem dX5_isRow_134 : decode cX5_isRow 134 = .ok (.getfield 56, 3) := by decide +kernel
theorem dX5_isRow_137 : decode cX5_isRow 137 = .ok (.iload 5, 2) := by decide +kernel
theorem dX5_isRow_139 : decode cX5_isRow 139 = .ok (.iaload, 1) := by decide +kernel
theorem dX5_isRow_140 : decode cX5_isRow 140 = .ok (.iconst 1, 1) := by decide +kernel
theorem dX5_isRow_141 : decode cX5_isRow 141 = .ok (.isub, 1) := by decide +kernel
theorem dX5_isRow_142 : decode cX5_isRow 142 = .ok (.iaload, 1) := by decide +kernel
theorem dX5_isRow_143 : decode cX5_isRow 143 = .ok (.iload 5, 2) := by decide +kernel
theorem dX5_isRow_145 : decode cX5_isRow 145 = .ok (.iconst 1, 1) := by decide +kernel
theorem dX5_isRow_146 : decode cX5_isRow 146 = .ok (.iadd, 1) := by decide +kernel
theorem dX5_isRow_147 : decode cX5_isRow 147 = .ok (.if_icmp .ne 7, 3) := by decide +kernel
theorem dX5_isRow_150 : decode cX5_isRow 150 = .ok (.iconst 1, 1) := by decide +kernel
theorem dX5_isRow_151 : decode cX5_isRow 151 = .ok (.goto 4, 3) := by decide +kernel
theorem dX5_isRow_154 : decode cX5_isRow 154 = .ok (.iconst 0, 1) := by decide +kernel
theorem dX5_isRow_155 : decode cX5_isRow 155 = .ok (.istore 4, 2) := by decide +kernel
theorem dX5_isRow_157 : decode cX5_isRow 157 = .ok (.iinc 5 1, 3) := by decide +kernel
theorem dX5_isRow_160 : decode cX5_isRow 160 = .ok (.goto (-57), 3) := by decide +kernel
theorem dX5_isRow_163 : decode cX5_isRow 163 = .ok (.iload 4, 2) := by decide +kernel
theorem dX5_isRow_165 : decode cX5_isRow 165 = .ok (.ifCond .eq 19, 3) := by decide +kernel
theorem dX5_isRow_168 : decode cX5_isRow 168 = .ok (.iload_n 3, 1) := by decide +kernel
theorem dX5_isRow_169 : decode cX5_isRow 169 = .ok (.aload_n 0, 1) := by decide +kernel
theorem dX5_isRow_170 : decode cX5_isRow 170 = .ok (.getfield 13, 3) := by decide +kernel
theorem dX5_isRow_173 : decode cX5_isRow 173 = .ok (.iconst 1, 1) := by decide +kernel
theorem dX5_isRow_174 : decode cX5_isRow 174 = .ok (.iaload, 1) := by decide +kernel
theorem dX5_isRow_175 : decode cX5_isRow 175 = .ok (.iconst 2, 1) := by decide +kernel
theorem dX5_isRow_176 : decode cX5_isRow 176 = .ok (.irem, 1) := by decide +kernel
theorem dX5_isRow_177 : decode cX5_isRow 177 = .ok (.if_icmp .ne 7, 3) := by decide +kernel
theorem dX5_isRow_180 : decode cX5_isRow 180 = .ok (.iconst 1, 1) := by decide +kernel
theorem dX5_isRow_181 : decode cX5_isRow 181 = .ok (.goto 4, 3) := by decide +kernel
theorem dX5_isRow_184 : decode cX5_isRow 184 = .ok (.iconst 0, 1) := by decide +kernel
theorem dX5_isRow_185 : decode cX5_isRow 185 = .ok (.ireturn, 1) := by decide +kernel
theorem dX5_faces_0 : decode cX5_faces 0 = .ok (.aload_n 0, 1) := by decide +kernel
theorem dX5_faces_1 : decode cX5_faces 1 = .ok (.iconst 0, 1) := by decide +kernel
theorem dX5_faces_2 : decode cX5_faces 2 = .ok (.putfield 62, 3) := by decide +kernel
theorem dX5_faces_5 : decode cX5_faces 5 = .ok (.iload_n 1, 1) := by decide +kernel
theorem dX5_faces_6 : decode cX5_faces 6 = .ok (.iconst (-1), 1) := by decide +kernel
theorem dX5_faces_7 : decode cX5_faces 7 = .ok (.if_icmp .eq 11, 3) := by decide +kernel
theorem dX5_faces_10 : decode cX5_faces 10 = .ok (.aload_n 0, 1) := by decide +kernel
theorem dX5_faces_11 : decode cX5_faces 11 = .ok (.iload_n 1, 1) := by decide +kernel
theorem dX5_faces_12 : decode cX5_faces 12 = .ok (.invokevirtual 134, 3) := by decide +kernel
theorem dX5_faces_15 : decode cX5_faces 15 = .ok (.ifCond .eq 12, 3) := by decide +kernel
theorem dX5_faces_18 : decode cX5_faces 18 = .ok (.aload_n 0, 1) := by decide +kernel
theorem dX5_faces_19 : decode cX5_faces 19 = .ok (.getfield 13, 3) := by decide +kernel
theorem dX5_faces_22 : decode cX5_faces 22 = .ok (.iconst 1, 1) := by decide +kernel
theorem dX5_faces_23 : decode cX5_faces 23 = .ok (.iaload, 1) := by decide +kernel
theorem dX5_faces_24 : decode cX5_faces 24 = .ok (.ifCond .ne 6, 3) := by decide +kernel
theorem dX5_faces_27 : decode cX5_faces 27 = .ok (.ldc 141, 2) := by decide +kernel
theorem dX5_faces_29 : decode cX5_faces 29 = .ok (.ireturn, 1) := by decide +kernel
theorem dX5_faces_30 : decode cX5_faces 30 = .ok (.iconst 1, 1) := by decide +kernel
theorem dX5_faces_31 : decode cX5_faces 31 = .ok (.istore_n 2, 1) := by decide +kernel
theorem dX5_faces_32 : decode cX5_faces 32 = .ok (.iconst 0, 1) := by decide +kernel
theorem dX5_faces_33 : decode cX5_faces 33 = .ok (.istore_n 3, 1) := by decide +kernel
theorem dX5_faces_34 : decode cX5_faces 34 = .ok (.iload_n 3, 1) := by decide +kernel
theorem dX5_faces_35 : decode cX5_faces 35 = .ok (.aload_n 0, 1) := by decide +kernel
theorem dX5_faces_36 : decode cX5_faces 36 = .ok (.getfield 13, 3) := by decide +kernel
theorem dX5_faces_39 : decode cX5_faces 39 = .ok (.iconst 1, 1) := by decide +kernel
theorem dX5_faces_40 : decode cX5_faces 40 = .ok (.iaload, 1) := by decide +kernel
theorem dX5_faces_41 : decode cX5_faces 41 = .ok (.if_icmp .ge 20, 3) := by decide +kernel
theorem dX5_faces_44 : decode cX5_faces 44 = .ok (.iload_n 2, 1) := by decide +kernel
theorem dX5_faces_45 : decode cX5_faces 45 = .ok (.aload_n 0, 1) := by decide +kernel
theorem dX5_faces_46 : decode cX5_faces 46 = .ok (.getfield 13, 3) := by decide +kernel
theorem dX5_faces_49 : decode cX5_faces 49 = .ok (.iconst 1, 1) := by decide +kernel
theorem dX5_faces_50 : decode cX5_faces 50 = .ok (.iaload, 1) := by decide +kernel
theorem dX5_faces_51 : decode cX5_faces 51 = .ok (.iconst 1, 1) := by decide +kernel
theorem dX5_faces_52 : decode cX5_faces 52 = .ok (.iadd, 1) := by decide +kernel
theorem dX5_faces_53 : decode cX5_faces 53 = .ok (.imul, 1) := by decide +kernel
theorem dX5_faces_54 : decode cX5_faces 54 = .ok (.istore_n 2, 1) := by decide +kernel
theorem dX5_faces_55 : decode cX5_faces 55 = .ok (.iinc 3 1, 3) := by decide +kernel
theorem dX5_faces_58 : decode cX5_faces 58 = .ok (.goto (-24), 3) := by decide +kernel
theorem dX5_faces_61 : decode cX5_faces 61 = .ok (.ldc 141, 2) := by decide +kernel
theorem dX5_faces_63 : decode cX5_faces 63 = .ok (.istore_n 3, 1) := by decide +kernel
theorem dX5_faces_64 : decode cX5_faces 64 = .ok (.iconst 0, 1) := by decide +kernel
theorem dX5_faces_65 : decode cX5_faces 65 = .ok (.istore 4, 2) := by decide +kernel
theorem dX5_faces_67 : decode cX5_faces 67 = .ok (.iload 4, 2) := by decide +kernel
theorem dX5_faces_69 : decode cX5_faces 69 = .ok (.iload_n 2, 1) := by decide +kernel
theorem dX5_faces_70 : decode cX5_faces 70 = .ok (.if_icmp .ge 65, 3) := by decide +kernel
theorem dX5_faces_73 : decode cX5_faces 73 = .ok (.aload_n 0, 1) := by decide +kernel
theorem dX5_faces_74 : decode cX5_faces 74 = .ok (.iload 4, 2) := by decide +kernel
theorem dX5_faces_76 : decode cX5_faces 76 = .ok (.invokevirtual 181, 3) := by decide +kernel
theorem dX5_faces_79 : decode cX5_faces 79 = .ok (.ifCond .eq 50, 3) := by decide +kernel
theorem dX5_faces_82 : decode cX5_faces 82 = .ok (.aload_n 0, 1) := by decide +kernel
theorem dX5_faces_83 : decode cX5_faces 83 = .ok (.invokevirtual 184, 3) := by decide +kernel
theorem dX5_faces_86 : decode cX5_faces 86 = .ok (.iload_n 3, 1) := by decide +kernel
theorem dX5_faces_87 : decode cX5_faces 87 = .ok (.if_icmp .le 42, 3) := by decide +kernel
theorem dX5_faces_90 : decode cX5_faces 90 = .ok (.aload_n 0, 1) := by decide +kernel
theorem dX5_faces_91 : decode cX5_faces 91 = .ok (.invokevirtual 184, 3) := by decide +kernel
theorem dX5_faces_94 : decode cX5_faces 94 = .ok (.istore_n 3, 1) := by decide +kernel
theorem dX5_faces_95 : decode cX5_faces 95 = .ok (.iconst 0, 1) := by decide +kernel
theorem dX5_faces_96 : decode cX5_faces 96 = .ok (.istore 5, 2) := by decide +kernel
theorem dX5_faces_98 : decode cX5_faces 98 = .ok (.iload 5, 2) := by decide +kernel
theorem dX5_faces_100 : decode cX5_faces 100 = .ok (.aload_n 0, 1) := by decide +kernel
theorem dX5_faces_101 : decode cX5_faces 101 = .ok (.getfield 13, 3) := by decide +kernel
theorem dX5_faces_104 : decode cX5_faces 104 = .ok (.iconst 1, 1) := by decide +kernel
theorem dX5_faces_105 : decode cX5_faces 105 = .ok (.iaload, 1) := by decide +kernel
theorem dX5_faces_106 : decode cX5_faces 106 = .ok (.if_icmp .ge 23, 3) := by decide +kernel
theorem dX5_faces_109 : decode cX5_faces 109 = .ok (.aload_n 0, 1) := by decide +kernel
theorem dX5_faces_110 : decode cX5_faces 110 = .ok (.getfield 59, 3) := by decide +kernel
theorem dX5_faces_113 : decode cX5_faces 113 = .ok (.iload 5, 2) := by decide +kernel
theorem dX5_faces_115 : decode cX5_faces 115 = .ok (.aload_n 0, 1) := by decide +kernel
theorem dX5_faces_116 : decode cX5_faces 116 = .ok (.getfield 56, 3) := by decide +kernel
theorem dX5_faces_119 : decode cX5_faces 119 = .ok (.iload 5, 2) := by decide +kernel
theorem dX5_faces_121 : decode cX5_faces 121 = .ok (.iaload, 1) := by decide +kernel
theorem dX5_faces_122 : decode cX5_faces 122 = .ok (.iastore, 1) := by decide +kernel
theorem dX5_faces_123 : decode cX5_faces 123 = .ok (.iinc 5 1, 3) := by decide +kernel
theorem dX5_faces_126 : decode cX5_faces 126 = .ok (.goto (-28), 3) := by decide +kernel
theorem dX5_faces_129 : decode cX5_faces 129 = .ok (.iinc 4 1, 3) := by decide +kernel
theorem dX5_faces_132 : decode cX5_faces 132 = .ok (.goto (-65), 3) := by decide +kernel
theorem dX5_faces_135 : decode cX5_faces 135 = .ok (.iload_n 1, 1) := by decide +kernel
theorem dX5_faces_136 : decode cX5_faces 136 = .ok (.iconst (-1), 1) := by decide +kernel
theorem dX5_faces_137 : decode cX5_faces 137 = .ok (.if_icmp .ne 7, 3) := by decide +kernel
theorem dX5_faces_140 : decode cX5_faces 140 = .ok (.iload_n 3, 1) := by decide +kernel
theorem dX5_faces_141 : decode cX5_faces 141 = .ok (.goto 25, 3) := by decide +kernel
theorem dX5_faces_144 : decode cX5_faces 144 = .ok (.aload_n 0, 1) := by decide +kernel
theorem dX5_faces_145 : decode cX5_faces 145 = .ok (.getfield 59, 3) := by decide +kernel
theorem dX5_faces_148 : decode cX5_faces 148 = .ok (.iload_n 1, 1) := by decide +kernel
theorem dX5_faces_149 : decode cX5_faces 149 = .ok (.iaload, 1) := by decide +kernel
theorem dX5_faces_150 : decode cX5_faces 150 = .ok (.ifCond .ne 8, 3) := by decide +kernel
theorem dX5_faces_153 : decode cX5_faces 153 = .ok (.bipush (-9), 2) := by decide +kernel
theorem dX5_faces_155 : decode cX5_faces 155 = .ok (.goto 11, 3) := by decide +kernel
theorem dX5_faces_158 : decode cX5_faces 158 = .ok (.aload_n 0, 1) := by decide +kernel
theorem dX5_faces_159 : decode cX5_faces 159 = .ok (.getfield 59, 3) := by decide +kernel
theorem dX5_faces_162 : decode cX5_faces 162 = .ok (.iload_n 1, 1) := by decide +kernel
theorem dX5_faces_163 : decode cX5_faces 163 = .ok (.iaload, 1) := by decide +kernel
theorem dX5_faces_164 : decode cX5_faces 164 = .ok (.iconst 1, 1) := by decide +kernel
theorem dX5_faces_165 : decode cX5_faces 165 = .ok (.isub, 1) := by decide +kernel
theorem dX5_faces_166 : decode cX5_faces 166 = .ok (.ireturn, 1) := by decide +kernel
theorem dX5_needed_0 : decode cX5_needed 0 = .ok (.aload_n 0, 1) := by decide +kernel
theorem dX5_needed_1 : decode cX5_needed 1 = .ok (.iconst 0, 1) := by decide +kernel
theorem dX5_needed_2 : decode cX5_needed 2 = .ok (.putfield 62, 3) := by decide +kernel
theorem dX5_needed_5 : decode cX5_needed 5 = .ok (.iload_n 1, 1) := by decide +kernel
theorem dX5_needed_6 : decode cX5_needed 6 = .ok (.iconst (-1), 1) := by decide +kernel
theorem dX5_needed_7 : decode cX5_needed 7 = .ok (.if_icmp .eq 13, 3) := by decide +kernel
theorem dX5_needed_10 : decode cX5_needed 10 = .ok (.aload_n 0, 1) := by decide +kernel
theorem dX5_needed_11 : decode cX5_needed 11 = .ok (.iload_n 1, 1) := by decide +kernel
theorem dX5_needed_12 : decode cX5_needed 12 = .ok (.invokevirtual 134, 3) := by decide +kernel
theorem dX5_needed_15 : decode cX5_needed 15 = .ok (.ifCond .ne 5, 3) := by decide +kernel
theorem dX5_needed_18 : decode cX5_needed 18 = .ok (.iconst (-1), 1) := by decide +kernel
theorem dX5_needed_19 : decode cX5_needed 19 = .ok (.ireturn, 1) := by decide +kernel
theorem dX5_needed_20 : decode cX5_needed 20 = .ok (.aload_n 0, 1) := by decide +kernel
theorem dX5_needed_21 : decode cX5_needed 21 = .ok (.invokevirtual 169, 3) := by decide +kernel
theorem dX5_needed_24 : decode cX5_needed 24 = .ok (.ldc 180, 2) := by decide +kernel
theorem dX5_needed_26 : decode cX5_needed 26 = .ok (.istore_n 2, 1) := by decide +kernel
theorem dX5_needed_27 : decode cX5_needed 27 = .ok (.iconst 0, 1) := by decide +kernel
theorem dX5_needed_28 : decode cX5_needed 28 = .ok (.istore_n 3, 1) := by decide +kernel
theorem dX5_needed_29 : decode cX5_needed 29 = .ok (.iload_n 3, 1) := by decide +kernel
theorem dX5_needed_30 : decode cX5_needed 30 = .ok (.iconst 1, 1) := by decide +kernel
theorem dX5_needed_31 : decode cX5_needed 31 = .ok (.iconst 2, 1) := by decide +kernel
theorem dX5_needed_32 : decode cX5_needed 32 = .ok (.aload_n 0, 1) := by decide +kernel
theorem dX5_needed_33 : decode cX5_needed 33 = .ok (.getfield 13, 3) := by decide +kernel
theorem dX5_needed_36 : decode cX5_needed 36 = .ok (.iconst 1, 1) := by decide +kernel
theorem dX5_needed_37 : decode cX5_needed 37 = .ok (.iaload, 1) := by decide +kernel
theorem dX5_needed_38 : decode cX5_needed 38 = .ok (.imul, 1) := by decide +kernel
theorem dX5_needed_39 : decode cX5_needed 39 = .ok (.ishl, 1) := by decide +kernel
theorem dX5_needed_40 : decode cX5_needed 40 = .ok (.if_icmp .ge 193, 3) := by decide +kernel
theorem dX5_needed_43 : decode cX5_needed 43 = .ok (.iconst 0, 1) := by decide +kernel
theorem dX5_needed_44 : decode cX5_needed 44 = .ok (.istore 4, 2) := by decide +kernel
theorem dX5_needed_46 : decode cX5_needed 46 = .ok (.iconst 0, 1) := by decide +kernel
theorem dX5_needed_47 : decode cX5_needed 47 = .ok (.istore 5, 2) := by decide +kernel
theorem dX5_needed_49 : decode cX5_needed 49 = .ok (.iload 5, 2) := by decide +kernel
theorem dX5_needed_51 : decode cX5_needed 51 = .ok (.aload_n 0, 1) := by decide +kernel
theorem dX5_needed_52 : decode cX5_needed 52 = .ok (.getfield 13, 3) := by decide +kernel
theorem dX5_needed_55 : decode cX5_needed 55 = .ok (.iconst 1, 1) := by decide +kernel
theorem dX5_needed_56 : decode cX5_needed 56 = .ok (.iaload, 1) := by decide +kernel
theorem dX5_needed_57 : decode cX5_needed 57 = .ok (.if_icmp .ge 51, 3) := by decide +kernel
theorem dX5_needed_60 : decode cX5_needed 60 = .ok (.aload_n 0, 1) := by decide +kernel
theorem dX5_needed_61 : decode cX5_needed 61 = .ok (.getfield 37, 3) := by decide +kernel
theorem dX5_needed_64 : decode cX5_needed 64 = .ok (.bipush 12, 2) := by decide +kernel
theorem dX5_needed_66 : decode cX5_needed 66 = .ok (.iload 5, 2) := by decide +kernel
theorem dX5_needed_68 : decode cX5_needed 68 = .ok (.iadd, 1) := by decide +kernel
theorem dX5_needed_69 : decode cX5_needed 69 = .ok (.iload_n 3, 1) := by decide +kernel
theorem dX5_needed_70 : decode cX5_needed 70 = .ok (.iconst 2, 1) := by decide +kernel
theorem dX5_needed_71 : decode cX5_needed 71 = .ok (.aload_n 0, 1) := by decide +kernel
theorem dX5_needed_72 : decode cX5_needed 72 = .ok (.getfield 13, 3) := by decide +kernel
theorem dX5_needed_75 : decode cX5_needed 75 = .ok (.iconst 1, 1) := by decide +kernel
theorem dX5_needed_76 : decode cX5_needed 76 = .ok (.iaload, 1) := by decide +kernel
theorem dX5_needed_77 : decode cX5_needed 77 = .ok (.iconst 1, 1) := by decide +kernel
theorem dX5_needed_78 : decode cX5_needed 78 = .ok (.isub, 1) := by decide +kernel
theorem dX5_needed_79 : decode cX5_needed 79 = .ok (.iload 5, 2) := by decide +kernel
theorem dX5_needed_81 : decode cX5_needed 81 = .ok (.isub, 1) := by decide +kernel
theorem dX5_needed_82 : decode cX5_needed 82 = .ok (.imul, 1) := by decide +kernel
theorem dX5_needed_83 : decode cX5_needed 83 = .ok (.ishr, 1) := by decide +kernel
theorem dX5_needed_84 : decode cX5_needed 84 = .ok (.iconst 3, 1) := by decide +kernel
theorem dX5_needed_85 : decode cX5_needed 85 = .ok (.iand, 1) := by decide +kernel
theorem dX5_needed_86 : decode cX5_needed 86 = .ok (.iastore, 1) := by decide +kernel
theorem dX5_needed_87 : decode cX5_needed 87 = .ok (.iload 4, 2) := by decide +kernel
theorem dX5_needed_89 : decode cX5_needed 89 = .ok (.aload_n 0, 1) := by decide +kernel
theorem dX5_needed_90 : decode cX5_needed 90 = .ok (.getfield 37, 3) := by decide +kernel
theorem dX5_needed_93 : decode cX5_needed 93 = .ok (.bipush 12, 2) := by decide +kernel
theorem dX5_needed_95 : decode cX5_needed 95 = .ok (.iload 5, 2) := by decide +kernel
theorem dX5_needed_97 : decode cX5_needed 97 = .ok (.iadd, 1) := by decide +kernel
theorem dX5_needed_98 : decode cX5_needed 98 = .ok (.iaload, 1) := by decide +kernel
theorem dX5_needed_99 : decode cX5_needed 99 = .ok (.iadd, 1) := by decide +kernel
theorem dX5_needed_100 : decode cX5_needed 100 = .ok (.istore 4, 2) := by decide +kernel
theorem dX5_needed_102 : decode cX5_needed 102 = .ok (.iinc 5 1, 3) := by decide +kernel
theorem dX5_needed_105 : decode cX5_needed 105 = .ok (.goto (-56), 3) := by decide +kernel
theorem dX5_needed_108 : decode cX5_needed 108 = .ok (.iload 4, 2) := by decide +kernel
theorem dX5_needed_110 : decode cX5_needed 110 = .ok (.iload_n 2, 1) := by decide +kernel
theorem dX5_needed_111 : decode cX5_needed 111 = .ok (.if_icmp .ge 7, 3) := by decide +kernel
theorem dX5_needed_114 : decode cX5_needed 114 = .ok (.iconst 1, 1) := by decide +kernel
theorem dX5_needed_115 : decode cX5_needed 115 = .ok (.goto 4, 3) := by decide +kernel
theorem dX5_needed_118 : decode cX5_needed 118 = .ok (.iconst 0, 1) := by decide +kernel
theorem dX5_needed_119 : decode cX5_needed 119 = .ok (.istore 5, 2) := by decide +kernel
theorem dX5_needed_121 : decode cX5_needed 121 = .ok (.iconst 0, 1) := by decide +kernel
theorem dX5_needed_122 : decode cX5_needed 122 = .ok (.istore 6, 2) := by decide +kernel
theorem dX5_needed_124 : decode cX5_needed 124 = .ok (.iload 6, 2) := by decide +kernel
theorem dX5_needed_126 : decode cX5_needed 126 = .ok (.aload_n 0, 1) := by decide +kernel
theorem dX5_needed_127 : decode cX5_needed 127 = .ok (.getfield 13, 3) := by decide +kernel
theorem dX5_needed_130 : decode cX5_needed 130 = .ok (.iconst 1, 1) := by decide +kernel
theorem dX5_needed_131 : decode cX5_needed 131 = .ok (.iaload, 1) := by decide +kernel
theorem dX5_needed_132 : decode cX5_needed 132 = .ok (.if_icmp .ge 41, 3) := by decide +kernel
theorem dX5_needed_135 : decode cX5_needed 135 = .ok (.iload 5, 2) := by decide +kernel
theorem dX5_needed_137 : decode cX5_needed 137 = .ok (.ifCond .eq 36, 3) := by decide +kernel
theorem dX5_needed_140 : decode cX5_needed 140 = .ok (.aload_n 0, 1) := by decide +kernel
theorem dX5_needed_141 : decode cX5_needed 141 = .ok (.aload_n 0, 1) := by decide +kernel
theorem dX5_needed_142 : decode cX5_needed 142 = .ok (.getfield 37, 3) := by decide +kernel
theorem dX5_needed_145 : decode cX5_needed 145 = .ok (.iload 6, 2) := by decide +kernel
theorem dX5_needed_147 : decode cX5_needed 147 = .ok (.invokevirtual 142, 3) := by decide +kernel
theorem dX5_needed_150 : decode cX5_needed 150 = .ok (.aload_n 0, 1) := by decide +kernel
theorem dX5_needed_151 : decode cX5_needed 151 = .ok (.getfield 28, 3) := by decide +kernel
theorem dX5_needed_154 : decode cX5_needed 154 = .ok (.iload 6, 2) := by decide +kernel
theorem dX5_needed_156 : decode cX5_needed 156 = .ok (.iaload, 1) := by decide +kernel
theorem dX5_needed_157 : decode cX5_needed 157 = .ok (.if_icmp .lt 7, 3) := by decide +kernel
theorem dX5_needed_160 : decode cX5_needed 160 = .ok (.iconst 1, 1) := by decide +kernel
theorem dX5_needed_161 : decode cX5_needed 161 = .ok (.goto 4, 3) := by decide +kernel
theorem dX5_needed_164 : decode cX5_needed 164 = .ok (.iconst 0, 1) := by decide +kernel
theorem dX5_needed_165 : decode cX5_needed 165 = .ok (.istore 5, 2) := by decide +kernel
theorem dX5_needed_167 : decode cX5_needed 167 = .ok (.iinc 6 1, 3) := by decide +kernel
theorem dX5_needed_170 : decode cX5_needed 170 = .ok (.goto (-46), 3) := by decide +kernel
theorem dX5_needed_173 : decode cX5_needed 173 = .ok (.iconst 0, 1) := by decide +kernel
theorem dX5_needed_174 : decode cX5_needed 174 = .ok (.istore 6, 2) := by decide +kernel
theorem dX5_needed_176 : decode cX5_needed 176 = .ok (.iload 6, 2) := by decide +kernel
theorem dX5_needed_178 : decode cX5_needed 178 = .ok (.aload_n 0, 1) := by decide +kernel
theorem dX5_needed_179 : decode cX5_needed 179 = .ok (.getfield 13, 3) := by decide +kernel
theorem dX5_needed_182 : decode cX5_needed 182 = .ok (.iconst 1, 1) := by decide +kernel
theorem dX5_needed_183 : decode cX5_needed 183 = .ok (.iaload, 1) := by decide +kernel
theorem dX5_needed_184 : decode cX5_needed 184 = .ok (.if_icmp .ge 31, 3) := by decide +kernel
theorem dX5_needed_187 : decode cX5_needed 187 = .ok (.iload 5, 2) := by decide +kernel
theorem dX5_needed_189 : decode cX5_needed 189 = .ok (.ifCond .eq 26, 3) := by decide +kernel
theorem dX5_needed_192 : decode cX5_needed 192 = .ok (.aload_n 0, 1) := by decide +kernel
theorem dX5_needed_193 : decode cX5_needed 193 = .ok (.getfield 59, 3) := by decide +kernel
theorem dX5_needed_196 : decode cX5_needed 196 = .ok (.iload 6, 2) := by decide +kernel
theorem dX5_needed_198 : decode cX5_needed 198 = .ok (.aload_n 0, 1) := by decide +kernel
theorem dX5_needed_199 : decode cX5_needed 199 = .ok (.getfield 37, 3) := by decide +kernel
theorem dX5_needed_202 : decode cX5_needed 202 = .ok (.bipush 12, 2) := by decide +kernel
theorem dX5_needed_204 : decode cX5_needed 204 = .ok (.iload 6, 2) := by decide +kernel
theorem dX5_needed_206 : decode cX5_needed 206 = .ok (.iadd, 1) := by decide +kernel
theorem dX5_needed_207 : decode cX5_needed 207 = .ok (.iaload, 1) := by decide +kernel
theorem dX5_needed_208 : decode cX5_needed 208 = .ok (.iastore, 1) := by decide +kernel
theorem dX5_needed_209 : decode cX5_needed 209 = .ok (.iinc 6 1, 3) := by decide +kernel
theorem dX5_needed_212 : decode cX5_needed 212 = .ok (.goto (-36), 3) := by decide +kernel
theorem dX5_needed_215 : decode cX5_needed 215 = .ok (.iload 5, 2) := by decide +kernel
theorem dX5_needed_217 : decode cX5_needed 217 = .ok (.ifCond .eq 8, 3) := by decide +kernel
theorem dX5_needed_220 : decode cX5_needed 220 = .ok (.iload 4, 2) := by decide +kernel
theorem dX5_needed_222 : decode cX5_needed 222 = .ok (.goto 4, 3) := by decide +kernel
theorem dX5_needed_225 : decode cX5_needed 225 = .ok (.iload_n 2, 1) := by decide +kernel
theorem dX5_needed_226 : decode cX5_needed 226 = .ok (.istore_n 2, 1) := by decide +kernel
theorem dX5_needed_227 : decode cX5_needed 227 = .ok (.iinc 3 1, 3) := by decide +kernel
theorem dX5_needed_230 : decode cX5_needed 230 = .ok (.goto (-201), 3) := by decide +kernel
theorem dX5_needed_233 : decode cX5_needed 233 = .ok (.iload_n 2, 1) := by decide +kernel
theorem dX5_needed_234 : decode cX5_needed 234 = .ok (.ldc 180, 2) := by decide +kernel
theorem dX5_needed_236 : decode cX5_needed 236 = .ok (.if_icmp .ne 8, 3) := by decide +kernel
theorem dX5_needed_239 : decode cX5_needed 239 = .ok (.bipush (-9), 2) := by decide +kernel
theorem dX5_needed_241 : decode cX5_needed 241 = .ok (.goto 18, 3) := by decide +kernel
theorem dX5_needed_244 : decode cX5_needed 244 = .ok (.iload_n 1, 1) := by decide +kernel
theorem dX5_needed_245 : decode cX5_needed 245 = .ok (.iconst (-1), 1) := by decide +kernel
theorem dX5_needed_246 : decode cX5_needed 246 = .ok (.if_icmp .ne 7, 3) := by decide +kernel
theorem dX5_needed_249 : decode cX5_needed 249 = .ok (.iload_n 2, 1) := by decide +kernel
theorem dX5_needed_250 : decode cX5_needed 250 = .ok (.goto 9, 3) := by decide +kernel
theorem dX5_needed_253 : decode cX5_needed 253 = .ok (.aload_n 0, 1) := by decide +kernel
theorem dX5_needed_254 : decode cX5_needed 254 = .ok (.getfield 59, 3) := by decide +kernel
theorem dX5_needed_257 : decode cX5_needed 257 = .ok (.iload_n 1, 1) := by decide +kernel
theorem dX5_needed_258 : decode cX5_needed 258 = .ok (.iaload, 1) := by decide +kernel
theorem dX5_needed_259 : decode cX5_needed 259 = .ok (.ireturn, 1) := by decide +kernel
theorem dX5_stubble_0 : decode cX5_stubble 0 = .ok (.aload_n 0, 1) := by decide +kernel
theorem dX5_stubble_1 : decode cX5_stubble 1 = .ok (.iconst 0, 1) := by decide +kernel
theorem dX5_stubble_2 : decode cX5_stubble 2 = .ok (.putfield 62, 3) := by decide +kernel
theorem dX5_stubble_5 : decode cX5_stubble 5 = .ok (.aload_n 0, 1) := by decide +kernel
theorem dX5_stubble_6 : decode cX5_stubble 6 = .ok (.iload_n 1, 1) := by decide +kernel
theorem dX5_stubble_7 : decode cX5_stubble 7 = .ok (.invokevirtual 134, 3) := by decide +kernel
theorem dX5_stubble_10 : decode cX5_stubble 10 = .ok (.ifCond .eq 14, 3) := by decide +kernel
theorem dX5_stubble_13 : decode cX5_stubble 13 = .ok (.iload_n 2, 1) := by decide +kernel
theorem dX5_stubble_14 : decode cX5_stubble 14 = .ok (.iconst 0, 1) := by decide +kernel
theorem dX5_stubble_15 : decode cX5_stubble 15 = .ok (.sipush 180, 3) := by decide +kernel
theorem dX5_stubble_18 : decode cX5_stubble 18 = .ok (.invokestatic 66, 3) := by decide +kernel
theorem dX5_stubble_21 : decode cX5_stubble 21 = .ok (.ifCond .ne 5, 3) := by decide +kernel
theorem dX5_stubble_24 : decode cX5_stubble 24 = .ok (.iconst (-1), 1) := by decide +kernel
theorem dX5_stubble_25 : decode cX5_stubble 25 = .ok (.ireturn, 1) := by decide +kernel
theorem dX5_stubble_26 : decode cX5_stubble 26 = .ok (.aload_n 0, 1) := by decide +kernel
theorem dX5_stubble_27 : decode cX5_stubble 27 = .ok (.getfield 114, 3) := by decide +kernel
theorem dX5_stubble_30 : decode cX5_stubble 30 = .ok (.iconst 5, 1) := by decide +kernel
theorem dX5_stubble_31 : decode cX5_stubble 31 = .ok (.if_icmp .ne 6, 3) := by decide +kernel
theorem dX5_stubble_34 : decode cX5_stubble 34 = .ok (.bipush (-3), 2) := by decide +kernel
theorem dX5_stubble_36 : decode cX5_stubble 36 = .ok (.ireturn, 1) := by decide +kernel
theorem dX5_stubble_37 : decode cX5_stubble 37 = .ok (.aload_n 0, 1) := by decide +kernel
theorem dX5_stubble_38 : decode cX5_stubble 38 = .ok (.getfield 50, 3) := by decide +kernel
theorem dX5_stubble_41 : decode cX5_stubble 41 = .ok (.aload_n 0, 1) := by decide +kernel
theorem dX5_stubble_42 : decode cX5_stubble 42 = .ok (.getfield 114, 3) := by decide +kernel
theorem dX5_stubble_45 : decode cX5_stubble 45 = .ok (.iload_n 1, 1) := by decide +kernel
theorem dX5_stubble_46 : decode cX5_stubble 46 = .ok (.iastore, 1) := by decide +kernel
theorem dX5_stubble_47 : decode cX5_stubble 47 = .ok (.aload_n 0, 1) := by decide +kernel
theorem dX5_stubble_48 : decode cX5_stubble 48 = .ok (.getfield 53, 3) := by decide +kernel
theorem dX5_stubble_51 : decode cX5_stubble 51 = .ok (.aload_n 0, 1) := by decide +kernel
theorem dX5_stubble_52 : decode cX5_stubble 52 = .ok (.getfield 114, 3) := by decide +kernel
theorem dX5_stubble_55 : decode cX5_stubble 55 = .ok (.iload_n 2, 1) := by decide +kernel
theorem dX5_stubble_56 : decode cX5_stubble 56 = .ok (.iastore, 1) := by decide +kernel
theorem dX5_stubble_57 : decode cX5_stubble 57 = .ok (.aload_n 0, 1) := by decide +kernel
theorem dX5_stubble_58 : decode cX5_stubble 58 = .ok (.dup, 1) := by decide +kernel
theorem dX5_stubble_59 : decode cX5_stubble 59 = .ok (.getfield 114, 3) := by decide +kernel
theorem dX5_stubble_62 : decode cX5_stubble 62 = .ok (.iconst 1, 1) := by decide +kernel
theorem dX5_stubble_63 : decode cX5_stubble 63 = .ok (.iadd, 1) := by decide +kernel
theorem dX5_stubble_64 : decode cX5_stubble 64 = .ok (.putfield 114, 3) := by decide +kernel
theorem dX5_stubble_67 : decode cX5_stubble 67 = .ok (.aload_n 0, 1) := by decide +kernel
theorem dX5_stubble_68 : decode cX5_stubble 68 = .ok (.getfield 114, 3) := by decide +kernel
theorem dX5_stubble_71 : decode cX5_stubble 71 = .ok (.ireturn, 1) := by decide +kernel
theorem dX5_forget_0 : decode cX5_forget 0 = .ok (.aload_n 0, 1) := by decide +kernel
theorem dX5_forget_1 : decode cX5_forget 1 = .ok (.iconst 0, 1) := by decide +kernel
theorem dX5_forget_2 : decode cX5_forget 2 = .ok (.putfield 62, 3) := by decide +kernel
theorem dX5_forget_5 : decode cX5_forget 5 = .ok (.aload_n 0, 1) := by decide +kernel
theorem dX5_forget_6 : decode cX5_forget 6 = .ok (.getfield 114, 3) := by decide +kernel
theorem dX5_forget_9 : decode cX5_forget 9 = .ok (.istore_n 1, 1) := by decide +kernel
theorem dX5_forget_10 : decode cX5_forget 10 = .ok (.aload_n 0, 1) := by decide +kernel
theorem dX5_forget_11 : decode cX5_forget 11 = .ok (.iconst 0, 1) := by decide +kernel
theorem dX5_forget_12 : decode cX5_forget 12 = .ok (.putfield 114, 3) := by decide +kernel
theorem dX5_forget_15 : decode cX5_forget 15 = .ok (.iload_n 1, 1) := by decide +kernel
theorem dX5_forget_16 : decode cX5_forget 16 = .ok (.ireturn, 1) := by decide +kernel
theorem dX5_cut_0 : decode cX5_cut 0 = .ok (.aload_n 0, 1) := by decide +kernel
theorem dX5_cut_1 : decode cX5_cut 1 = .ok (.iconst 0, 1) := by decide +kernel
theorem dX5_cut_2 : decode cX5_cut 2 = .ok (.putfield 62, 3) := by decide +kernel
theorem dX5_cut_5 : decode cX5_cut 5 = .ok (.aload_n 0, 1) := by decide +kernel
theorem dX5_cut_6 : decode cX5_cut 6 = .ok (.iload_n 1, 1) := by decide +kernel
theorem dX5_cut_7 : decode cX5_cut 7 = .ok (.invokevirtual 134, 3) := by decide +kernel
theorem dX5_cut_10 : decode cX5_cut 10 = .ok (.ifCond .ne 5, 3) := by decide +kernel
theorem dX5_cut_13 : decode cX5_cut 13 = .ok (.iconst (-1), 1) := by decide +kernel
theorem dX5_cut_14 : decode cX5_cut 14 = .ok (.ireturn, 1) := by decide +kernel
theorem dX5_cut_15 : decode cX5_cut 15 = .ok (.aload_n 0, 1) := by decide +kernel
theorem dX5_cut_16 : decode cX5_cut 16 = .ok (.getfield 34, 3) := by decide +kernel
theorem dX5_cut_19 : decode cX5_cut 19 = .ok (.bipush 6, 2) := by decide +kernel
theorem dX5_cut_21 : decode cX5_cut 21 = .ok (.iload_n 1, 1) := by decide +kernel
theorem dX5_cut_22 : decode cX5_cut 22 = .ok (.iadd, 1) := by decide +kernel
theorem dX5_cut_23 : decode cX5_cut 23 = .ok (.iaload, 1) := by decide +kernel
theorem dX5_cut_24 : decode cX5_cut 24 = .ok (.iconst 1, 1) := by decide +kernel
theorem dX5_cut_25 : decode cX5_cut 25 = .ok (.isub, 1) := by decide +kernel
theorem dX5_cut_26 : decode cX5_cut 26 = .ok (.istore_n 2, 1) := by decide +kernel
theorem dX5_cut_27 : decode cX5_cut 27 = .ok (.iconst 0, 1) := by decide +kernel
theorem dX5_cut_28 : decode cX5_cut 28 = .ok (.istore_n 3, 1) := by decide +kernel
theorem dX5_cut_29 : decode cX5_cut 29 = .ok (.aload_n 0, 1) := by decide +kernel
theorem dX5_cut_30 : decode cX5_cut 30 = .ok (.invokevirtual 169, 3) := by decide +kernel
theorem dX5_cut_33 : decode cX5_cut 33 = .ok (.iconst 0, 1) := by decide +kernel
theorem dX5_cut_34 : decode cX5_cut 34 = .ok (.istore 4, 2) := by decide +kernel
theorem dX5_cut_36 : decode cX5_cut 36 = .ok (.iload 4, 2) := by decide +kernel
theorem dX5_cut_38 : decode cX5_cut 38 = .ok (.aload_n 0, 1) := by decide +kernel
theorem dX5_cut_39 : decode cX5_cut 39 = .ok (.getfield 13, 3) := by decide +kernel
theorem dX5_cut_42 : decode cX5_cut 42 = .ok (.iconst 0, 1) := by decide +kernel
theorem dX5_cut_43 : decode cX5_cut 43 = .ok (.iaload, 1) := by decide +kernel
theorem dX5_cut_44 : decode cX5_cut 44 = .ok (.if_icmp .ge 102, 3) := by decide +kernel
theorem dX5_cut_47 : decode cX5_cut 47 = .ok (.iload_n 2, 1) := by decide +kernel
theorem dX5_cut_48 : decode cX5_cut 48 = .ok (.ifCond .lt 98, 3) := by decide +kernel
theorem dX5_cut_51 : decode cX5_cut 51 = .ok (.aload_n 0, 1) := by decide +kernel
theorem dX5_cut_52 : decode cX5_cut 52 = .ok (.getfield 37, 3) := by decide +kernel
theorem dX5_cut_55 : decode cX5_cut 55 = .ok (.iconst 0, 1) := by decide +kernel
theorem dX5_cut_56 : decode cX5_cut 56 = .ok (.iload_n 2, 1) := by decide +kernel
theorem dX5_cut_57 : decode cX5_cut 57 = .ok (.iadd, 1) := by decide +kernel
theorem dX5_cut_58 : decode cX5_cut 58 = .ok (.iload 4, 2) := by decide +kernel
theorem dX5_cut_60 : decode cX5_cut 60 = .ok (.iastore, 1) := by decide +kernel
theorem dX5_cut_61 : decode cX5_cut 61 = .ok (.iconst 1, 1) := by decide +kernel
theorem dX5_cut_62 : decode cX5_cut 62 = .ok (.istore 5, 2) := by decide +kernel
theorem dX5_cut_64 : decode cX5_cut 64 = .ok (.iconst 0, 1) := by decide +kernel
theorem dX5_cut_65 : decode cX5_cut 65 = .ok (.istore 6, 2) := by decide +kernel
theorem dX5_cut_67 : decode cX5_cut 67 = .ok (.iload 6, 2) := by decide +kernel
theorem dX5_cut_69 : decode cX5_cut 69 = .ok (.aload_n 0, 1) := by decide +kernel
theorem dX5_cut_70 : decode cX5_cut 70 = .ok (.getfield 114, 3) := by decide +kernel
theorem dX5_cut_73 : decode cX5_cut 73 = .ok (.if_icmp .ge 51, 3) := by decide +kernel
theorem dX5_cut_76 : decode cX5_cut 76 = .ok (.iload 5, 2) := by decide +kernel
theorem dX5_cut_78 : decode cX5_cut 78 = .ok (.ifCond .eq 37, 3) := by decide +kernel
theorem dX5_cut_81 : decode cX5_cut 81 = .ok (.aload_n 0, 1) := by decide +kernel
theorem dX5_cut_82 : decode cX5_cut 82 = .ok (.getfield 50, 3) := by decide +kernel
theorem dX5_cut_85 : decode cX5_cut 85 = .ok (.iload 6, 2) := by decide +kernel
theorem dX5_cut_87 : decode cX5_cut 87 = .ok (.iaload, 1) := by decide +kernel
theorem dX5_cut_88 : decode cX5_cut 88 = .ok (.iload_n 1, 1) := by decide +kernel
theorem dX5_cut_89 : decode cX5_cut 89 = .ok (.if_icmp .ne 22, 3) := by decide +kernel
theorem dX5_cut_92 : decode cX5_cut 92 = .ok (.aload_n 0, 1) := by decide +kernel
theorem dX5_cut_93 : decode cX5_cut 93 = .ok (.aload_n 0, 1) := by decide +kernel
theorem dX5_cut_94 : decode cX5_cut 94 = .ok (.getfield 37, 3) := by decide +kernel
theorem dX5_cut_97 : decode cX5_cut 97 = .ok (.iload_n 1, 1) := by decide +kernel
theorem dX5_cut_98 : decode cX5_cut 98 = .ok (.invokevirtual 124, 3) := by decide +kernel
theorem dX5_cut_101 : decode cX5_cut 101 = .ok (.aload_n 0, 1) := by decide +kernel
theorem dX5_cut_102 : decode cX5_cut 102 = .ok (.getfield 53, 3) := by decide +kernel
theorem dX5_cut_105 : decode cX5_cut 105 = .ok (.iload 6, 2) := by decide +kernel
theorem dX5_cut_107 : decode cX5_cut 107 = .ok (.iaload, 1) := by decide +kernel
theorem dX5_cut_108 : decode cX5_cut 108 = .ok (.if_icmp .ne 7, 3) := by decide +kernel
theorem dX5_cut_111 : decode cX5_cut 111 = .ok (.iconst 1, 1) := by decide +kernel
theorem dX5_cut_112 : decode cX5_cut 112 = .ok (.goto 4, 3) := by decide +kernel
theorem dX5_cut_115 : decode cX5_cut 115 = .ok (.iconst 0, 1) := by decide +kernel
theorem dX5_cut_116 : decode cX5_cut 116 = .ok (.istore 5, 2) := by decide +kernel
theorem dX5_cut_118 : decode cX5_cut 118 = .ok (.iinc 6 1, 3) := by decide +kernel
theorem dX5_cut_121 : decode cX5_cut 121 = .ok (.goto (-54), 3) := by decide +kernel
theorem dX5_cut_124 : decode cX5_cut 124 = .ok (.iload_n 3, 1) := by decide +kernel
theorem dX5_cut_125 : decode cX5_cut 125 = .ok (.iload 5, 2) := by decide +kernel
theorem dX5_cut_127 : decode cX5_cut 127 = .ok (.ifCond .eq 10, 3) := by decide +kernel
theorem dX5_cut_130 : decode cX5_cut 130 = .ok (.iconst 1, 1) := by decide +kernel
theorem dX5_cut_131 : decode cX5_cut 131 = .ok (.iload 4, 2) := by decide +kernel
theorem dX5_cut_133 : decode cX5_cut 133 = .ok (.ishl, 1) := by decide +kernel
theorem dX5_cut_134 : decode cX5_cut 134 = .ok (.goto 4, 3) := by decide +kernel
theorem dX5_cut_137 : decode cX5_cut 137 = .ok (.iconst 0, 1) := by decide +kernel
theorem dX5_cut_138 : decode cX5_cut 138 = .ok (.ior, 1) := by decide +kernel
theorem dX5_cut_139 : decode cX5_cut 139 = .ok (.istore_n 3, 1) := by decide +kernel
theorem dX5_cut_140 : decode cX5_cut 140 = .ok (.iinc 4 1, 3) := by decide +kernel
theorem dX5_cut_143 : decode cX5_cut 143 = .ok (.goto (-107), 3) := by decide +kernel
theorem dX5_cut_146 : decode cX5_cut 146 = .ok (.iload_n 3, 1) := by decide +kernel
theorem dX5_cut_147 : decode cX5_cut 147 = .ok (.ireturn, 1) := by decide +kernel
theorem dX5_power_0 : decode cX5_power 0 = .ok (.iconst 1, 1) := by decide +kernel
theorem dX5_power_1 : decode cX5_power 1 = .ok (.istore_n 2, 1) := by decide +kernel
theorem dX5_power_2 : decode cX5_power 2 = .ok (.iconst 0, 1) := by decide +kernel
theorem dX5_power_3 : decode cX5_power 3 = .ok (.istore_n 3, 1) := by decide +kernel
theorem dX5_power_4 : decode cX5_power 4 = .ok (.iload_n 3, 1) := by decide +kernel
theorem dX5_power_5 : decode cX5_power 5 = .ok (.iload_n 1, 1) := by decide +kernel
theorem dX5_power_6 : decode cX5_power 6 = .ok (.if_icmp .ge 13, 3) := by decide +kernel
theorem dX5_power_9 : decode cX5_power 9 = .ok (.iload_n 2, 1) := by decide +kernel
theorem dX5_power_10 : decode cX5_power 10 = .ok (.iload_n 0, 1) := by decide +kernel
theorem dX5_power_11 : decode cX5_power 11 = .ok (.imul, 1) := by decide +kernel
theorem dX5_power_12 : decode cX5_power 12 = .ok (.istore_n 2, 1) := by decide +kernel
theorem dX5_power_13 : decode cX5_power 13 = .ok (.iinc 3 1, 3) := by decide +kernel
theorem dX5_power_16 : decode cX5_power 16 = .ok (.goto (-12), 3) := by decide +kernel
theorem dX5_power_19 : decode cX5_power 19 = .ok (.iload_n 2, 1) := by decide +kernel
theorem dX5_power_20 : decode cX5_power 20 = .ok (.ireturn, 1) := by decide +kernel
theorem dX5_gcd_0 : decode cX5_gcd 0 = .ok (.iload_n 0, 1) := by decide +kernel
theorem dX5_gcd_1 : decode cX5_gcd 1 = .ok (.istore_n 2, 1) := by decide +kernel
theorem dX5_gcd_2 : decode cX5_gcd 2 = .ok (.iload_n 1, 1) := by decide +kernel
theorem dX5_gcd_3 : decode cX5_gcd 3 = .ok (.istore_n 3, 1) := by decide +kernel
theorem dX5_gcd_4 : decode cX5_gcd 4 = .ok (.iload_n 3, 1) := by decide +kernel
theorem dX5_gcd_5 : decode cX5_gcd 5 = .ok (.ifCond .eq 16, 3) := by decide +kernel
theorem dX5_gcd_8 : decode cX5_gcd 8 = .ok (.iload_n 2, 1) := by decide +kernel
theorem dX5_gcd_9 : decode cX5_gcd 9 = .ok (.iload_n 3, 1) := by decide +kernel
theorem dX5_gcd_10 : decode cX5_gcd 10 = .ok (.irem, 1) := by decide +kernel
theorem dX5_gcd_11 : decode cX5_gcd 11 = .ok (.istore 4, 2) := by decide +kernel
theorem dX5_gcd_13 : decode cX5_gcd 13 = .ok (.iload_n 3, 1) := by decide +kernel
theorem dX5_gcd_14 : decode cX5_gcd 14 = .ok (.istore_n 2, 1) := by decide +kernel
theorem dX5_gcd_15 : decode cX5_gcd 15 = .ok (.iload 4, 2) := by decide +kernel
theorem dX5_gcd_17 : decode cX5_gcd 17 = .ok (.istore_n 3, 1) := by decide +kernel
theorem dX5_gcd_18 : decode cX5_gcd 18 = .ok (.goto (-14), 3) := by decide +kernel
theorem dX5_gcd_21 : decode cX5_gcd 21 = .ok (.iload_n 2, 1) := by decide +kernel
theorem dX5_gcd_22 : decode cX5_gcd 22 = .ok (.ireturn, 1) := by decide +kernel
theorem dX5_odds_0 : decode cX5_odds 0 = .ok (.aload_n 0, 1) := by decide +kernel
theorem dX5_odds_1 : decode cX5_odds 1 = .ok (.iconst 0, 1) := by decide +kernel
theorem dX5_odds_2 : decode cX5_odds 2 = .ok (.putfield 62, 3) := by decide +kernel
theorem dX5_odds_5 : decode cX5_odds 5 = .ok (.iload_n 1, 1) := by decide +kernel
theorem dX5_odds_6 : decode cX5_odds 6 = .ok (.iconst 0, 1) := by decide +kernel
theorem dX5_odds_7 : decode cX5_odds 7 = .ok (.bipush 10, 2) := by decide +kernel
theorem dX5_odds_9 : decode cX5_odds 9 = .ok (.invokestatic 66, 3) := by decide +kernel
theorem dX5_odds_12 : decode cX5_odds 12 = .ok (.ifCond .eq 45, 3) := by decide +kernel
theorem dX5_odds_15 : decode cX5_odds 15 = .ok (.iload_n 2, 1) := by decide +kernel
theorem dX5_odds_16 : decode cX5_odds 16 = .ok (.iconst 0, 1) := by decide +kernel
theorem dX5_odds_17 : decode cX5_odds 17 = .ok (.bipush 6, 2) := by decide +kernel
theorem dX5_odds_19 : decode cX5_odds 19 = .ok (.invokestatic 66, 3) := by decide +kernel
theorem dX5_odds_22 : decode cX5_odds 22 = .ok (.ifCond .eq 35, 3) := by decide +kernel
theorem dX5_odds_25 : decode cX5_odds 25 = .ok (.aload_n 0, 1) := by decide +kernel
theorem dX5_odds_26 : decode cX5_odds 26 = .ok (.iload_n 3, 1) := by decide +kernel
theorem dX5_odds_27 : decode cX5_odds 27 = .ok (.invokevirtual 134, 3) := by decide +kernel
theorem dX5_odds_30 : decode cX5_odds 30 = .ok (.ifCond .eq 27, 3) := by decide +kernel
theorem dX5_odds_33 : decode cX5_odds 33 = .ok (.iload 4, 2) := by decide +kernel
theorem dX5_odds_35 : decode cX5_odds 35 = .ok (.sipush (-9999), 3) := by decide +kernel
theorem dX5_odds_38 : decode cX5_odds 38 = .ok (.sipush 9999, 3) := by decide +kernel
theorem dX5_odds_41 : decode cX5_odds 41 = .ok (.invokestatic 66, 3) := by decide +kernel
theorem dX5_odds_44 : decode cX5_odds 44 = .ok (.ifCond .eq 13, 3) := by decide +kernel
theorem dX5_odds_47 : decode cX5_odds 47 = .ok (.iload 5, 2) := by decide +kernel
theorem dX5_odds_49 : decode cX5_odds 49 = .ok (.iconst 0, 1) := by decide +kernel
theorem dX5_odds_50 : decode cX5_odds 50 = .ok (.iconst 1, 1) := by decide +kernel
theorem dX5_odds_51 : decode cX5_odds 51 = .ok (.invokestatic 66, 3) := by decide +kernel
theorem dX5_odds_54 : decode cX5_odds 54 = .ok (.ifCond .ne 5, 3) := by decide +kernel
theorem dX5_odds_57 : decode cX5_odds 57 = .ok (.iconst (-1), 1) := by decide +kernel
theorem dX5_odds_58 : decode cX5_odds 58 = .ok (.ireturn, 1) := by decide +kernel
theorem dX5_odds_59 : decode cX5_odds 59 = .ok (.iconst 0, 1) := by decide +kernel
theorem dX5_odds_60 : decode cX5_odds 60 = .ok (.istore 6, 2) := by decide +kernel
theorem dX5_odds_62 : decode cX5_odds 62 = .ok (.iconst 0, 1) := by decide +kernel
theorem dX5_odds_63 : decode cX5_odds 63 = .ok (.istore 7, 2) := by decide +kernel
theorem dX5_odds_65 : decode cX5_odds 65 = .ok (.iload 7, 2) := by decide +kernel
theorem dX5_odds_67 : decode cX5_odds 67 = .ok (.iconst 1, 1) := by decide +kernel
theorem dX5_odds_68 : decode cX5_odds 68 = .ok (.iload_n 2, 1) := by decide +kernel
theorem dX5_odds_69 : decode cX5_odds 69 = .ok (.ishl, 1) := by decide +kernel
theorem dX5_odds_70 : decode cX5_odds 70 = .ok (.if_icmp .ge 103, 3) := by decide +kernel
theorem dX5_odds_73 : decode cX5_odds 73 = .ok (.iconst 1, 1) := by decide +kernel
theorem dX5_odds_74 : decode cX5_odds 74 = .ok (.istore 8, 2) := by decide +kernel
theorem dX5_odds_76 : decode cX5_odds 76 = .ok (.aload_n 0, 1) := by decide +kernel
theorem dX5_odds_77 : decode cX5_odds 77 = .ok (.invokevirtual 169, 3) := by decide +kernel
theorem dX5_odds_80 : decode cX5_odds 80 = .ok (.iconst 0, 1) := by decide +kernel
theorem dX5_odds_81 : decode cX5_odds 81 = .ok (.istore 9, 2) := by decide +kernel
theorem dX5_odds_83 : decode cX5_odds 83 = .ok (.iload 9, 2) := by decide +kernel
theorem dX5_odds_85 : decode cX5_odds 85 = .ok (.iload_n 2, 1) := by decide +kernel
theorem dX5_odds_86 : decode cX5_odds 86 = .ok (.if_icmp .ge 56, 3) := by decide +kernel
theorem dX5_odds_89 : decode cX5_odds 89 = .ok (.aload_n 0, 1) := by decide +kernel
theorem dX5_odds_90 : decode cX5_odds 90 = .ok (.getfield 37, 3) := by decide +kernel
theorem dX5_odds_93 : decode cX5_odds 93 = .ok (.bipush 30, 2) := by decide +kernel
theorem dX5_odds_95 : decode cX5_odds 95 = .ok (.iload 7, 2) := by decide +kernel
theorem dX5_odds_97 : decode cX5_odds 97 = .ok (.iload 9, 2) := by decide +kernel
theorem dX5_odds_99 : decode cX5_odds 99 = .ok (.ishr, 1) := by decide +kernel
theorem dX5_odds_100 : decode cX5_odds 100 = .ok (.iconst 1, 1) := by decide +kernel
theorem dX5_odds_101 : decode cX5_odds 101 = .ok (.iand, 1) := by decide +kernel
theorem dX5_odds_102 : decode cX5_odds 102 = .ok (.iastore, 1) := by decide +kernel
theorem dX5_odds_103 : decode cX5_odds 103 = .ok (.iload 8, 2) := by decide +kernel
theorem dX5_odds_105 : decode cX5_odds 105 = .ok (.aload_n 0, 1) := by decide +kernel
theorem dX5_odds_106 : decode cX5_odds 106 = .ok (.getfield 37, 3) := by decide +kernel
theorem dX5_odds_109 : decode cX5_odds 109 = .ok (.bipush 30, 2) := by decide +kernel
theorem dX5_odds_111 : decode cX5_odds 111 = .ok (.iaload, 1) := by decide +kernel
theorem dX5_odds_112 : decode cX5_odds 112 = .ok (.iconst 1, 1) := by decide +kernel
theorem dX5_odds_113 : decode cX5_odds 113 = .ok (.if_icmp .ne 7, 3) := by decide +kernel
theorem dX5_odds_116 : decode cX5_odds 116 = .ok (.iload_n 1, 1) := by decide +kernel
theorem dX5_odds_117 : decode cX5_odds 117 = .ok (.goto 7, 3) := by decide +kernel
theorem dX5_odds_120 : decode cX5_odds 120 = .ok (.bipush 10, 2) := by decide +kernel
theorem dX5_odds_122 : decode cX5_odds 122 = .ok (.iload_n 1, 1) := by decide +kernel
theorem dX5_odds_123 : decode cX5_odds 123 = .ok (.isub, 1) := by decide +kernel
theorem dX5_odds_124 : decode cX5_odds 124 = .ok (.imul, 1) := by decide +kernel
theorem dX5_odds_125 : decode cX5_odds 125 = .ok (.istore 8, 2) := by decide +kernel
theorem dX5_odds_127 : decode cX5_odds 127 = .ok (.aload_n 0, 1) := by decide +kernel
theorem dX5_odds_128 : decode cX5_odds 128 = .ok (.aload_n 0, 1) := by decide +kernel
theorem dX5_odds_129 : decode cX5_odds 129 = .ok (.getfield 37, 3) := by decide +kernel
theorem dX5_odds_132 : decode cX5_odds 132 = .ok (.invokevirtual 165, 3) := by decide +kernel
theorem dX5_odds_135 : decode cX5_odds 135 = .ok (.pop, 1) := by decide +kernel
theorem dX5_odds_136 : decode cX5_odds 136 = .ok (.iinc 9 1, 3) := by decide +kernel
theorem dX5_odds_139 : decode cX5_odds 139 = .ok (.goto (-56), 3) := by decide +kernel
theorem dX5_odds_142 : decode cX5_odds 142 = .ok (.iload 6, 2) := by decide +kernel
theorem dX5_odds_144 : decode cX5_odds 144 = .ok (.aload_n 0, 1) := by decide +kernel
theorem dX5_odds_145 : decode cX5_odds 145 = .ok (.getfield 37, 3) := by decide +kernel
theorem dX5_odds_148 : decode cX5_odds 148 = .ok (.bipush 24, 2) := by decide +kernel
theorem dX5_odds_150 : decode cX5_odds 150 = .ok (.iload_n 3, 1) := by decide +kernel
theorem dX5_odds_151 : decode cX5_odds 151 = .ok (.iadd, 1) := by decide +kernel
theorem dX5_odds_152 : decode cX5_odds 152 = .ok (.iaload, 1) := by decide +kernel
theorem dX5_odds_153 : decode cX5_odds 153 = .ok (.iload 4, 2) := by decide +kernel
theorem dX5_odds_155 : decode cX5_odds 155 = .ok (.if_icmp .lt 8, 3) := by decide +kernel
theorem dX5_odds_158 : decode cX5_odds 158 = .ok (.iload 8, 2) := by decide +kernel
theorem dX5_odds_160 : decode cX5_odds 160 = .ok (.goto 4, 3) := by decide +kernel
theorem dX5_odds_163 : decode cX5_odds 163 = .ok (.iconst 0, 1) := by decide +kernel
theorem dX5_odds_164 : decode cX5_odds 164 = .ok (.iadd, 1) := by decide +kernel
theorem dX5_odds_165 : decode cX5_odds 165 = .ok (.istore 6, 2) := by decide +kernel
theorem dX5_odds_167 : decode cX5_odds 167 = .ok (.iinc 7 1, 3) := by decide +kernel
theorem dX5_odds_170 : decode cX5_odds 170 = .ok (.goto (-105), 3) := by decide +kernel
theorem dX5_odds_173 : decode cX5_odds 173 = .ok (.bipush 10, 2) := by decide +kernel
theorem dX5_odds_175 : decode cX5_odds 175 = .ok (.iload_n 2, 1) := by decide +kernel
theorem dX5_odds_176 : decode cX5_odds 176 = .ok (.invokestatic 187, 3) := by decide +kernel
theorem dX5_odds_179 : decode cX5_odds 179 = .ok (.istore 7, 2) := by decide +kernel
theorem dX5_odds_181 : decode cX5_odds 181 = .ok (.iload 6, 2) := by decide +kernel
theorem dX5_odds_183 : decode cX5_odds 183 = .ok (.iload 7, 2) := by decide +kernel
theorem dX5_odds_185 : decode cX5_odds 185 = .ok (.invokestatic 190, 3) := by decide +kernel
theorem dX5_odds_188 : decode cX5_odds 188 = .ok (.istore 8, 2) := by decide +kernel
theorem dX5_odds_190 : decode cX5_odds 190 = .ok (.iload 5, 2) := by decide +kernel
theorem dX5_odds_192 : decode cX5_odds 192 = .ok (.ifCond .ne 11, 3) := by decide +kernel
theorem dX5_odds_195 : decode cX5_odds 195 = .ok (.iload 6, 2) := by decide +kernel
theorem dX5_odds_197 : decode cX5_odds 197 = .ok (.iload 8, 2) := by decide +kernel
theorem dX5_odds_199 : decode cX5_odds 199 = .ok (.idiv, 1) := by decide +kernel
theorem dX5_odds_200 : decode cX5_odds 200 = .ok (.goto 8, 3) := by decide +kernel
theorem dX5_odds_203 : decode cX5_odds 203 = .ok (.iload 7, 2) := by decide +kernel
theorem dX5_odds_205 : decode cX5_odds 205 = .ok (.iload 8, 2) := by decide +kernel
theorem dX5_odds_207 : decode cX5_odds 207 = .ok (.idiv, 1) := by decide +kernel
theorem dX5_odds_208 : decode cX5_odds 208 = .ok (.ireturn, 1) := by decide +kernel
theorem dX5_rich_0 : decode cX5_rich 0 = .ok (.aload_n 0, 1) := by decide +kernel
theorem dX5_rich_1 : decode cX5_rich 1 = .ok (.iconst 0, 1) := by decide +kernel
theorem dX5_rich_2 : decode cX5_rich 2 = .ok (.putfield 62, 3) := by decide +kernel
theorem dX5_rich_5 : decode cX5_rich 5 = .ok (.aload_n 0, 1) := by decide +kernel
theorem dX5_rich_6 : decode cX5_rich 6 = .ok (.iload_n 1, 1) := by decide +kernel
theorem dX5_rich_7 : decode cX5_rich 7 = .ok (.invokevirtual 134, 3) := by decide +kernel
theorem dX5_rich_10 : decode cX5_rich 10 = .ok (.ifCond .eq 16, 3) := by decide +kernel
theorem dX5_rich_13 : decode cX5_rich 13 = .ok (.iload_n 2, 1) := by decide +kernel
theorem dX5_rich_14 : decode cX5_rich 14 = .ok (.sipush (-9999), 3) := by decide +kernel
theorem dX5_rich_17 : decode cX5_rich 17 = .ok (.sipush 9999, 3) := by decide +kernel
theorem dX5_rich_20 : decode cX5_rich 20 = .ok (.invokestatic 66, 3) := by decide +kernel
theorem dX5_rich_23 : decode cX5_rich 23 = .ok (.ifCond .ne 5, 3) := by decide +kernel
theorem dX5_rich_26 : decode cX5_rich 26 = .ok (.iconst (-1), 1) := by decide +kernel
theorem dX5_rich_27 : decode cX5_rich 27 = .ok (.ireturn, 1) := by decide +kernel
theorem dX5_rich_28 : decode cX5_rich 28 = .ok (.aload_n 0, 1) := by decide +kernel
theorem dX5_rich_29 : decode cX5_rich 29 = .ok (.invokevirtual 169, 3) := by decide +kernel
theorem dX5_rich_32 : decode cX5_rich 32 = .ok (.iconst 0, 1) := by decide +kernel
theorem dX5_rich_33 : decode cX5_rich 33 = .ok (.istore_n 3, 1) := by decide +kernel
theorem dX5_rich_34 : decode cX5_rich 34 = .ok (.iload_n 3, 1) := by decide +kernel
theorem dX5_rich_35 : decode cX5_rich 35 = .ok (.sipush 400, 3) := by decide +kernel
theorem dX5_rich_38 : decode cX5_rich 38 = .ok (.if_icmp .gt 33, 3) := by decide +kernel
theorem dX5_rich_41 : decode cX5_rich 41 = .ok (.aload_n 0, 1) := by decide +kernel
theorem dX5_rich_42 : decode cX5_rich 42 = .ok (.getfield 37, 3) := by decide +kernel
theorem dX5_rich_45 : decode cX5_rich 45 = .ok (.bipush 24, 2) := by decide +kernel
theorem dX5_rich_47 : decode cX5_rich 47 = .ok (.iload_n 1, 1) := by decide +kernel
theorem dX5_rich_48 : decode cX5_rich 48 = .ok (.iadd, 1) := by decide +kernel
theorem dX5_rich_49 : decode cX5_rich 49 = .ok (.iaload, 1) := by decide +kernel
theorem dX5_rich_50 : decode cX5_rich 50 = .ok (.iload_n 2, 1) := by decide +kernel
theorem dX5_rich_51 : decode cX5_rich 51 = .ok (.if_icmp .lt 5, 3) := by decide +kernel
theorem dX5_rich_54 : decode cX5_rich 54 = .ok (.iload_n 3, 1) := by decide +kernel
theorem dX5_rich_55 : decode cX5_rich 55 = .ok (.ireturn, 1) := by decide +kernel
theorem dX5_rich_56 : decode cX5_rich 56 = .ok (.aload_n 0, 1) := by decide +kernel
theorem dX5_rich_57 : decode cX5_rich 57 = .ok (.aload_n 0, 1) := by decide +kernel
theorem dX5_rich_58 : decode cX5_rich 58 = .ok (.getfield 37, 3) := by decide +kernel
theorem dX5_rich_61 : decode cX5_rich 61 = .ok (.invokevirtual 165, 3) := by decide +kernel
theorem dX5_rich_64 : decode cX5_rich 64 = .ok (.pop, 1) := by decide +kernel
theorem dX5_rich_65 : decode cX5_rich 65 = .ok (.iinc 3 1, 3) := by decide +kernel
theorem dX5_rich_68 : decode cX5_rich 68 = .ok (.goto (-34), 3) := by decide +kernel
theorem dX5_rich_71 : decode cX5_rich 71 = .ok (.bipush (-9), 2) := by decide +kernel
theorem dX5_rich_73 : decode cX5_rich 73 = .ok (.ireturn, 1) := by decide +kernel
theorem dX5_poor_0 : decode cX5_poor 0 = .ok (.aload_n 0, 1) := by decide +kernel
theorem dX5_poor_1 : decode cX5_poor 1 = .ok (.iconst 0, 1) := by decide +kernel
theorem dX5_poor_2 : decode cX5_poor 2 = .ok (.putfield 62, 3) := by decide +kernel
theorem dX5_poor_5 : decode cX5_poor 5 = .ok (.aload_n 0, 1) := by decide +kernel
theorem dX5_poor_6 : decode cX5_poor 6 = .ok (.invokevirtual 169, 3) := by decide +kernel
theorem dX5_poor_9 : decode cX5_poor 9 = .ok (.iconst 0, 1) := by decide +kernel
theorem dX5_poor_10 : decode cX5_poor 10 = .ok (.istore_n 1, 1) := by decide +kernel
theorem dX5_poor_11 : decode cX5_poor 11 = .ok (.iload_n 1, 1) := by decide +kernel
theorem dX5_poor_12 : decode cX5_poor 12 = .ok (.sipush 400, 3) := by decide +kernel
theorem dX5_poor_15 : decode cX5_poor 15 = .ok (.if_icmp .gt 50, 3) := by decide +kernel
theorem dX5_poor_18 : decode cX5_poor 18 = .ok (.iconst 0, 1) := by decide +kernel
theorem dX5_poor_19 : decode cX5_poor 19 = .ok (.istore_n 2, 1) := by decide +kernel
theorem dX5_poor_20 : decode cX5_poor 20 = .ok (.iload_n 2, 1) := by decide +kernel
theorem dX5_poor_21 : decode cX5_poor 21 = .ok (.aload_n 0, 1) := by decide +kernel
theorem dX5_poor_22 : decode cX5_poor 22 = .ok (.getfield 13, 3) := by decide +kernel
theorem dX5_poor_25 : decode cX5_poor 25 = .ok (.iconst 1, 1) := by decide +kernel
theorem dX5_poor_26 : decode cX5_poor 26 = .ok (.iaload, 1) := by decide +kernel
theorem dX5_poor_27 : decode cX5_poor 27 = .ok (.if_icmp .ge 23, 3) := by decide +kernel
theorem dX5_poor_30 : decode cX5_poor 30 = .ok (.aload_n 0, 1) := by decide +kernel
theorem dX5_poor_31 : decode cX5_poor 31 = .ok (.getfield 37, 3) := by decide +kernel
theorem dX5_poor_34 : decode cX5_poor 34 = .ok (.bipush 24, 2) := by decide +kernel
theorem dX5_poor_36 : decode cX5_poor 36 = .ok (.iload_n 2, 1) := by decide +kernel
theorem dX5_poor_37 : decode cX5_poor 37 = .ok (.iadd, 1) := by decide +kernel
theorem dX5_poor_38 : decode cX5_poor 38 = .ok (.iaload, 1) := by decide +kernel
theorem dX5_poor_39 : decode cX5_poor 39 = .ok (.ifCond .ge 5, 3) := by decide +kernel
theorem dX5_poor_42 : decode cX5_poor 42 = .ok (.iload_n 1, 1) := by decide +kernel
theorem dX5_poor_43 : decode cX5_poor 43 = .ok (.ireturn, 1) := by decide +kernel
theorem dX5_poor_44 : decode cX5_poor 44 = .ok (.iinc 2 1, 3) := by decide +kernel
theorem dX5_poor_47 : decode cX5_poor 47 = .ok (.goto (-27), 3) := by decide +kernel
theorem dX5_poor_50 : decode cX5_poor 50 = .ok (.aload_n 0, 1) := by decide +kernel
theorem dX5_poor_51 : decode cX5_poor 51 = .ok (.aload_n 0, 1) := by decide +kernel
theorem dX5_poor_52 : decode cX5_poor 52 = .ok (.getfield 37, 3) := by decide +kernel
theorem dX5_poor_55 : decode cX5_poor 55 = .ok (.invokevirtual 165, 3) := by decide +kernel
theorem dX5_poor_58 : decode cX5_poor 58 = .ok (.pop, 1) := by decide +kernel
theorem dX5_poor_59 : decode cX5_poor 59 = .ok (.iinc 1 1, 3) := by decide +kernel
theorem dX5_poor_62 : decode cX5_poor 62 = .ok (.goto (-51), 3) := by decide +kernel
theorem dX5_poor_65 : decode cX5_poor 65 = .ok (.bipush (-9), 2) := by decide +kernel
theorem dX5_poor_67 : decode cX5_poor 67 = .ok (.ireturn, 1) := by decide +kernel
theorem dX5_share_0 : decode cX5_share 0 = .ok (.aload_n 0, 1) := by decide +kernel
theorem dX5_share_1 : decode cX5_share 1 = .ok (.iconst 0, 1) := by decide +kernel
theorem dX5_share_2 : decode cX5_share 2 = .ok (.putfield 62, 3) := by decide +kernel
theorem dX5_share_5 : decode cX5_share 5 = .ok (.aload_n 0, 1) := by decide +kernel
theorem dX5_share_6 : decode cX5_share 6 = .ok (.iload_n 1, 1) := by decide +kernel
theorem dX5_share_7 : decode cX5_share 7 = .ok (.invokevirtual 134, 3) := by decide +kernel
theorem dX5_share_10 : decode cX5_share 10 = .ok (.ifCond .eq 12, 3) := by decide +kernel
theorem dX5_share_13 : decode cX5_share 13 = .ok (.iload_n 2, 1) := by decide +kernel
theorem dX5_share_14 : decode cX5_share 14 = .ok (.iconst 0, 1) := by decide +kernel
theorem dX5_share_15 : decode cX5_share 15 = .ok (.iconst 1, 1) := by decide +kernel
theorem dX5_share_16 : decode cX5_share 16 = .ok (.invokestatic 66, 3) := by decide +kernel
theorem dX5_share_19 : decode cX5_share 19 = .ok (.ifCond .ne 5, 3) := by decide +kernel
theorem dX5_share_22 : decode cX5_share 22 = .ok (.iconst (-1), 1) := by decide +kernel
theorem dX5_share_23 : decode cX5_share 23 = .ok (.ireturn, 1) := by decide +kernel
theorem dX5_share_24 : decode cX5_share 24 = .ok (.aload_n 0, 1) := by decide +kernel
theorem dX5_share_25 : decode cX5_share 25 = .ok (.invokevirtual 152, 3) := by decide +kernel
theorem dX5_share_28 : decode cX5_share 28 = .ok (.ifCond .ne 5, 3) := by decide +kernel
theorem dX5_share_31 : decode cX5_share 31 = .ok (.iload_n 2, 1) := by decide +kernel
theorem dX5_share_32 : decode cX5_share 32 = .ok (.ireturn, 1) := by decide +kernel
theorem dX5_share_33 : decode cX5_share 33 = .ok (.aload_n 0, 1) := by decide +kernel
theorem dX5_share_34 : decode cX5_share 34 = .ok (.aload_n 0, 1) := by decide +kernel
theorem dX5_share_35 : decode cX5_share 35 = .ok (.getfield 34, 3) := by decide +kernel
theorem dX5_share_38 : decode cX5_share 38 = .ok (.iload_n 1, 1) := by decide +kernel
theorem dX5_share_39 : decode cX5_share 39 = .ok (.invokevirtual 142, 3) := by decide +kernel
theorem dX5_share_42 : decode cX5_share 42 = .ok (.aload_n 0, 1) := by decide +kernel
theorem dX5_share_43 : decode cX5_share 43 = .ok (.invokevirtual 152, 3) := by decide +kernel
theorem dX5_share_46 : decode cX5_share 46 = .ok (.invokestatic 190, 3) := by decide +kernel
theorem dX5_share_49 : decode cX5_share 49 = .ok (.istore_n 3, 1) := by decide +kernel
theorem dX5_share_50 : decode cX5_share 50 = .ok (.iload_n 2, 1) := by decide +kernel
theorem dX5_share_51 : decode cX5_share 51 = .ok (.ifCond .ne 17, 3) := by decide +kernel
theorem dX5_share_54 : decode cX5_share 54 = .ok (.aload_n 0, 1) := by decide +kernel
theorem dX5_share_55 : decode cX5_share 55 = .ok (.aload_n 0, 1) := by decide +kernel
theorem dX5_share_56 : decode cX5_share 56 = .ok (.getfield 34, 3) := by decide +kernel
theorem dX5_share_59 : decode cX5_share 59 = .ok (.iload_n 1, 1) := by decide +kernel
theorem dX5_share_60 : decode cX5_share 60 = .ok (.invokevirtual 142, 3) := by decide +kernel
theorem dX5_share_63 : decode cX5_share 63 = .ok (.iload_n 3, 1) := by decide +kernel
theorem dX5_share_64 : decode cX5_share 64 = .ok (.idiv, 1) := by decide +kernel
theorem dX5_share_65 : decode cX5_share 65 = .ok (.goto 9, 3) := by decide +kernel
theorem dX5_share_68 : decode cX5_share 68 = .ok (.aload_n 0, 1) := by decide +kernel
theorem dX5_share_69 : decode cX5_share 69 = .ok (.invokevirtual 152, 3) := by decide +kernel
theorem dX5_share_72 : decode cX5_share 72 = .ok (.iload_n 3, 1) := by decide +kernel
theorem dX5_share_73 : decode cX5_share 73 = .ok (.idiv, 1) := by decide +kernel
theorem dX5_share_74 : decode cX5_share 74 = .ok (.ireturn, 1) := by decide +kernel
theorem dX5_rate_0 : decode cX5_rate 0 = .ok (.aload_n 0, 1) := by decide +kernel
theorem dX5_rate_1 : decode cX5_rate 1 = .ok (.iconst 0, 1) := by decide +kernel
theorem dX5_rate_2 : decode cX5_rate 2 = .ok (.putfield 62, 3) := by decide +kernel
theorem dX5_rate_5 : decode cX5_rate 5 = .ok (.iload_n 1, 1) := by decide +kernel
theorem dX5_rate_6 : decode cX5_rate 6 = .ok (.iconst 0, 1) := by decide +kernel
theorem dX5_rate_7 : decode cX5_rate 7 = .ok (.iconst 5, 1) := by decide +kernel
theorem dX5_rate_8 : decode cX5_rate 8 = .ok (.invokestatic 66, 3) := by decide +kernel
theorem dX5_rate_11 : decode cX5_rate 11 = .ok (.ifCond .eq 11, 3) := by decide +kernel
theorem dX5_rate_14 : decode cX5_rate 14 = .ok (.aload_n 0, 1) := by decide +kernel
theorem dX5_rate_15 : decode cX5_rate 15 = .ok (.iload_n 2, 1) := by decide +kernel
theorem dX5_rate_16 : decode cX5_rate 16 = .ok (.invokevirtual 134, 3) := by decide +kernel
theorem dX5_rate_19 : decode cX5_rate 19 = .ok (.ifCond .ne 6, 3) := by decide +kernel
theorem dX5_rate_22 : decode cX5_rate 22 = .ok (.ldc 141, 2) := by decide +kernel
theorem dX5_rate_24 : decode cX5_rate 24 = .ok (.ireturn, 1) := by decide +kernel
theorem dX5_rate_25 : decode cX5_rate 25 = .ok (.aload_n 0, 1) := by decide +kernel
theorem dX5_rate_26 : decode cX5_rate 26 = .ok (.aload_n 0, 1) := by decide +kernel
theorem dX5_rate_27 : decode cX5_rate 27 = .ok (.getfield 34, 3) := by decide +kernel
theorem dX5_rate_30 : decode cX5_rate 30 = .ok (.iload_n 2, 1) := by decide +kernel
theorem dX5_rate_31 : decode cX5_rate 31 = .ok (.invokevirtual 142, 3) := by decide +kernel
theorem dX5_rate_34 : decode cX5_rate 34 = .ok (.istore_n 3, 1) := by decide +kernel
theorem dX5_rate_35 : decode cX5_rate 35 = .ok (.aload_n 0, 1) := by decide +kernel
theorem dX5_rate_36 : decode cX5_rate 36 = .ok (.dup, 1) := by decide +kernel
theorem dX5_rate_37 : decode cX5_rate 37 = .ok (.getfield 193, 3) := by decide +kernel
theorem dX5_rate_40 : decode cX5_rate 40 = .ok (.iload_n 1, 1) := by decide +kernel
theorem dX5_rate_41 : decode cX5_rate 41 = .ok (.ifCond .ne 7, 3) := by decide +kernel
theorem dX5_rate_44 : decode cX5_rate 44 = .ok (.lconst 1, 1) := by decide +kernel
theorem dX5_rate_45 : decode cX5_rate 45 = .ok (.goto 50, 3) := by decide +kernel
theorem dX5_rate_48 : decode cX5_rate 48 = .ok (.iload_n 1, 1) := by decide +kernel
theorem dX5_rate_49 : decode cX5_rate 49 = .ok (.iconst 1, 1) := by decide +kernel
theorem dX5_rate_50 : decode cX5_rate 50 = .ok (.if_icmp .ne 9, 3) := by decide +kernel
theorem dX5_rate_53 : decode cX5_rate 53 = .ok (.ldc2_w 197, 3) := by decide +kernel
theorem dX5_rate_56 : decode cX5_rate 56 = .ok (.goto 39, 3) := by decide +kernel
theorem dX5_rate_59 : decode cX5_rate 59 = .ok (.iload_n 1, 1) := by decide +kernel
theorem dX5_rate_60 : decode cX5_rate 60 = .ok (.iconst 2, 1) := by decide +kernel
theorem dX5_rate_61 : decode cX5_rate 61 = .ok (.if_icmp .ne 9, 3) := by decide +kernel
theorem dX5_rate_64 : decode cX5_rate 64 = .ok (.ldc2_w 199, 3) := by decide +kernel
theorem dX5_rate_67 : decode cX5_rate 67 = .ok (.goto 28, 3) := by decide +kernel
theorem dX5_rate_70 : decode cX5_rate 70 = .ok (.iload_n 1, 1) := by decide +kernel
theorem dX5_rate_71 : decode cX5_rate 71 = .ok (.iconst 3, 1) := by decide +kernel
theorem dX5_rate_72 : decode cX5_rate 72 = .ok (.if_icmp .ne 9, 3) := by decide +kernel
theorem dX5_rate_75 : decode cX5_rate 75 = .ok (.ldc2_w 201, 3) := by decide +kernel
theorem dX5_rate_78 : decode cX5_rate 78 = .ok (.goto 17, 3) := by decide +kernel
theorem dX5_rate_81 : decode cX5_rate 81 = .ok (.iload_n 1, 1) := by decide +kernel
theorem dX5_rate_82 : decode cX5_rate 82 = .ok (.iconst 4, 1) := by decide +kernel
theorem dX5_rate_83 : decode cX5_rate 83 = .ok (.if_icmp .ne 9, 3) := by decide +kernel
theorem dX5_rate_86 : decode cX5_rate 86 = .ok (.ldc2_w 203, 3) := by decide +kernel
theorem dX5_rate_89 : decode cX5_rate 89 = .ok (.goto 6, 3) := by decide +kernel
theorem dX5_rate_92 : decode cX5_rate 92 = .ok (.ldc2_w 205, 3) := by decide +kernel
theorem dX5_rate_95 : decode cX5_rate 95 = .ok (.ladd, 1) := by decide +kernel
theorem dX5_rate_96 : decode cX5_rate 96 = .ok (.putfield 193, 3) := by decide +kernel
theorem dX5_rate_99 : decode cX5_rate 99 = .ok (.iload_n 1, 1) := by decide +kernel
theorem dX5_rate_100 : decode cX5_rate 100 = .ok (.ifCond .ne 7, 3) := by decide +kernel
theorem dX5_rate_103 : decode cX5_rate 103 = .ok (.iload_n 3, 1) := by decide +kernel
theorem dX5_rate_104 : decode cX5_rate 104 = .ok (.goto 80, 3) := by decide +kernel
theorem dX5_rate_107 : decode cX5_rate 107 = .ok (.iload_n 1, 1) := by decide +kernel
theorem dX5_rate_108 : decode cX5_rate 108 = .ok (.iconst 1, 1) := by decide +kernel
theorem dX5_rate_109 : decode cX5_rate 109 = .ok (.if_icmp .ne 14, 3) := by decide +kernel
theorem dX5_rate_112 : decode cX5_rate 112 = .ok (.iload_n 3, 1) := by decide +kernel
theorem dX5_rate_113 : decode cX5_rate 113 = .ok (.aload_n 0, 1) := by decide +kernel
theorem dX5_rate_114 : decode cX5_rate 114 = .ok (.getfield 22, 3) := by decide +kernel
theorem dX5_rate_117 : decode cX5_rate 117 = .ok (.iload_n 2, 1) := by decide +kernel
theorem dX5_rate_118 : decode cX5_rate 118 = .ok (.iaload, 1) := by decide +kernel
theorem dX5_rate_119 : decode cX5_rate 119 = .ok (.iadd, 1) := by decide +kernel
theorem dX5_rate_120 : decode cX5_rate 120 = .ok (.goto 64, 3) := by decide +kernel
theorem dX5_rate_123 : decode cX5_rate 123 = .ok (.iload_n 1, 1) := by decide +kernel
theorem dX5_rate_124 : decode cX5_rate 124 = .ok (.iconst 2, 1) := by decide +kernel
theorem dX5_rate_125 : decode cX5_rate 125 = .ok (.if_icmp .ne 14, 3) := by decide +kernel
theorem dX5_rate_128 : decode cX5_rate 128 = .ok (.iload_n 3, 1) := by decide +kernel
theorem dX5_rate_129 : decode cX5_rate 129 = .ok (.aload_n 0, 1) := by decide +kernel
theorem dX5_rate_130 : decode cX5_rate 130 = .ok (.getfield 28, 3) := by decide +kernel
theorem dX5_rate_133 : decode cX5_rate 133 = .ok (.iload_n 2, 1) := by decide +kernel
theorem dX5_rate_134 : decode cX5_rate 134 = .ok (.iaload, 1) := by decide +kernel
theorem dX5_rate_135 : decode cX5_rate 135 = .ok (.isub, 1) := by decide +kernel
theorem dX5_rate_136 : decode cX5_rate 136 = .ok (.goto 48, 3) := by decide +kernel
theorem dX5_rate_139 : decode cX5_rate 139 = .ok (.iload_n 1, 1) := by decide +kernel
theorem dX5_rate_140 : decode cX5_rate 140 = .ok (.iconst 3, 1) := by decide +kernel
theorem dX5_rate_141 : decode cX5_rate 141 = .ok (.if_icmp .ne 16, 3) := by decide +kernel
theorem dX5_rate_144 : decode cX5_rate 144 = .ok (.iconst 2, 1) := by decide +kernel
theorem dX5_rate_145 : decode cX5_rate 145 = .ok (.iload_n 3, 1) := by decide +kernel
theorem dX5_rate_146 : decode cX5_rate 146 = .ok (.aload_n 0, 1) := by decide +kernel
theorem dX5_rate_147 : decode cX5_rate 147 = .ok (.getfield 22, 3) := by decide +kernel
theorem dX5_rate_150 : decode cX5_rate 150 = .ok (.iload_n 2, 1) := by decide +kernel
theorem dX5_rate_151 : decode cX5_rate 151 = .ok (.iaload, 1) := by decide +kernel
theorem dX5_rate_152 : decode cX5_rate 152 = .ok (.iadd, 1) := by decide +kernel
theorem dX5_rate_153 : decode cX5_rate 153 = .ok (.imul, 1) := by decide +kernel
theorem dX5_rate_154 : decode cX5_rate 154 = .ok (.goto 30, 3) := by decide +kernel
theorem dX5_rate_157 : decode cX5_rate 157 = .ok (.iload_n 1, 1) := by decide +kernel
theorem dX5_rate_158 : decode cX5_rate 158 = .ok (.iconst 4, 1) := by decide +kernel
theorem dX5_rate_159 : decode cX5_rate 159 = .ok (.if_icmp .ne 16, 3) := by decide +kernel
theorem dX5_rate_162 : decode cX5_rate 162 = .ok (.iload_n 3, 1) := by decide +kernel
theorem dX5_rate_163 : decode cX5_rate 163 = .ok (.aload_n 0, 1) := by decide +kernel
theorem dX5_rate_164 : decode cX5_rate 164 = .ok (.getfield 28, 3) := by decide +kernel
theorem dX5_rate_167 : decode cX5_rate 167 = .ok (.iload_n 2, 1) := by decide +kernel
theorem dX5_rate_168 : decode cX5_rate 168 = .ok (.iaload, 1) := by decide +kernel
theorem dX5_rate_169 : decode cX5_rate 169 = .ok (.isub, 1) := by decide +kernel
theorem dX5_rate_170 : decode cX5_rate 170 = .ok (.iload_n 2, 1) := by decide +kernel
theorem dX5_rate_171 : decode cX5_rate 171 = .ok (.iadd, 1) := by decide +kernel
theorem dX5_rate_172 : decode cX5_rate 172 = .ok (.goto 12, 3) := by decide +kernel
theorem dX5_rate_175 : decode cX5_rate 175 = .ok (.iload_n 3, 1) := by decide +kernel
theorem dX5_rate_176 : decode cX5_rate 176 = .ok (.aload_n 0, 1) := by decide +kernel
theorem dX5_rate_177 : decode cX5_rate 177 = .ok (.getfield 34, 3) := by decide +kernel
theorem dX5_rate_180 : decode cX5_rate 180 = .ok (.bipush 31, 2) := by decide +kernel
theorem dX5_rate_182 : decode cX5_rate 182 = .ok (.iaload, 1) := by decide +kernel
theorem dX5_rate_183 : decode cX5_rate 183 = .ok (.iadd, 1) := by decide +kernel
theorem dX5_rate_184 : decode cX5_rate 184 = .ok (.ireturn, 1) := by decide +kernel
theorem dX5_keep_0 : decode cX5_keep 0 = .ok (.aload_n 0, 1) := by decide +kernel
theorem dX5_keep_1 : decode cX5_keep 1 = .ok (.iconst 0, 1) := by decide +kernel
theorem dX5_keep_2 : decode cX5_keep 2 = .ok (.putfield 62, 3) := by decide +kernel
theorem dX5_keep_5 : decode cX5_keep 5 = .ok (.iload_n 1, 1) := by decide +kernel
theorem dX5_keep_6 : decode cX5_keep 6 = .ok (.iconst 0, 1) := by decide +kernel
theorem dX5_keep_7 : decode cX5_keep 7 = .ok (.iconst 1, 1) := by decide +kernel
theorem dX5_keep_8 : decode cX5_keep 8 = .ok (.invokestatic 66, 3) := by decide +kernel
theorem dX5_keep_11 : decode cX5_keep 11 = .ok (.ifCond .ne 5, 3) := by decide +kernel
theorem dX5_keep_14 : decode cX5_keep 14 = .ok (.iconst (-1), 1) := by decide +kernel
theorem dX5_keep_15 : decode cX5_keep 15 = .ok (.ireturn, 1) := by decide +kernel
theorem dX5_keep_16 : decode cX5_keep 16 = .ok (.iconst 0, 1) := by decide +kernel
theorem dX5_keep_17 : decode cX5_keep 17 = .ok (.istore_n 2, 1) := by decide +kernel
theorem dX5_keep_18 : decode cX5_keep 18 = .ok (.iload_n 2, 1) := by decide +kernel
theorem dX5_keep_19 : decode cX5_keep 19 = .ok (.bipush 32, 2) := by decide +kernel
theorem dX5_keep_21 : decode cX5_keep 21 = .ok (.if_icmp .ge 26, 3) := by decide +kernel
theorem dX5_keep_24 : decode cX5_keep 24 = .ok (.aload_n 0, 1) := by decide +kernel
theorem dX5_keep_25 : decode cX5_keep 25 = .ok (.getfield 40, 3) := by decide +kernel
theorem dX5_keep_28 : decode cX5_keep 28 = .ok (.bipush 32, 2) := by decide +kernel
theorem dX5_keep_30 : decode cX5_keep 30 = .ok (.iload_n 1, 1) := by decide +kernel
theorem dX5_keep_31 : decode cX5_keep 31 = .ok (.imul, 1) := by decide +kernel
theorem dX5_keep_32 : decode cX5_keep 32 = .ok (.iload_n 2, 1) := by decide +kernel
theorem dX5_keep_33 : decode cX5_keep 33 = .ok (.iadd, 1) := by decide +kernel
theorem dX5_keep_34 : decode cX5_keep 34 = .ok (.aload_n 0, 1) := by decide +kernel
theorem dX5_keep_35 : decode cX5_keep 35 = .ok (.getfield 34, 3) := by decide +kernel
theorem dX5_keep_38 : decode cX5_keep 38 = .ok (.iload_n 2, 1) := by decide +kernel
theorem dX5_keep_39 : decode cX5_keep 39 = .ok (.iaload, 1) := by decide +kernel
theorem dX5_keep_40 : decode cX5_keep 40 = .ok (.iastore, 1) := by decide +kernel
theorem dX5_keep_41 : decode cX5_keep 41 = .ok (.iinc 2 1, 3) := by decide +kernel
theorem dX5_keep_44 : decode cX5_keep 44 = .ok (.goto (-26), 3) := by decide +kernel
theorem dX5_keep_47 : decode cX5_keep 47 = .ok (.aload_n 0, 1) := by decide +kernel
theorem dX5_keep_48 : decode cX5_keep 48 = .ok (.getfield 43, 3) := by decide +kernel
theorem dX5_keep_51 : decode cX5_keep 51 = .ok (.iload_n 1, 1) := by decide +kernel
theorem dX5_keep_52 : decode cX5_keep 52 = .ok (.iconst 1, 1) := by decide +kernel
theorem dX5_keep_53 : decode cX5_keep 53 = .ok (.bastore, 1) := by decide +kernel
theorem dX5_keep_54 : decode cX5_keep 54 = .ok (.aload_n 0, 1) := by decide +kernel
theorem dX5_keep_55 : decode cX5_keep 55 = .ok (.getfield 34, 3) := by decide +kernel
theorem dX5_keep_58 : decode cX5_keep 58 = .ok (.bipush 31, 2) := by decide +kernel
theorem dX5_keep_60 : decode cX5_keep 60 = .ok (.iaload, 1) := by decide +kernel
theorem dX5_keep_61 : decode cX5_keep 61 = .ok (.ireturn, 1) := by decide +kernel
theorem dX5_back_0 : decode cX5_back 0 = .ok (.aload_n 0, 1) := by decide +kernel
theorem dX5_back_1 : decode cX5_back 1 = .ok (.iconst 0, 1) := by decide +kernel
theorem dX5_back_2 : decode cX5_back 2 = .ok (.putfield 62, 3) := by decide +kernel
theorem dX5_back_5 : decode cX5_back 5 = .ok (.iload_n 1, 1) := by decide +kernel
theorem dX5_back_6 : decode cX5_back 6 = .ok (.iconst 0, 1) := by decide +kernel
theorem dX5_back_7 : decode cX5_back 7 = .ok (.iconst 1, 1) := by decide +kernel
theorem dX5_back_8 : decode cX5_back 8 = .ok (.invokestatic 66, 3) := by decide +kernel
theorem dX5_back_11 : decode cX5_back 11 = .ok (.ifCond .ne 5, 3) := by decide +kernel
theorem dX5_back_14 : decode cX5_back 14 = .ok (.iconst (-1), 1) := by decide +kernel
theorem dX5_back_15 : decode cX5_back 15 = .ok (.ireturn, 1) := by decide +kernel
theorem dX5_back_16 : decode cX5_back 16 = .ok (.aload_n 0, 1) := by decide +kernel
theorem dX5_back_17 : decode cX5_back 17 = .ok (.getfield 43, 3) := by decide +kernel
theorem dX5_back_20 : decode cX5_back 20 = .ok (.iload_n 1, 1) := by decide +kernel
theorem dX5_back_21 : decode cX5_back 21 = .ok (.baload, 1) := by decide +kernel
theorem dX5_back_22 : decode cX5_back 22 = .ok (.ifCond .ne 6, 3) := by decide +kernel
theorem dX5_back_25 : decode cX5_back 25 = .ok (.bipush (-2), 2) := by decide +kernel
theorem dX5_back_27 : decode cX5_back 27 = .ok (.ireturn, 1) := by decide +kernel
theorem dX5_back_28 : decode cX5_back 28 = .ok (.iconst 0, 1) := by decide +kernel
theorem dX5_back_29 : decode cX5_back 29 = .ok (.istore_n 2, 1) := by decide +kernel
theorem dX5_back_30 : decode cX5_back 30 = .ok (.iload_n 2, 1) := by decide +kernel
theorem dX5_back_31 : decode cX5_back 31 = .ok (.bipush 32, 2) := by decide +kernel
theorem dX5_back_33 : decode cX5_back 33 = .ok (.if_icmp .ge 26, 3) := by decide +kernel
theorem dX5_back_36 : decode cX5_back 36 = .ok (.aload_n 0, 1) := by decide +kernel
theorem dX5_back_37 : decode cX5_back 37 = .ok (.getfield 34, 3) := by decide +kernel
theorem dX5_back_40 : decode cX5_back 40 = .ok (.iload_n 2, 1) := by decide +kernel
theorem dX5_back_41 : decode cX5_back 41 = .ok (.aload_n 0, 1) := by decide +kernel
theorem dX5_back_42 : decode cX5_back 42 = .ok (.getfield 40, 3) := by decide +kernel
theorem dX5_back_45 : decode cX5_back 45 = .ok (.bipush 32, 2) := by decide +kernel
theorem dX5_back_47 : decode cX5_back 47 = .ok (.iload_n 1, 1) := by decide +kernel
theorem dX5_back_48 : decode cX5_back 48 = .ok (.imul, 1) := by decide +kernel
theorem dX5_back_49 : decode cX5_back 49 = .ok (.iload_n 2, 1) := by decide +kernel
theorem dX5_back_50 : decode cX5_back 50 = .ok (.iadd, 1) := by decide +kernel
theorem dX5_back_51 : decode cX5_back 51 = .ok (.iaload, 1) := by decide +kernel
theorem dX5_back_52 : decode cX5_back 52 = .ok (.iastore, 1) := by decide +kernel
theorem dX5_back_53 : decode cX5_back 53 = .ok (.iinc 2 1, 3) := by decide +kernel
theorem dX5_back_56 : decode cX5_back 56 = .ok (.goto (-26), 3) := by decide +kernel
theorem dX5_back_59 : decode cX5_back 59 = .ok (.aload_n 0, 1) := by decide +kernel
theorem dX5_back_60 : decode cX5_back 60 = .ok (.iconst 0, 1) := by decide +kernel
theorem dX5_back_61 : decode cX5_back 61 = .ok (.putfield 117, 3) := by decide +kernel
theorem dX5_back_64 : decode cX5_back 64 = .ok (.aload_n 0, 1) := by decide +kernel
theorem dX5_back_65 : decode cX5_back 65 = .ok (.getfield 34, 3) := by decide +kernel
theorem dX5_back_68 : decode cX5_back 68 = .ok (.bipush 31, 2) := by decide +kernel
theorem dX5_back_70 : decode cX5_back 70 = .ok (.iaload, 1) := by decide +kernel
theorem dX5_back_71 : decode cX5_back 71 = .ok (.ireturn, 1) := by decide +kernel
theorem dX5_count_0 : decode cX5_count 0 = .ok (.aload_n 0, 1) := by decide +kernel
theorem dX5_count_1 : decode cX5_count 1 = .ok (.iconst 0, 1) := by decide +kernel
theorem dX5_count_2 : decode cX5_count 2 = .ok (.putfield 62, 3) := by decide +kernel
theorem dX5_count_5 : decode cX5_count 5 = .ok (.iload_n 1, 1) := by decide +kernel
theorem dX5_count_6 : decode cX5_count 6 = .ok (.iconst 0, 1) := by decide +kernel
theorem dX5_count_7 : decode cX5_count 7 = .ok (.iconst 1, 1) := by decide +kernel
theorem dX5_count_8 : decode cX5_count 8 = .ok (.invokestatic 66, 3) := by decide +kernel
theorem dX5_count_11 : decode cX5_count 11 = .ok (.ifCond .eq 12, 3) := by decide +kernel
theorem dX5_count_14 : decode cX5_count 14 = .ok (.aload_n 0, 1) := by decide +kernel
theorem dX5_count_15 : decode cX5_count 15 = .ok (.getfield 13, 3) := by decide +kernel
theorem dX5_count_18 : decode cX5_count 18 = .ok (.iload_n 1, 1) := by decide +kernel
theorem dX5_count_19 : decode cX5_count 19 = .ok (.iaload, 1) := by decide +kernel
theorem dX5_count_20 : decode cX5_count 20 = .ok (.goto 28, 3) := by decide +kernel
theorem dX5_count_23 : decode cX5_count 23 = .ok (.iload_n 1, 1) := by decide +kernel
theorem dX5_count_24 : decode cX5_count 24 = .ok (.iconst 2, 1) := by decide +kernel
theorem dX5_count_25 : decode cX5_count 25 = .ok (.if_icmp .ne 10, 3) := by decide +kernel
theorem dX5_count_28 : decode cX5_count 28 = .ok (.aload_n 0, 1) := by decide +kernel
theorem dX5_count_29 : decode cX5_count 29 = .ok (.getfield 114, 3) := by decide +kernel
theorem dX5_count_32 : decode cX5_count 32 = .ok (.goto 16, 3) := by decide +kernel
theorem dX5_count_35 : decode cX5_count 35 = .ok (.iload_n 1, 1) := by decide +kernel
theorem dX5_count_36 : decode cX5_count 36 = .ok (.iconst 3, 1) := by decide +kernel
theorem dX5_count_37 : decode cX5_count 37 = .ok (.if_icmp .ne 10, 3) := by decide +kernel
theorem dX5_count_40 : decode cX5_count 40 = .ok (.aload_n 0, 1) := by decide +kernel
theorem dX5_count_41 : decode cX5_count 41 = .ok (.getfield 70, 3) := by decide +kernel
theorem dX5_count_44 : decode cX5_count 44 = .ok (.goto 4, 3) := by decide +kernel
theorem dX5_count_47 : decode cX5_count 47 = .ok (.iconst (-1), 1) := by decide +kernel
theorem dX5_count_48 : decode cX5_count 48 = .ok (.ireturn, 1) := by decide +kernel
theorem dX5_trace_0 : decode cX5_trace 0 = .ok (.aload_n 0, 1) := by decide +kernel
theorem dX5_trace_1 : decode cX5_trace 1 = .ok (.iconst 0, 1) := by decide +kernel
theorem dX5_trace_2 : decode cX5_trace 2 = .ok (.putfield 62, 3) := by decide +kernel
theorem dX5_trace_5 : decode cX5_trace 5 = .ok (.aload_n 0, 1) := by decide +kernel
theorem dX5_trace_6 : decode cX5_trace 6 = .ok (.getfield 193, 3) := by decide +kernel
theorem dX5_trace_9 : decode cX5_trace 9 = .ok (.lreturn, 1) := by decide +kernel
end
section
theorem dL_law_0 : decode cL_law 0 = .ok (.new 7, 3) := by decide +kernel
theorem dL_law_3 : decode cL_law 3 = .ok (.dup, 1) := by decide +kernel
theorem dL_law_4 : decode cL_law 4 = .ok (.invokespecial 9, 3) := by decide +kernel
theorem dL_law_7 : decode cL_law 7 = .ok (.astore_n 1, 1) := by decide +kernel
theorem dL_law_8 : decode cL_law 8 = .ok (.new 10, 3) := by decide +kernel
theorem dL_law_11 : decode cL_law 11 = .ok (.dup, 1) := by decide +kernel
theorem dL_law_12 : decode cL_law 12 = .ok (.invokespecial 12, 3) := by decide +kernel
theorem dL_law_15 : decode cL_law 15 = .ok (.astore_n 2, 1) := by decide +kernel
theorem dL_law_16 : decode cL_law 16 = .ok (.iconst 0, 1) := by decide +kernel
theorem dL_law_17 : decode cL_law 17 = .ok (.istore_n 3, 1) := by decide +kernel
theorem dL_law_18 : decode cL_law 18 = .ok (.iload_n 3, 1) := by decide +kernel
theorem dL_law_19 : decode cL_law 19 = .ok (.aload_n 0, 1) := by decide +kernel
theorem dL_law_20 : decode cL_law 20 = .ok (.arraylength, 1) := by decide +kernel
theorem dL_law_21 : decode cL_law 21 = .ok (.bipush 6, 2) := by decide +kernel
theorem dL_law_23 : decode cL_law 23 = .ok (.isub, 1) := by decide +kernel
theorem dL_law_24 : decode cL_law 24 = .ok (.if_icmp .gt 1015, 3) := by decide +kernel
theorem dL_law_27 : decode cL_law 27 = .ok (.aload_n 0, 1) := by decide +kernel
theorem dL_law_28 : decode cL_law 28 = .ok (.iload_n 3, 1) := by decide +kernel
theorem dL_law_29 : decode cL_law 29 = .ok (.iaload, 1) := by decide +kernel
theorem dL_law_30 : decode cL_law 30 = .ok (.bipush 31, 2) := by decide +kernel
theorem dL_law_32 : decode cL_law 32 = .ok (.iand, 1) := by decide +kernel
theorem dL_law_33 : decode cL_law 33 = .ok (.tableswitch 1000 0 31 #[143, 166, 179, 192, 225, 258, 291, 324, 347, 380, 403, 436, 469, 502, 515, 528, 571, 604, 627, 650, 673, 706, 719, 742, 805, 838, 851, 884, 917, 940, 963, 986], 143) := by decide +kernel
theorem dL_law_176 : decode cL_law 176 = .ok (.aload_n 1, 1) := by decide +kernel
theorem dL_law_177 : decode cL_law 177 = .ok (.aload_n 0, 1) := by decide +kernel
theorem dL_law_178 : decode cL_law 178 = .ok (.iload_n 3, 1) := by decide +kernel
theorem dL_law_179 : decode cL_law 179 = .ok (.iconst 1, 1) := by decide +kernel
theorem dL_law_180 : decode cL_law 180 = .ok (.iadd, 1) := by decide +kernel
theorem dL_law_181 : decode cL_law 181 = .ok (.iaload, 1) := by decide +kernel
theorem dL_law_182 : decode cL_law 182 = .ok (.invokevirtual 13, 3) := by decide +kernel
theorem dL_law_185 : decode cL_law 185 = .ok (.aload_n 2, 1) := by decide +kernel
theorem dL_law_186 : decode cL_law 186 = .ok (.aload_n 0, 1) := by decide +kernel
theorem dL_law_187 : decode cL_law 187 = .ok (.iload_n 3, 1) := by decide +kernel
theorem dL_law_188 : decode cL_law 188 = .ok (.iconst 1, 1) := by decide +kernel
theorem dL_law_189 : decode cL_law 189 = .ok (.iadd, 1) := by decide +kernel
theorem dL_law_190 : decode cL_law 190 = .ok (.iaload, 1) := by decide +kernel
theorem dL_law_191 : decode cL_law 191 = .ok (.invokevirtual 17, 3) := by decide +kernel
theorem dL_law_194 : decode cL_law 194 = .ok (.if_icmp .eq 839, 3) := by decide +kernel
theorem dL_law_197 : decode cL_law 197 = .ok (.iconst 0, 1) := by decide +kernel
theorem dL_law_198 : decode cL_law 198 = .ok (.ireturn, 1) := by decide +kernel
theorem dL_law_199 : decode cL_law 199 = .ok (.aload_n 1, 1) := by decide +kernel
theorem dL_law_200 : decode cL_law 200 = .ok (.invokevirtual 18, 3) := by decide +kernel
theorem dL_law_203 : decode cL_law 203 = .ok (.aload_n 2, 1) := by decide +kernel
theorem dL_law_204 : decode cL_law 204 = .ok (.invokevirtual 22, 3) := by decide +kernel
theorem dL_law_207 : decode cL_law 207 = .ok (.if_icmp .eq 826, 3) := by decide +kernel
theorem dL_law_210 : decode cL_law 210 = .ok (.iconst 0, 1) := by decide +kernel
theorem dL_law_211 : decode cL_law 211 = .ok (.ireturn, 1) := by decide +kernel
theorem dL_law_212 : decode cL_law 212 = .ok (.aload_n 1, 1) := by decide +kernel
theorem dL_law_213 : decode cL_law 213 = .ok (.invokevirtual 23, 3) := by decide +kernel
theorem dL_law_216 : decode cL_law 216 = .ok (.aload_n 2, 1) := by decide +kernel
theorem dL_law_217 : decode cL_law 217 = .ok (.invokevirtual 26, 3) := by decide +kernel
theorem dL_law_220 : decode cL_law 220 = .ok (.if_icmp .eq 813, 3) := by decide +kernel
theorem dL_law_223 : decode cL_law 223 = .ok (.iconst 0, 1) := by decide +kernel
theorem dL_law_224 : decode cL_law 224 = .ok (.ireturn, 1) := by decide +kernel
theorem dL_law_225 : decode cL_law 225 = .ok (.aload_n 1, 1) := by decide +kernel
theorem dL_law_226 : decode cL_law 226 = .ok (.aload_n 0, 1) := by decide +kernel
theorem dL_law_227 : decode cL_law 227 = .ok (.iload_n 3, 1) := by decide +kernel
theorem dL_law_228 : decode cL_law 228 = .ok (.iconst 1, 1) := by decide +kernel
theorem dL_law_229 : decode cL_law 229 = .ok (.iadd, 1) := by decide +kernel
theorem dL_law_230 : decode cL_law 230 = .ok (.iaload, 1) := by decide +kernel
theorem dL_law_231 : decode cL_law 231 = .ok (.aload_n 0, 1) := by decide +kernel
theorem dL_law_232 : decode cL_law 232 = .ok (.iload_n 3, 1) := by decide +kernel
theorem dL_law_233 : decode cL_law 233 = .ok (.iconst 2, 1) := by decide +kernel
theorem dL_law_234 : decode cL_law 234 = .ok (.iadd, 1) := by decide +kernel
theorem dL_law_235 : decode cL_law 235 = .ok (.iaload, 1) := by decide +kernel
theorem dL_law_236 : decode cL_law 236 = .ok (.invokevirtual 27, 3) := by decide +kernel
theorem dL_law_239 : decode cL_law 239 = .ok (.aload_n 2, 1) := by decide +kernel
theorem dL_law_240 : decode cL_law 240 = .ok (.aload_n 0, 1) := by decide +kernel
theorem dL_law_241 : decode cL_law 241 = .ok (.iload_n 3, 1) := by decide +kernel
theorem dL_law_242 : decode cL_law 242 = .ok (.iconst 1, 1) := by decide +kernel
theorem dL_law_243 : decode cL_law 243 = .ok (.iadd, 1) := by decide +kernel
theorem dL_law_244 : decode cL_law 244 = .ok (.iaload, 1) := by decide +kernel
theorem dL_law_245 : decode cL_law 245 = .ok (.aload_n 0, 1) := by decide +kernel
theorem dL_law_246 : decode cL_law 246 = .ok (.iload_n 3, 1) := by decide +kernel
theorem dL_law_247 : decode cL_law 247 = .ok (.iconst 2, 1) := by decide +kernel
theorem dL_law_248 : decode cL_law 248 = .ok (.iadd, 1) := by decide +kernel
theorem dL_law_249 : decode cL_law 249 = .ok (.iaload, 1) := by decide +kernel
theorem dL_law_250 : decode cL_law 250 = .ok (.invokevirtual 31, 3) := by decide +kernel
theorem dL_law_253 : decode cL_law 253 = .ok (.if_icmp .eq 780, 3) := by decide +kernel
theorem dL_law_256 : decode cL_law 256 = .ok (.iconst 0, 1) := by decide +kernel
theorem dL_law_257 : decode cL_law 257 = .ok (.ireturn, 1) := by decide +kernel
theorem dL_law_258 : decode cL_law 258 = .ok (.aload_n 1, 1) := by decide +kernel
theorem dL_law_259 : decode cL_law 259 = .ok (.aload_n 0, 1) := by decide +kernel
theorem dL_law_260 : decode cL_law 260 = .ok (.iload_n 3, 1) := by decide +kernel
theorem dL_law_261 : decode cL_law 261 = .ok (.iconst 1, 1) := by decide +kernel
theorem dL_law_262 : decode cL_law 262 = .ok (.iadd, 1) := by decide +kernel
theorem dL_law_263 : decode cL_law 263 = .ok (.iaload, 1) := by decide +kernel
theorem dL_law_264 : decode cL_law 264 = .ok (.aload_n 0, 1) := by decide +kernel
theorem dL_law_265 : decode cL_law 265 = .ok (.iload_n 3, 1) := by decide +kernel
theorem dL_law_266 : decode cL_law 266 = .ok (.iconst 2, 1) := by decide +kernel
theorem dL_law_267 : decode cL_law 267 = .ok (.iadd, 1) := by decide +kernel
theorem dL_law_268 : decode cL_law 268 = .ok (.iaload, 1) := by decide +kernel
theorem dL_law_269 : decode cL_law 269 = .ok (.invokevirtual 32, 3) := by decide +kernel
theorem dL_law_272 : decode cL_law 272 = .ok (.aload_n 2, 1) := by decide +kernel
theorem dL_law_273 : decode cL_law 273 = .ok (.aload_n 0, 1) := by decide +kernel
theorem dL_law_274 : decode cL_law 274 = .ok (.iload_n 3, 1) := by decide +kernel
theorem dL_law_275 : decode cL_law 275 = .ok (.iconst 1, 1) := by decide +kernel
theorem dL_law_276 : decode cL_law 276 = .ok (.iadd, 1) := by decide +kernel
theorem dL_law_277 : decode cL_law 277 = .ok (.iaload, 1) := by decide +kernel
theorem dL_law_278 : decode cL_law 278 = .ok (.aload_n 0, 1) := by decide +kernel
theorem dL_law_279 : decode cL_law 279 = .ok (.iload_n 3, 1) := by decide +kernel
theorem dL_law_280 : decode cL_law 280 = .ok (.iconst 2, 1) := by decide +kernel
theorem dL_law_281 : decode cL_law 281 = .ok (.iadd, 1) := by decide +kernel
theorem dL_law_282 : decode cL_law 282 = .ok (.iaload, 1) := by decide +kernel
theorem dL_law_283 : decode cL_law 283 = .ok (.invokevirtual 35, 3) := by decide +kernel
theorem dL_law_286 : decode cL_law 286 = .ok (.if_icmp .eq 747, 3) := by decide +kernel
theorem dL_law_289 : decode cL_law 289 = .ok (.iconst 0, 1) := by decide +kernel
theorem dL_law_290 : decode cL_law 290 = .ok (.ireturn, 1) := by decide +kernel
theorem dL_law_291 : decode cL_law 291 = .ok (.aload_n 1, 1) := by decide +kernel
theorem dL_law_292 : decode cL_law 292 = .ok (.aload_n 0, 1) := by decide +kernel
theorem dL_law_293 : decode cL_law 293 = .ok (.iload_n 3, 1) := by decide +kernel
theorem dL_law_294 : decode cL_law 294 = .ok (.iconst 1, 1) := by decide +kernel
theorem dL_law_295 : decode cL_law 295 = .ok (.iadd, 1) := by decide +kernel
theorem dL_law_296 : decode cL_law 296 = .ok (.iaload, 1) := by decide +kernel
theorem dL_law_297 : decode cL_law 297 = .ok (.aload_n 0, 1) := by decide +kernel
theorem dL_law_298 : decode cL_law 298 = .ok (.iload_n 3, 1) := by decide +kernel
theorem dL_law_299 : decode cL_law 299 = .ok (.iconst 2, 1) := by decide +kernel
theorem dL_law_300 : decode cL_law 300 = .ok (.iadd, 1) := by decide +kernel
theorem dL_law_301 : decode cL_law 301 = .ok (.iaload, 1) := by decide +kernel
theorem dL_law_302 : decode cL_law 302 = .ok (.invokevirtual 36, 3) := by decide +kernel
theorem dL_law_305 : decode cL_law 305 = .ok (.aload_n 2, 1) := by decide +kernel
theorem dL_law_306 : decode cL_law 306 = .ok (.aload_n 0, 1) := by decide +kernel
theorem dL_law_307 : decode cL_law 307 = .ok (.iload_n 3, 1) := by decide +kernel
theorem dL_law_308 : decode cL_law 308 = .ok (.iconst 1, 1) := by decide +kernel
theorem dL_law_309 : decode cL_law 309 = .ok (.iadd, 1) := by decide +kernel
theorem dL_law_310 : decode cL_law 310 = .ok (.iaload, 1) := by decide +kernel
theorem dL_law_311 : decode cL_law 311 = .ok (.aload_n 0, 1) := by decide +kernel
theorem dL_law_312 : decode cL_law 312 = .ok (.iload_n 3, 1) := by decide +kernel
theorem dL_law_313 : decode cL_law 313 = .ok (.iconst 2, 1) := by decide +kernel
theorem dL_law_314 : decode cL_law 314 = .ok (.iadd, 1) := by decide +kernel
theorem dL_law_315 : decode cL_law 315 = .ok (.iaload, 1) := by decide +kernel
theorem dL_law_316 : decode cL_law 316 = .ok (.invokevirtual 39, 3) := by decide +kernel
theorem dL_law_319 : decode cL_law 319 = .ok (.if_icmp .eq 714, 3) := by decide +kernel
theorem dL_law_322 : decode cL_law 322 = .ok (.iconst 0, 1) := by decide +kernel
theorem dL_law_323 : decode cL_law 323 = .ok (.ireturn, 1) := by decide +kernel
theorem dL_law_324 : decode cL_law 324 = .ok (.aload_n 1, 1) := by decide +kernel
theorem dL_law_325 : decode cL_law 325 = .ok (.aload_n 0, 1) := by decide +kernel
theorem dL_law_326 : decode cL_law 326 = .ok (.iload_n 3, 1) := by decide +kernel
theorem dL_law_327 : decode cL_law 327 = .ok (.iconst 1, 1) := by decide +kernel
theorem dL_law_328 : decode cL_law 328 = .ok (.iadd, 1) := by decide +kernel
theorem dL_law_329 : decode cL_law 329 = .ok (.iaload, 1) := by decide +kernel
theorem dL_law_330 : decode cL_law 330 = .ok (.aload_n 0, 1) := by decide +kernel
theorem dL_law_331 : decode cL_law 331 = .ok (.iload_n 3, 1) := by decide +kernel
theorem dL_law_332 : decode cL_law 332 = .ok (.iconst 2, 1) := by decide +kernel
theorem dL_law_333 : decode cL_law 333 = .ok (.iadd, 1) := by decide +kernel
theorem dL_law_334 : decode cL_law 334 = .ok (.iaload, 1) := by decide +kernel
theorem dL_law_335 : decode cL_law 335 = .ok (.invokevirtual 40, 3) := by decide +kernel
theorem dL_law_338 : decode cL_law 338 = .ok (.aload_n 2, 1) := by decide +kernel
theorem dL_law_339 : decode cL_law 339 = .ok (.aload_n 0, 1) := by decide +kernel
theorem dL_law_340 : decode cL_law 340 = .ok (.iload_n 3, 1) := by decide +kernel
theorem dL_law_341 : decode cL_law 341 = .ok (.iconst 1, 1) := by decide +kernel
theorem dL_law_342 : decode cL_law 342 = .ok (.iadd, 1) := by decide +kernel
theorem dL_law_343 : decode cL_law 343 = .ok (.iaload, 1) := by decide +kernel
theorem dL_law_344 : decode cL_law 344 = .ok (.aload_n 0, 1) := by decide +kernel
theorem dL_law_345 : decode cL_law 345 = .ok (.iload_n 3, 1) := by decide +kernel
theorem dL_law_346 : decode cL_law 346 = .ok (.iconst 2, 1) := by decide +kernel
theorem dL_law_347 : decode cL_law 347 = .ok (.iadd, 1) := by decide +kernel
theorem dL_law_348 : decode cL_law 348 = .ok (.iaload, 1) := by decide +kernel
theorem dL_law_349 : decode cL_law 349 = .ok (.invokevirtual 43, 3) := by decide +kernel
theorem dL_law_352 : decode cL_law 352 = .ok (.if_icmp .eq 681, 3) := by decide +kernel
theorem dL_law_355 : decode cL_law 355 = .ok (.iconst 0, 1) := by decide +kernel
theorem dL_law_356 : decode cL_law 356 = .ok (.ireturn, 1) := by decide +kernel
theorem dL_law_357 : decode cL_law 357 = .ok (.aload_n 1, 1) := by decide +kernel
theorem dL_law_358 : decode cL_law 358 = .ok (.aload_n 0, 1) := by decide +kernel
theorem dL_law_359 : decode cL_law 359 = .ok (.iload_n 3, 1) := by decide +kernel
theorem dL_law_360 : decode cL_law 360 = .ok (.iconst 1, 1) := by decide +kernel
theorem dL_law_361 : decode cL_law 361 = .ok (.iadd, 1) := by decide +kernel
theorem dL_law_362 : decode cL_law 362 = .ok (.iaload, 1) := by decide +kernel
theorem dL_law_363 : decode cL_law 363 = .ok (.invokevirtual 44, 3) := by decide +kernel
theorem dL_law_366 : decode cL_law 366 = .ok (.aload_n 2, 1) := by decide +kernel
theorem dL_law_367 : decode cL_law 367 = .ok (.aload_n 0, 1) := by decide +kernel
theorem dL_law_368 : decode cL_law 368 = .ok (.iload_n 3, 1) := by decide +kernel
theorem dL_law_369 : decode cL_law 369 = .ok (.iconst 1, 1) := by decide +kernel
theorem dL_law_370 : decode cL_law 370 = .ok (.iadd, 1) := by decide +kernel
theorem dL_law_371 : decode cL_law 371 = .ok (.iaload, 1) := by decide +kernel
theorem dL_law_372 : decode cL_law 372 = .ok (.invokevirtual 47, 3) := by decide +kernel
theorem dL_law_375 : decode cL_law 375 = .ok (.if_icmp .eq 658, 3) := by decide +kernel
theorem dL_law_378 : decode cL_law 378 = .ok (.iconst 0, 1) := by decide +kernel
theorem dL_law_379 : decode cL_law 379 = .ok (.ireturn, 1) := by decide +kernel
theorem dL_law_380 : decode cL_law 380 = .ok (.aload_n 1, 1) := by decide +kernel
theorem dL_law_381 : decode cL_law 381 = .ok (.aload_n 0, 1) := by decide +kernel
theorem dL_law_382 : decode cL_law 382 = .ok (.iload_n 3, 1) := by decide +kernel
theorem dL_law_383 : decode cL_law 383 = .ok (.iconst 1, 1) := by decide +kernel
theorem dL_law_384 : decode cL_law 384 = .ok (.iadd, 1) := by decide +kernel
theorem dL_law_385 : decode cL_law 385 = .ok (.iaload, 1) := by decide +kernel
theorem dL_law_386 : decode cL_law 386 = .ok (.aload_n 0, 1) := by decide +kernel
theorem dL_law_387 : decode cL_law 387 = .ok (.iload_n 3, 1) := by decide +kernel
theorem dL_law_388 : decode cL_law 388 = .ok (.iconst 2, 1) := by decide +kernel
theorem dL_law_389 : decode cL_law 389 = .ok (.iadd, 1) := by decide +kernel
theorem dL_law_390 : decode cL_law 390 = .ok (.iaload, 1) := by decide +kernel
theorem dL_law_391 : decode cL_law 391 = .ok (.invokevirtual 48, 3) := by decide +kernel
theorem dL_law_394 : decode cL_law 394 = .ok (.aload_n 2, 1) := by decide +kernel
theorem dL_law_395 : decode cL_law 395 = .ok (.aload_n 0, 1) := by decide +kernel
theorem dL_law_396 : decode cL_law 396 = .ok (.iload_n 3, 1) := by decide +kernel
theorem dL_law_397 : decode cL_law 397 = .ok (.iconst 1, 1) := by decide +kernel
theorem dL_law_398 : decode cL_law 398 = .ok (.iadd, 1) := by decide +kernel
theorem dL_law_399 : decode cL_law 399 = .ok (.iaload, 1) := by decide +kernel
theorem dL_law_400 : decode cL_law 400 = .ok (.aload_n 0, 1) := by decide +kernel
theorem dL_law_401 : decode cL_law 401 = .ok (.iload_n 3, 1) := by decide +kernel
theorem dL_law_402 : decode cL_law 402 = .ok (.iconst 2, 1) := by decide +kernel
theorem dL_law_403 : decode cL_law 403 = .ok (.iadd, 1) := by decide +kernel
theorem dL_law_404 : decode cL_law 404 = .ok (.iaload, 1) := by decide +kernel
theorem dL_law_405 : decode cL_law 405 = .ok (.invokevirtual 51, 3) := by decide +kernel
theorem dL_law_408 : decode cL_law 408 = .ok (.if_icmp .eq 625, 3) := by decide +kernel
theorem dL_law_411 : decode cL_law 411 = .ok (.iconst 0, 1) := by decide +kernel
theorem dL_law_412 : decode cL_law 412 = .ok (.ireturn, 1) := by decide +kernel
theorem dL_law_413 : decode cL_law 413 = .ok (.aload_n 1, 1) := by decide +kernel
theorem dL_law_414 : decode cL_law 414 = .ok (.aload_n 0, 1) := by decide +kernel
theorem dL_law_415 : decode cL_law 415 = .ok (.iload_n 3, 1) := by decide +kernel
theorem dL_law_416 : decode cL_law 416 = .ok (.iconst 1, 1) := by decide +kernel
theorem dL_law_417 : decode cL_law 417 = .ok (.iadd, 1) := by decide +kernel
theorem dL_law_418 : decode cL_law 418 = .ok (.iaload, 1) := by decide +kernel
theorem dL_law_419 : decode cL_law 419 = .ok (.invokevirtual 52, 3) := by decide +kernel
theorem dL_law_422 : decode cL_law 422 = .ok (.aload_n 2, 1) := by decide +kernel
theorem dL_law_423 : decode cL_law 423 = .ok (.aload_n 0, 1) := by decide +kernel
theorem dL_law_424 : decode cL_law 424 = .ok (.iload_n 3, 1) := by decide +kernel
theorem dL_law_425 : decode cL_law 425 = .ok (.iconst 1, 1) := by decide +kernel
theorem dL_law_426 : decode cL_law 426 = .ok (.iadd, 1) := by decide +kernel
theorem dL_law_427 : decode cL_law 427 = .ok (.iaload, 1) := by decide +kernel
theorem dL_law_428 : decode cL_law 428 = .ok (.invokevirtual 55, 3) := by decide +kernel
theorem dL_law_431 : decode cL_law 431 = .ok (.if_icmp .eq 602, 3) := by decide +kernel
theorem dL_law_434 : decode cL_law 434 = .ok (.iconst 0, 1) := by decide +kernel
theorem dL_law_435 : decode cL_law 435 = .ok (.ireturn, 1) := by decide +kernel
theorem dL_law_436 : decode cL_law 436 = .ok (.aload_n 1, 1) := by decide +kernel
theorem dL_law_437 : decode cL_law 437 = .ok (.aload_n 0, 1) := by decide +kernel
theorem dL_law_438 : decode cL_law 438 = .ok (.iload_n 3, 1) := by decide +kernel
theorem dL_law_439 : decode cL_law 439 = .ok (.iconst 1, 1) := by decide +kernel
theorem dL_law_440 : decode cL_law 440 = .ok (.iadd, 1) := by decide +kernel
theorem dL_law_441 : decode cL_law 441 = .ok (.iaload, 1) := by decide +kernel
theorem dL_law_442 : decode cL_law 442 = .ok (.aload_n 0, 1) := by decide +kernel
theorem dL_law_443 : decode cL_law 443 = .ok (.iload_n 3, 1) := by decide +kernel
theorem dL_law_444 : decode cL_law 444 = .ok (.iconst 2, 1) := by decide +kernel
theorem dL_law_445 : decode cL_law 445 = .ok (.iadd, 1) := by decide +kernel
theorem dL_law_446 : decode cL_law 446 = .ok (.iaload, 1) := by decide +kernel
theorem dL_law_447 : decode cL_law 447 = .ok (.invokevirtual 56, 3) := by decide +kernel
theorem dL_law_450 : decode cL_law 450 = .ok (.aload_n 2, 1) := by decide +kernel
theorem dL_law_451 : decode cL_law 451 = .ok (.aload_n 0, 1) := by decide +kernel
theorem dL_law_452 : decode cL_law 452 = .ok (.iload_n 3, 1) := by decide +kernel
theorem dL_law_453 : decode cL_law 453 = .ok (.iconst 1, 1) := by decide +kernel
theorem dL_law_454 : decode cL_law 454 = .ok (.iadd, 1) := by decide +kernel
theorem dL_law_455 : decode cL_law 455 = .ok (.iaload, 1) := by decide +kernel
theorem dL_law_456 : decode cL_law 456 = .ok (.aload_n 0, 1) := by decide +kernel
theorem dL_law_457 : decode cL_law 457 = .ok (.iload_n 3, 1) := by decide +kernel
theorem dL_law_458 : decode cL_law 458 = .ok (.iconst 2, 1) := by decide +kernel
theorem dL_law_459 : decode cL_law 459 = .ok (.iadd, 1) := by decide +kernel
theorem dL_law_460 : decode cL_law 460 = .ok (.iaload, 1) := by decide +kernel
theorem dL_law_461 : decode cL_law 461 = .ok (.invokevirtual 59, 3) := by decide +kernel
theorem dL_law_464 : decode cL_law 464 = .ok (.if_icmp .eq 569, 3) := by decide +kernel
theorem dL_law_467 : decode cL_law 467 = .ok (.iconst 0, 1) := by decide +kernel
theorem dL_law_468 : decode cL_law 468 = .ok (.ireturn, 1) := by decide +kernel
theorem dL_law_469 : decode cL_law 469 = .ok (.aload_n 1, 1) := by decide +kernel
theorem dL_law_470 : decode cL_law 470 = .ok (.aload_n 0, 1) := by decide +kernel
theorem dL_law_471 : decode cL_law 471 = .ok (.iload_n 3, 1) := by decide +kernel
theorem dL_law_472 : decode cL_law 472 = .ok (.iconst 1, 1) := by decide +kernel
theorem dL_law_473 : decode cL_law 473 = .ok (.iadd, 1) := by decide +kernel
theorem dL_law_474 : decode cL_law 474 = .ok (.iaload, 1) := by decide +kernel
theorem dL_law_475 : decode cL_law 475 = .ok (.aload_n 0, 1) := by decide +kernel
theorem dL_law_476 : decode cL_law 476 = .ok (.iload_n 3, 1) := by decide +kernel
theorem dL_law_477 : decode cL_law 477 = .ok (.iconst 2, 1) := by decide +kernel
theorem dL_law_478 : decode cL_law 478 = .ok (.iadd, 1) := by decide +kernel
theorem dL_law_479 : decode cL_law 479 = .ok (.iaload, 1) := by decide +kernel
theorem dL_law_480 : decode cL_law 480 = .ok (.invokevirtual 60, 3) := by decide +kernel
theorem dL_law_483 : decode cL_law 483 = .ok (.aload_n 2, 1) := by decide +kernel
theorem dL_law_484 : decode cL_law 484 = .ok (.aload_n 0, 1) := by decide +kernel
theorem dL_law_485 : decode cL_law 485 = .ok (.iload_n 3, 1) := by decide +kernel
theorem dL_law_486 : decode cL_law 486 = .ok (.iconst 1, 1) := by decide +kernel
theorem dL_law_487 : decode cL_law 487 = .ok (.iadd, 1) := by decide +kernel
theorem dL_law_488 : decode cL_law 488 = .ok (.iaload, 1) := by decide +kernel
theorem dL_law_489 : decode cL_law 489 = .ok (.aload_n 0, 1) := by decide +kernel
theorem dL_law_490 : decode cL_law 490 = .ok (.iload_n 3, 1) := by decide +kernel
theorem dL_law_491 : decode cL_law 491 = .ok (.iconst 2, 1) := by decide +kernel
theorem dL_law_492 : decode cL_law 492 = .ok (.iadd, 1) := by decide +kernel
theorem dL_law_493 : decode cL_law 493 = .ok (.iaload, 1) := by decide +kernel
theorem dL_law_494 : decode cL_law 494 = .ok (.invokevirtual 63, 3) := by decide +kernel
theorem dL_law_497 : decode cL_law 497 = .ok (.if_icmp .eq 536, 3) := by decide +kernel
theorem dL_law_500 : decode cL_law 500 = .ok (.iconst 0, 1) := by decide +kernel
theorem dL_law_501 : decode cL_law 501 = .ok (.ireturn, 1) := by decide +kernel
theorem dL_law_502 : decode cL_law 502 = .ok (.aload_n 1, 1) := by decide +kernel
theorem dL_law_503 : decode cL_law 503 = .ok (.aload_n 0, 1) := by decide +kernel
theorem dL_law_504 : decode cL_law 504 = .ok (.iload_n 3, 1) := by decide +kernel
theorem dL_law_505 : decode cL_law 505 = .ok (.iconst 1, 1) := by decide +kernel
theorem dL_law_506 : decode cL_law 506 = .ok (.iadd, 1) := by decide +kernel
theorem dL_law_507 : decode cL_law 507 = .ok (.iaload, 1) := by decide +kernel
theorem dL_law_508 : decode cL_law 508 = .ok (.aload_n 0, 1) := by decide +kernel
theorem dL_law_509 : decode cL_law 509 = .ok (.iload_n 3, 1) := by decide +kernel
theorem dL_law_510 : decode cL_law 510 = .ok (.iconst 2, 1) := by decide +kernel
theorem dL_law_511 : decode cL_law 511 = .ok (.iadd, 1) := by decide +kernel
theorem dL_law_512 : decode cL_law 512 = .ok (.iaload, 1) := by decide +kernel
theorem dL_law_513 : decode cL_law 513 = .ok (.invokevirtual 64, 3) := by decide +kernel
theorem dL_law_516 : decode cL_law 516 = .ok (.aload_n 2, 1) := by decide +kernel
theorem dL_law_517 : decode cL_law 517 = .ok (.aload_n 0, 1) := by decide +kernel
theorem dL_law_518 : decode cL_law 518 = .ok (.iload_n 3, 1) := by decide +kernel
theorem dL_law_519 : decode cL_law 519 = .ok (.iconst 1, 1) := by decide +kernel
theorem dL_law_520 : decode cL_law 520 = .ok (.iadd, 1) := by decide +kernel
theorem dL_law_521 : decode cL_law 521 = .ok (.iaload, 1) := by decide +kernel
theorem dL_law_522 : decode cL_law 522 = .ok (.aload_n 0, 1) := by decide +kernel
theorem dL_law_523 : decode cL_law 523 = .ok (.iload_n 3, 1) := by decide +kernel
theorem dL_law_524 : decode cL_law 524 = .ok (.iconst 2, 1) := by decide +kernel
theorem dL_law_525 : decode cL_law 525 = .ok (.iadd, 1) := by decide +kernel
theorem dL_law_526 : decode cL_law 526 = .ok (.iaload, 1) := by decide +kernel
theorem dL_law_527 : decode cL_law 527 = .ok (.invokevirtual 67, 3) := by decide +kernel
theorem dL_law_530 : decode cL_law 530 = .ok (.if_icmp .eq 503, 3) := by decide +kernel
theorem dL_law_533 : decode cL_law 533 = .ok (.iconst 0, 1) := by decide +kernel
theorem dL_law_534 : decode cL_law 534 = .ok (.ireturn, 1) := by decide +kernel
theorem dL_law_535 : decode cL_law 535 = .ok (.aload_n 1, 1) := by decide +kernel
theorem dL_law_536 : decode cL_law 536 = .ok (.invokevirtual 68, 3) := by decide +kernel
theorem dL_law_539 : decode cL_law 539 = .ok (.aload_n 2, 1) := by decide +kernel
theorem dL_law_540 : decode cL_law 540 = .ok (.invokevirtual 71, 3) := by decide +kernel
theorem dL_law_543 : decode cL_law 543 = .ok (.if_icmp .eq 490, 3) := by decide +kernel
theorem dL_law_546 : decode cL_law 546 = .ok (.iconst 0, 1) := by decide +kernel
theorem dL_law_547 : decode cL_law 547 = .ok (.ireturn, 1) := by decide +kernel
theorem dL_law_548 : decode cL_law 548 = .ok (.aload_n 1, 1) := by decide +kernel
theorem dL_law_549 : decode cL_law 549 = .ok (.invokevirtual 72, 3) := by decide +kernel
theorem dL_law_552 : decode cL_law 552 = .ok (.aload_n 2, 1) := by decide +kernel
theorem dL_law_553 : decode cL_law 553 = .ok (.invokevirtual 75, 3) := by decide +kernel
theorem dL_law_556 : decode cL_law 556 = .ok (.if_icmp .eq 477, 3) := by decide +kernel
theorem dL_law_559 : decode cL_law 559 = .ok (.iconst 0, 1) := by decide +kernel
theorem dL_law_560 : decode cL_law 560 = .ok (.ireturn, 1) := by decide +kernel
theorem dL_law_561 : decode cL_law 561 = .ok (.aload_n 1, 1) := by decide +kernel
theorem dL_law_562 : decode cL_law 562 = .ok (.aload_n 0, 1) := by decide +kernel
theorem dL_law_563 : decode cL_law 563 = .ok (.iload_n 3, 1) := by decide +kernel
theorem dL_law_564 : decode cL_law 564 = .ok (.iconst 1, 1) := by decide +kernel
theorem dL_law_565 : decode cL_law 565 = .ok (.iadd, 1) := by decide +kernel
theorem dL_law_566 : decode cL_law 566 = .ok (.iaload, 1) := by decide +kernel
theorem dL_law_567 : decode cL_law 567 = .ok (.aload_n 0, 1) := by decide +kernel
theorem dL_law_568 : decode cL_law 568 = .ok (.iload_n 3, 1) := by decide +kernel
theorem dL_law_569 : decode cL_law 569 = .ok (.iconst 2, 1) := by decide +kernel
theorem dL_law_570 : decode cL_law 570 = .ok (.iadd, 1) := by decide +kernel
theorem dL_law_571 : decode cL_law 571 = .ok (.iaload, 1) := by decide +kernel
theorem dL_law_572 : decode cL_law 572 = .ok (.aload_n 0, 1) := by decide +kernel
theorem dL_law_573 : decode cL_law 573 = .ok (.iload_n 3, 1) := by decide +kernel
theorem dL_law_574 : decode cL_law 574 = .ok (.iconst 3, 1) := by decide +kernel
theorem dL_law_575 : decode cL_law 575 = .ok (.iadd, 1) := by decide +kernel
theorem dL_law_576 : decode cL_law 576 = .ok (.iaload, 1) := by decide +kernel
theorem dL_law_577 : decode cL_law 577 = .ok (.invokevirtual 76, 3) := by decide +kernel
theorem dL_law_580 : decode cL_law 580 = .ok (.aload_n 2, 1) := by decide +kernel
theorem dL_law_581 : decode cL_law 581 = .ok (.aload_n 0, 1) := by decide +kernel
theorem dL_law_582 : decode cL_law 582 = .ok (.iload_n 3, 1) := by decide +kernel
theorem dL_law_583 : decode cL_law 583 = .ok (.iconst 1, 1) := by decide +kernel
theorem dL_law_584 : decode cL_law 584 = .ok (.iadd, 1) := by decide +kernel
theorem dL_law_585 : decode cL_law 585 = .ok (.iaload, 1) := by decide +kernel
theorem dL_law_586 : decode cL_law 586 = .ok (.aload_n 0, 1) := by decide +kernel
theorem dL_law_587 : decode cL_law 587 = .ok (.iload_n 3, 1) := by decide +kernel
theorem dL_law_588 : decode cL_law 588 = .ok (.iconst 2, 1) := by decide +kernel
theorem dL_law_589 : decode cL_law 589 = .ok (.iadd, 1) := by decide +kernel
theorem dL_law_590 : decode cL_law 590 = .ok (.iaload, 1) := by decide +kernel
theorem dL_law_591 : decode cL_law 591 = .ok (.aload_n 0, 1) := by decide +kernel
theorem dL_law_592 : decode cL_law 592 = .ok (.iload_n 3, 1) := by decide +kernel
theorem dL_law_593 : decode cL_law 593 = .ok (.iconst 3, 1) := by decide +kernel
theorem dL_law_594 : decode cL_law 594 = .ok (.iadd, 1) := by decide +kernel
theorem dL_law_595 : decode cL_law 595 = .ok (.iaload, 1) := by decide +kernel
theorem dL_law_596 : decode cL_law 596 = .ok (.invokevirtual 80, 3) := by decide +kernel
theorem dL_law_599 : decode cL_law 599 = .ok (.if_icmp .eq 434, 3) := by decide +kernel
theorem dL_law_602 : decode cL_law 602 = .ok (.iconst 0, 1) := by decide +kernel
theorem dL_law_603 : decode cL_law 603 = .ok (.ireturn, 1) := by decide +kernel
theorem dL_law_604 : decode cL_law 604 = .ok (.aload_n 1, 1) := by decide +kernel
theorem dL_law_605 : decode cL_law 605 = .ok (.aload_n 0, 1) := by decide +kernel
theorem dL_law_606 : decode cL_law 606 = .ok (.iload_n 3, 1) := by decide +kernel
theorem dL_law_607 : decode cL_law 607 = .ok (.iconst 1, 1) := by decide +kernel
theorem dL_law_608 : decode cL_law 608 = .ok (.iadd, 1) := by decide +kernel
theorem dL_law_609 : decode cL_law 609 = .ok (.iaload, 1) := by decide +kernel
theorem dL_law_610 : decode cL_law 610 = .ok (.aload_n 0, 1) := by decide +kernel
theorem dL_law_611 : decode cL_law 611 = .ok (.iload_n 3, 1) := by decide +kernel
theorem dL_law_612 : decode cL_law 612 = .ok (.iconst 2, 1) := by decide +kernel
theorem dL_law_613 : decode cL_law 613 = .ok (.iadd, 1) := by decide +kernel
theorem dL_law_614 : decode cL_law 614 = .ok (.iaload, 1) := by decide +kernel
theorem dL_law_615 : decode cL_law 615 = .ok (.invokevirtual 81, 3) := by decide +kernel
theorem dL_law_618 : decode cL_law 618 = .ok (.aload_n 2, 1) := by decide +kernel
theorem dL_law_619 : decode cL_law 619 = .ok (.aload_n 0, 1) := by decide +kernel
theorem dL_law_620 : decode cL_law 620 = .ok (.iload_n 3, 1) := by decide +kernel
theorem dL_law_621 : decode cL_law 621 = .ok (.iconst 1, 1) := by decide +kernel
theorem dL_law_622 : decode cL_law 622 = .ok (.iadd, 1) := by decide +kernel
theorem dL_law_623 : decode cL_law 623 = .ok (.iaload, 1) := by decide +kernel
theorem dL_law_624 : decode cL_law 624 = .ok (.aload_n 0, 1) := by decide +kernel
theorem dL_law_625 : decode cL_law 625 = .ok (.iload_n 3, 1) := by decide +kernel
theorem dL_law_626 : decode cL_law 626 = .ok (.iconst 2, 1) := by decide +kernel
theorem dL_law_627 : decode cL_law 627 = .ok (.iadd, 1) := by decide +kernel
theorem dL_law_628 : decode cL_law 628 = .ok (.iaload, 1) := by decide +kernel
theorem dL_law_629 : decode cL_law 629 = .ok (.invokevirtual 84, 3) := by decide +kernel
theorem dL_law_632 : decode cL_law 632 = .ok (.if_icmp .eq 401, 3) := by decide +kernel
theorem dL_law_635 : decode cL_law 635 = .ok (.iconst 0, 1) := by decide +kernel
theorem dL_law_636 : decode cL_law 636 = .ok (.ireturn, 1) := by decide +kernel
theorem dL_law_637 : decode cL_law 637 = .ok (.aload_n 1, 1) := by decide +kernel
theorem dL_law_638 : decode cL_law 638 = .ok (.aload_n 0, 1) := by decide +kernel
theorem dL_law_639 : decode cL_law 639 = .ok (.iload_n 3, 1) := by decide +kernel
theorem dL_law_640 : decode cL_law 640 = .ok (.iconst 1, 1) := by decide +kernel
theorem dL_law_641 : decode cL_law 641 = .ok (.iadd, 1) := by decide +kernel
theorem dL_law_642 : decode cL_law 642 = .ok (.iaload, 1) := by decide +kernel
theorem dL_law_643 : decode cL_law 643 = .ok (.invokevirtual 85, 3) := by decide +kernel
theorem dL_law_646 : decode cL_law 646 = .ok (.aload_n 2, 1) := by decide +kernel
theorem dL_law_647 : decode cL_law 647 = .ok (.aload_n 0, 1) := by decide +kernel
theorem dL_law_648 : decode cL_law 648 = .ok (.iload_n 3, 1) := by decide +kernel
theorem dL_law_649 : decode cL_law 649 = .ok (.iconst 1, 1) := by decide +kernel
theorem dL_law_650 : decode cL_law 650 = .ok (.iadd, 1) := by decide +kernel
theorem dL_law_651 : decode cL_law 651 = .ok (.iaload, 1) := by decide +kernel
theorem dL_law_652 : decode cL_law 652 = .ok (.invokevirtual 88, 3) := by decide +kernel
theorem dL_law_655 : decode cL_law 655 = .ok (.if_icmp .eq 378, 3) := by decide +kernel
theorem dL_law_658 : decode cL_law 658 = .ok (.iconst 0, 1) := by decide +kernel
theorem dL_law_659 : decode cL_law 659 = .ok (.ireturn, 1) := by decide +kernel
theorem dL_law_660 : decode cL_law 660 = .ok (.aload_n 1, 1) := by decide +kernel
theorem dL_law_661 : decode cL_law 661 = .ok (.aload_n 0, 1) := by decide +kernel
theorem dL_law_662 : decode cL_law 662 = .ok (.iload_n 3, 1) := by decide +kernel
theorem dL_law_663 : decode cL_law 663 = .ok (.iconst 1, 1) := by decide +kernel
theorem dL_law_664 : decode cL_law 664 = .ok (.iadd, 1) := by decide +kernel
theorem dL_law_665 : decode cL_law 665 = .ok (.iaload, 1) := by decide +kernel
theorem dL_law_666 : decode cL_law 666 = .ok (.invokevirtual 89, 3) := by decide +kernel
theorem dL_law_669 : decode cL_law 669 = .ok (.aload_n 2, 1) := by decide +kernel
theorem dL_law_670 : decode cL_law 670 = .ok (.aload_n 0, 1) := by decide +kernel
theorem dL_law_671 : decode cL_law 671 = .ok (.iload_n 3, 1) := by decide +kernel
theorem dL_law_672 : decode cL_law 672 = .ok (.iconst 1, 1) := by decide +kernel
theorem dL_law_673 : decode cL_law 673 = .ok (.iadd, 1) := by decide +kernel
theorem dL_law_674 : decode cL_law 674 = .ok (.iaload, 1) := by decide +kernel
theorem dL_law_675 : decode cL_law 675 = .ok (.invokevirtual 92, 3) := by decide +kernel
theorem dL_law_678 : decode cL_law 678 = .ok (.if_icmp .eq 355, 3) := by decide +kernel
theorem dL_law_681 : decode cL_law 681 = .ok (.iconst 0, 1) := by decide +kernel
theorem dL_law_682 : decode cL_law 682 = .ok (.ireturn, 1) := by decide +kernel
theorem dL_law_683 : decode cL_law 683 = .ok (.aload_n 1, 1) := by decide +kernel
theorem dL_law_684 : decode cL_law 684 = .ok (.aload_n 0, 1) := by decide +kernel
theorem dL_law_685 : decode cL_law 685 = .ok (.iload_n 3, 1) := by decide +kernel
theorem dL_law_686 : decode cL_law 686 = .ok (.iconst 1, 1) := by decide +kernel
theorem dL_law_687 : decode cL_law 687 = .ok (.iadd, 1) := by decide +kernel
theorem dL_law_688 : decode cL_law 688 = .ok (.iaload, 1) := by decide +kernel
theorem dL_law_689 : decode cL_law 689 = .ok (.invokevirtual 93, 3) := by decide +kernel
theorem dL_law_692 : decode cL_law 692 = .ok (.aload_n 2, 1) := by decide +kernel
theorem dL_law_693 : decode cL_law 693 = .ok (.aload_n 0, 1) := by decide +kernel
theorem dL_law_694 : decode cL_law 694 = .ok (.iload_n 3, 1) := by decide +kernel
theorem dL_law_695 : decode cL_law 695 = .ok (.iconst 1, 1) := by decide +kernel
theorem dL_law_696 : decode cL_law 696 = .ok (.iadd, 1) := by decide +kernel
theorem dL_law_697 : decode cL_law 697 = .ok (.iaload, 1) := by decide +kernel
theorem dL_law_698 : decode cL_law 698 = .ok (.invokevirtual 96, 3) := by decide +kernel
theorem dL_law_701 : decode cL_law 701 = .ok (.if_icmp .eq 332, 3) := by decide +kernel
theorem dL_law_704 : decode cL_law 704 = .ok (.iconst 0, 1) := by decide +kernel
theorem dL_law_705 : decode cL_law 705 = .ok (.ireturn, 1) := by decide +kernel
theorem dL_law_706 : decode cL_law 706 = .ok (.aload_n 1, 1) := by decide +kernel
theorem dL_law_707 : decode cL_law 707 = .ok (.aload_n 0, 1) := by decide +kernel
theorem dL_law_708 : decode cL_law 708 = .ok (.iload_n 3, 1) := by decide +kernel
theorem dL_law_709 : decode cL_law 709 = .ok (.iconst 1, 1) := by decide +kernel
theorem dL_law_710 : decode cL_law 710 = .ok (.iadd, 1) := by decide +kernel
theorem dL_law_711 : decode cL_law 711 = .ok (.iaload, 1) := by decide +kernel
theorem dL_law_712 : decode cL_law 712 = .ok (.aload_n 0, 1) := by decide +kernel
theorem dL_law_713 : decode cL_law 713 = .ok (.iload_n 3, 1) := by decide +kernel
theorem dL_law_714 : decode cL_law 714 = .ok (.iconst 2, 1) := by decide +kernel
theorem dL_law_715 : decode cL_law 715 = .ok (.iadd, 1) := by decide +kernel
theorem dL_law_716 : decode cL_law 716 = .ok (.iaload, 1) := by decide +kernel
theorem dL_law_717 : decode cL_law 717 = .ok (.invokevirtual 97, 3) := by decide +kernel
theorem dL_law_720 : decode cL_law 720 = .ok (.aload_n 2, 1) := by decide +kernel
theorem dL_law_721 : decode cL_law 721 = .ok (.aload_n 0, 1) := by decide +kernel
theorem dL_law_722 : decode cL_law 722 = .ok (.iload_n 3, 1) := by decide +kernel
theorem dL_law_723 : decode cL_law 723 = .ok (.iconst 1, 1) := by decide +kernel
theorem dL_law_724 : decode cL_law 724 = .ok (.iadd, 1) := by decide +kernel
theorem dL_law_725 : decode cL_law 725 = .ok (.iaload, 1) := by decide +kernel
theorem dL_law_726 : decode cL_law 726 = .ok (.aload_n 0, 1) := by decide +kernel
theorem dL_law_727 : decode cL_law 727 = .ok (.iload_n 3, 1) := by decide +kernel
theorem dL_law_728 : decode cL_law 728 = .ok (.iconst 2, 1) := by decide +kernel
theorem dL_law_729 : decode cL_law 729 = .ok (.iadd, 1) := by decide +kernel
theorem dL_law_730 : decode cL_law 730 = .ok (.iaload, 1) := by decide +kernel
theorem dL_law_731 : decode cL_law 731 = .ok (.invokevirtual 100, 3) := by decide +kernel
theorem dL_law_734 : decode cL_law 734 = .ok (.if_icmp .eq 299, 3) := by decide +kernel
theorem dL_law_737 : decode cL_law 737 = .ok (.iconst 0, 1) := by decide +kernel
theorem dL_law_738 : decode cL_law 738 = .ok (.ireturn, 1) := by decide +kernel
theorem dL_law_739 : decode cL_law 739 = .ok (.aload_n 1, 1) := by decide +kernel
theorem dL_law_740 : decode cL_law 740 = .ok (.invokevirtual 101, 3) := by decide +kernel
theorem dL_law_743 : decode cL_law 743 = .ok (.aload_n 2, 1) := by decide +kernel
theorem dL_law_744 : decode cL_law 744 = .ok (.invokevirtual 104, 3) := by decide +kernel
theorem dL_law_747 : decode cL_law 747 = .ok (.if_icmp .eq 286, 3) := by decide +kernel
theorem dL_law_750 : decode cL_law 750 = .ok (.iconst 0, 1) := by decide +kernel
theorem dL_law_751 : decode cL_law 751 = .ok (.ireturn, 1) := by decide +kernel
theorem dL_law_752 : decode cL_law 752 = .ok (.aload_n 1, 1) := by decide +kernel
theorem dL_law_753 : decode cL_law 753 = .ok (.aload_n 0, 1) := by decide +kernel
theorem dL_law_754 : decode cL_law 754 = .ok (.iload_n 3, 1) := by decide +kernel
theorem dL_law_755 : decode cL_law 755 = .ok (.iconst 1, 1) := by decide +kernel
theorem dL_law_756 : decode cL_law 756 = .ok (.iadd, 1) := by decide +kernel
theorem dL_law_757 : decode cL_law 757 = .ok (.iaload, 1) := by decide +kernel
theorem dL_law_758 : decode cL_law 758 = .ok (.invokevirtual 105, 3) := by decide +kernel
theorem dL_law_761 : decode cL_law 761 = .ok (.aload_n 2, 1) := by decide +kernel
theorem dL_law_762 : decode cL_law 762 = .ok (.aload_n 0, 1) := by decide +kernel
theorem dL_law_763 : decode cL_law 763 = .ok (.iload_n 3, 1) := by decide +kernel
theorem dL_law_764 : decode cL_law 764 = .ok (.iconst 1, 1) := by decide +kernel
theorem dL_law_765 : decode cL_law 765 = .ok (.iadd, 1) := by decide +kernel
theorem dL_law_766 : decode cL_law 766 = .ok (.iaload, 1) := by decide +kernel
theorem dL_law_767 : decode cL_law 767 = .ok (.invokevirtual 108, 3) := by decide +kernel
theorem dL_law_770 : decode cL_law 770 = .ok (.if_icmp .eq 263, 3) := by decide +kernel
theorem dL_law_773 : decode cL_law 773 = .ok (.iconst 0, 1) := by decide +kernel
theorem dL_law_774 : decode cL_law 774 = .ok (.ireturn, 1) := by decide +kernel
theorem dL_law_775 : decode cL_law 775 = .ok (.aload_n 1, 1) := by decide +kernel
theorem dL_law_776 : decode cL_law 776 = .ok (.aload_n 0, 1) := by decide +kernel
theorem dL_law_777 : decode cL_law 777 = .ok (.iload_n 3, 1) := by decide +kernel
theorem dL_law_778 : decode cL_law 778 = .ok (.iconst 1, 1) := by decide +kernel
theorem dL_law_779 : decode cL_law 779 = .ok (.iadd, 1) := by decide +kernel
theorem dL_law_780 : decode cL_law 780 = .ok (.iaload, 1) := by decide +kernel
theorem dL_law_781 : decode cL_law 781 = .ok (.aload_n 0, 1) := by decide +kernel
theorem dL_law_782 : decode cL_law 782 = .ok (.iload_n 3, 1) := by decide +kernel
theorem dL_law_783 : decode cL_law 783 = .ok (.iconst 2, 1) := by decide +kernel
theorem dL_law_784 : decode cL_law 784 = .ok (.iadd, 1) := by decide +kernel
theorem dL_law_785 : decode cL_law 785 = .ok (.iaload, 1) := by decide +kernel
theorem dL_law_786 : decode cL_law 786 = .ok (.aload_n 0, 1) := by decide +kernel
theorem dL_law_787 : decode cL_law 787 = .ok (.iload_n 3, 1) := by decide +kernel
theorem dL_law_788 : decode cL_law 788 = .ok (.iconst 3, 1) := by decide +kernel
theorem dL_law_789 : decode cL_law 789 = .ok (.iadd, 1) := by decide +kernel
theorem dL_law_790 : decode cL_law 790 = .ok (.iaload, 1) := by decide +kernel
theorem dL_law_791 : decode cL_law 791 = .ok (.aload_n 0, 1) := by decide +kernel
theorem dL_law_792 : decode cL_law 792 = .ok (.iload_n 3, 1) := by decide +kernel
theorem dL_law_793 : decode cL_law 793 = .ok (.iconst 4, 1) := by decide +kernel
theorem dL_law_794 : decode cL_law 794 = .ok (.iadd, 1) := by decide +kernel
theorem dL_law_795 : decode cL_law 795 = .ok (.iaload, 1) := by decide +kernel
theorem dL_law_796 : decode cL_law 796 = .ok (.aload_n 0, 1) := by decide +kernel
theorem dL_law_797 : decode cL_law 797 = .ok (.iload_n 3, 1) := by decide +kernel
theorem dL_law_798 : decode cL_law 798 = .ok (.iconst 5, 1) := by decide +kernel
theorem dL_law_799 : decode cL_law 799 = .ok (.iadd, 1) := by decide +kernel
theorem dL_law_800 : decode cL_law 800 = .ok (.iaload, 1) := by decide +kernel
theorem dL_law_801 : decode cL_law 801 = .ok (.invokevirtual 109, 3) := by decide +kernel
theorem dL_law_804 : decode cL_law 804 = .ok (.aload_n 2, 1) := by decide +kernel
theorem dL_law_805 : decode cL_law 805 = .ok (.aload_n 0, 1) := by decide +kernel
theorem dL_law_806 : decode cL_law 806 = .ok (.iload_n 3, 1) := by decide +kernel
theorem dL_law_807 : decode cL_law 807 = .ok (.iconst 1, 1) := by decide +kernel
theorem dL_law_808 : decode cL_law 808 = .ok (.iadd, 1) := by decide +kernel
theorem dL_law_809 : decode cL_law 809 = .ok (.iaload, 1) := by decide +kernel
theorem dL_law_810 : decode cL_law 810 = .ok (.aload_n 0, 1) := by decide +kernel
theorem dL_law_811 : decode cL_law 811 = .ok (.iload_n 3, 1) := by decide +kernel
theorem dL_law_812 : decode cL_law 812 = .ok (.iconst 2, 1) := by decide +kernel
theorem dL_law_813 : decode cL_law 813 = .ok (.iadd, 1) := by decide +kernel
theorem dL_law_814 : decode cL_law 814 = .ok (.iaload, 1) := by decide +kernel
theorem dL_law_815 : decode cL_law 815 = .ok (.aload_n 0, 1) := by decide +kernel
theorem dL_law_816 : decode cL_law 816 = .ok (.iload_n 3, 1) := by decide +kernel
theorem dL_law_817 : decode cL_law 817 = .ok (.iconst 3, 1) := by decide +kernel
theorem dL_law_818 : decode cL_law 818 = .ok (.iadd, 1) := by decide +kernel
theorem dL_law_819 : decode cL_law 819 = .ok (.iaload, 1) := by decide +kernel
theorem dL_law_820 : decode cL_law 820 = .ok (.aload_n 0, 1) := by decide +kernel
theorem dL_law_821 : decode cL_law 821 = .ok (.iload_n 3, 1) := by decide +kernel
theorem dL_law_822 : decode cL_law 822 = .ok (.iconst 4, 1) := by decide +kernel
theorem dL_law_823 : decode cL_law 823 = .ok (.iadd, 1) := by decide +kernel
theorem dL_law_824 : decode cL_law 824 = .ok (.iaload, 1) := by decide +kernel
theorem dL_law_825 : decode cL_law 825 = .ok (.aload_n 0, 1) := by decide +kernel
theorem dL_law_826 : decode cL_law 826 = .ok (.iload_n 3, 1) := by decide +kernel
theorem dL_law_827 : decode cL_law 827 = .ok (.iconst 5, 1) := by decide +kernel
theorem dL_law_828 : decode cL_law 828 = .ok (.iadd, 1) := by decide +kernel
theorem dL_law_829 : decode cL_law 829 = .ok (.iaload, 1) := by decide +kernel
theorem dL_law_830 : decode cL_law 830 = .ok (.invokevirtual 113, 3) := by decide +kernel
theorem dL_law_833 : decode cL_law 833 = .ok (.if_icmp .eq 200, 3) := by decide +kernel
theorem dL_law_836 : decode cL_law 836 = .ok (.iconst 0, 1) := by decide +kernel
theorem dL_law_837 : decode cL_law 837 = .ok (.ireturn, 1) := by decide +kernel
theorem dL_law_838 : decode cL_law 838 = .ok (.aload_n 1, 1) := by decide +kernel
theorem dL_law_839 : decode cL_law 839 = .ok (.aload_n 0, 1) := by decide +kernel
theorem dL_law_840 : decode cL_law 840 = .ok (.iload_n 3, 1) := by decide +kernel
theorem dL_law_841 : decode cL_law 841 = .ok (.iconst 1, 1) := by decide +kernel
theorem dL_law_842 : decode cL_law 842 = .ok (.iadd, 1) := by decide +kernel
theorem dL_law_843 : decode cL_law 843 = .ok (.iaload, 1) := by decide +kernel
theorem dL_law_844 : decode cL_law 844 = .ok (.aload_n 0, 1) := by decide +kernel
theorem dL_law_845 : decode cL_law 845 = .ok (.iload_n 3, 1) := by decide +kernel
theorem dL_law_846 : decode cL_law 846 = .ok (.iconst 2, 1) := by decide +kernel
theorem dL_law_847 : decode cL_law 847 = .ok (.iadd, 1) := by decide +kernel
theorem dL_law_848 : decode cL_law 848 = .ok (.iaload, 1) := by decide +kernel
theorem dL_law_849 : decode cL_law 849 = .ok (.invokevirtual 114, 3) := by decide +kernel
theorem dL_law_852 : decode cL_law 852 = .ok (.aload_n 2, 1) := by decide +kernel
theorem dL_law_853 : decode cL_law 853 = .ok (.aload_n 0, 1) := by decide +kernel
theorem dL_law_854 : decode cL_law 854 = .ok (.iload_n 3, 1) := by decide +kernel
theorem dL_law_855 : decode cL_law 855 = .ok (.iconst 1, 1) := by decide +kernel
theorem dL_law_856 : decode cL_law 856 = .ok (.iadd, 1) := by decide +kernel
theorem dL_law_857 : decode cL_law 857 = .ok (.iaload, 1) := by decide +kernel
theorem dL_law_858 : decode cL_law 858 = .ok (.aload_n 0, 1) := by decide +kernel
theorem dL_law_859 : decode cL_law 859 = .ok (.iload_n 3, 1) := by decide +kernel
theorem dL_law_860 : decode cL_law 860 = .ok (.iconst 2, 1) := by decide +kernel
theorem dL_law_861 : decode cL_law 861 = .ok (.iadd, 1) := by decide +kernel
theorem dL_law_862 : decode cL_law 862 = .ok (.iaload, 1) := by decide +kernel
theorem dL_law_863 : decode cL_law 863 = .ok (.invokevirtual 117, 3) := by decide +kernel
theorem dL_law_866 : decode cL_law 866 = .ok (.if_icmp .eq 167, 3) := by decide +kernel
theorem dL_law_869 : decode cL_law 869 = .ok (.iconst 0, 1) := by decide +kernel
theorem dL_law_870 : decode cL_law 870 = .ok (.ireturn, 1) := by decide +kernel
theorem dL_law_871 : decode cL_law 871 = .ok (.aload_n 1, 1) := by decide +kernel
theorem dL_law_872 : decode cL_law 872 = .ok (.invokevirtual 118, 3) := by decide +kernel
theorem dL_law_875 : decode cL_law 875 = .ok (.aload_n 2, 1) := by decide +kernel
theorem dL_law_876 : decode cL_law 876 = .ok (.invokevirtual 121, 3) := by decide +kernel
theorem dL_law_879 : decode cL_law 879 = .ok (.if_icmp .eq 154, 3) := by decide +kernel
theorem dL_law_882 : decode cL_law 882 = .ok (.iconst 0, 1) := by decide +kernel
theorem dL_law_883 : decode cL_law 883 = .ok (.ireturn, 1) := by decide +kernel
theorem dL_law_884 : decode cL_law 884 = .ok (.aload_n 1, 1) := by decide +kernel
theorem dL_law_885 : decode cL_law 885 = .ok (.aload_n 0, 1) := by decide +kernel
theorem dL_law_886 : decode cL_law 886 = .ok (.iload_n 3, 1) := by decide +kernel
theorem dL_law_887 : decode cL_law 887 = .ok (.iconst 1, 1) := by decide +kernel
theorem dL_law_888 : decode cL_law 888 = .ok (.iadd, 1) := by decide +kernel
theorem dL_law_889 : decode cL_law 889 = .ok (.iaload, 1) := by decide +kernel
theorem dL_law_890 : decode cL_law 890 = .ok (.aload_n 0, 1) := by decide +kernel
theorem dL_law_891 : decode cL_law 891 = .ok (.iload_n 3, 1) := by decide +kernel
theorem dL_law_892 : decode cL_law 892 = .ok (.iconst 2, 1) := by decide +kernel
theorem dL_law_893 : decode cL_law 893 = .ok (.iadd, 1) := by decide +kernel
theorem dL_law_894 : decode cL_law 894 = .ok (.iaload, 1) := by decide +kernel
theorem dL_law_895 : decode cL_law 895 = .ok (.invokevirtual 122, 3) := by decide +kernel
theorem dL_law_898 : decode cL_law 898 = .ok (.aload_n 2, 1) := by decide +kernel
theorem dL_law_899 : decode cL_law 899 = .ok (.aload_n 0, 1) := by decide +kernel
theorem dL_law_900 : decode cL_law 900 = .ok (.iload_n 3, 1) := by decide +kernel
theorem dL_law_901 : decode cL_law 901 = .ok (.iconst 1, 1) := by decide +kernel
theorem dL_law_902 : decode cL_law 902 = .ok (.iadd, 1) := by decide +kernel
theorem dL_law_903 : decode cL_law 903 = .ok (.iaload, 1) := by decide +kernel
theorem dL_law_904 : decode cL_law 904 = .ok (.aload_n 0, 1) := by decide +kernel
theorem dL_law_905 : decode cL_law 905 = .ok (.iload_n 3, 1) := by decide +kernel
theorem dL_law_906 : decode cL_law 906 = .ok (.iconst 2, 1) := by decide +kernel
theorem dL_law_907 : decode cL_law 907 = .ok (.iadd, 1) := by decide +kernel
theorem dL_law_908 : decode cL_law 908 = .ok (.iaload, 1) := by decide +kernel
theorem dL_law_909 : decode cL_law 909 = .ok (.invokevirtual 125, 3) := by decide +kernel
theorem dL_law_912 : decode cL_law 912 = .ok (.if_icmp .eq 121, 3) := by decide +kernel
theorem dL_law_915 : decode cL_law 915 = .ok (.iconst 0, 1) := by decide +kernel
theorem dL_law_916 : decode cL_law 916 = .ok (.ireturn, 1) := by decide +kernel
theorem dL_law_917 : decode cL_law 917 = .ok (.aload_n 1, 1) := by decide +kernel
theorem dL_law_918 : decode cL_law 918 = .ok (.aload_n 0, 1) := by decide +kernel
theorem dL_law_919 : decode cL_law 919 = .ok (.iload_n 3, 1) := by decide +kernel
theorem dL_law_920 : decode cL_law 920 = .ok (.iconst 1, 1) := by decide +kernel
theorem dL_law_921 : decode cL_law 921 = .ok (.iadd, 1) := by decide +kernel
theorem dL_law_922 : decode cL_law 922 = .ok (.iaload, 1) := by decide +kernel
theorem dL_law_923 : decode cL_law 923 = .ok (.aload_n 0, 1) := by decide +kernel
theorem dL_law_924 : decode cL_law 924 = .ok (.iload_n 3, 1) := by decide +kernel
theorem dL_law_925 : decode cL_law 925 = .ok (.iconst 2, 1) := by decide +kernel
theorem dL_law_926 : decode cL_law 926 = .ok (.iadd, 1) := by decide +kernel
theorem dL_law_927 : decode cL_law 927 = .ok (.iaload, 1) := by decide +kernel
theorem dL_law_928 : decode cL_law 928 = .ok (.invokevirtual 126, 3) := by decide +kernel
theorem dL_law_931 : decode cL_law 931 = .ok (.aload_n 2, 1) := by decide +kernel
theorem dL_law_932 : decode cL_law 932 = .ok (.aload_n 0, 1) := by decide +kernel
theorem dL_law_933 : decode cL_law 933 = .ok (.iload_n 3, 1) := by decide +kernel
theorem dL_law_934 : decode cL_law 934 = .ok (.iconst 1, 1) := by decide +kernel
theorem dL_law_935 : decode cL_law 935 = .ok (.iadd, 1) := by decide +kernel
theorem dL_law_936 : decode cL_law 936 = .ok (.iaload, 1) := by decide +kernel
theorem dL_law_937 : decode cL_law 937 = .ok (.aload_n 0, 1) := by decide +kernel
theorem dL_law_938 : decode cL_law 938 = .ok (.iload_n 3, 1) := by decide +kernel
theorem dL_law_939 : decode cL_law 939 = .ok (.iconst 2, 1) := by decide +kernel
theorem dL_law_940 : decode cL_law 940 = .ok (.iadd, 1) := by decide +kernel
theorem dL_law_941 : decode cL_law 941 = .ok (.iaload, 1) := by decide +kernel
theorem dL_law_942 : decode cL_law 942 = .ok (.invokevirtual 129, 3) := by decide +kernel
theorem dL_law_945 : decode cL_law 945 = .ok (.if_icmp .eq 88, 3) := by decide +kernel
theorem dL_law_948 : decode cL_law 948 = .ok (.iconst 0, 1) := by decide +kernel
theorem dL_law_949 : decode cL_law 949 = .ok (.ireturn, 1) := by decide +kernel
theorem dL_law_950 : decode cL_law 950 = .ok (.aload_n 1, 1) := by decide +kernel
theorem dL_law_951 : decode cL_law 951 = .ok (.aload_n 0, 1) := by decide +kernel
theorem dL_law_952 : decode cL_law 952 = .ok (.iload_n 3, 1) := by decide +kernel
theorem dL_law_953 : decode cL_law 953 = .ok (.iconst 1, 1) := by decide +kernel
theorem dL_law_954 : decode cL_law 954 = .ok (.iadd, 1) := by decide +kernel
theorem dL_law_955 : decode cL_law 955 = .ok (.iaload, 1) := by decide +kernel
theorem dL_law_956 : decode cL_law 956 = .ok (.invokevirtual 130, 3) := by decide +kernel
theorem dL_law_959 : decode cL_law 959 = .ok (.aload_n 2, 1) := by decide +kernel
theorem dL_law_960 : decode cL_law 960 = .ok (.aload_n 0, 1) := by decide +kernel
theorem dL_law_961 : decode cL_law 961 = .ok (.iload_n 3, 1) := by decide +kernel
theorem dL_law_962 : decode cL_law 962 = .ok (.iconst 1, 1) := by decide +kernel
theorem dL_law_963 : decode cL_law 963 = .ok (.iadd, 1) := by decide +kernel
theorem dL_law_964 : decode cL_law 964 = .ok (.iaload, 1) := by decide +kernel
theorem dL_law_965 : decode cL_law 965 = .ok (.invokevirtual 133, 3) := by decide +kernel
theorem dL_law_968 : decode cL_law 968 = .ok (.if_icmp .eq 65, 3) := by decide +kernel
theorem dL_law_971 : decode cL_law 971 = .ok (.iconst 0, 1) := by decide +kernel
theorem dL_law_972 : decode cL_law 972 = .ok (.ireturn, 1) := by decide +kernel
theorem dL_law_973 : decode cL_law 973 = .ok (.aload_n 1, 1) := by decide +kernel
theorem dL_law_974 : decode cL_law 974 = .ok (.aload_n 0, 1) := by decide +kernel
theorem dL_law_975 : decode cL_law 975 = .ok (.iload_n 3, 1) := by decide +kernel
theorem dL_law_976 : decode cL_law 976 = .ok (.iconst 1, 1) := by decide +kernel
theorem dL_law_977 : decode cL_law 977 = .ok (.iadd, 1) := by decide +kernel
theorem dL_law_978 : decode cL_law 978 = .ok (.iaload, 1) := by decide +kernel
theorem dL_law_979 : decode cL_law 979 = .ok (.invokevirtual 134, 3) := by decide +kernel
theorem dL_law_982 : decode cL_law 982 = .ok (.aload_n 2, 1) := by decide +kernel
theorem dL_law_983 : decode cL_law 983 = .ok (.aload_n 0, 1) := by decide +kernel
theorem dL_law_984 : decode cL_law 984 = .ok (.iload_n 3, 1) := by decide +kernel
theorem dL_law_985 : decode cL_law 985 = .ok (.iconst 1, 1) := by decide +kernel
theorem dL_law_986 : decode cL_law 986 = .ok (.iadd, 1) := by decide +kernel
theorem dL_law_987 : decode cL_law 987 = .ok (.iaload, 1) := by decide +kernel
theorem dL_law_988 : decode cL_law 988 = .ok (.invokevirtual 137, 3) := by decide +kernel
theorem dL_law_991 : decode cL_law 991 = .ok (.if_icmp .eq 42, 3) := by decide +kernel
theorem dL_law_994 : decode cL_law 994 = .ok (.iconst 0, 1) := by decide +kernel
theorem dL_law_995 : decode cL_law 995 = .ok (.ireturn, 1) := by decide +kernel
theorem dL_law_996 : decode cL_law 996 = .ok (.aload_n 1, 1) := by decide +kernel
theorem dL_law_997 : decode cL_law 997 = .ok (.aload_n 0, 1) := by decide +kernel
theorem dL_law_998 : decode cL_law 998 = .ok (.iload_n 3, 1) := by decide +kernel
theorem dL_law_999 : decode cL_law 999 = .ok (.iconst 1, 1) := by decide +kernel
theorem dL_law_1000 : decode cL_law 1000 = .ok (.iadd, 1) := by decide +kernel
theorem dL_law_1001 : decode cL_law 1001 = .ok (.iaload, 1) := by decide +kernel
theorem dL_law_1002 : decode cL_law 1002 = .ok (.invokevirtual 138, 3) := by decide +kernel
theorem dL_law_1005 : decode cL_law 1005 = .ok (.aload_n 2, 1) := by decide +kernel
theorem dL_law_1006 : decode cL_law 1006 = .ok (.aload_n 0, 1) := by decide +kernel
theorem dL_law_1007 : decode cL_law 1007 = .ok (.iload_n 3, 1) := by decide +kernel
theorem dL_law_1008 : decode cL_law 1008 = .ok (.iconst 1, 1) := by decide +kernel
theorem dL_law_1009 : decode cL_law 1009 = .ok (.iadd, 1) := by decide +kernel
theorem dL_law_1010 : decode cL_law 1010 = .ok (.iaload, 1) := by decide +kernel
theorem dL_law_1011 : decode cL_law 1011 = .ok (.invokevirtual 141, 3) := by decide +kernel
theorem dL_law_1014 : decode cL_law 1014 = .ok (.if_icmp .eq 19, 3) := by decide +kernel
theorem dL_law_1017 : decode cL_law 1017 = .ok (.iconst 0, 1) := by decide +kernel
theorem dL_law_1018 : decode cL_law 1018 = .ok (.ireturn, 1) := by decide +kernel
theorem dL_law_1019 : decode cL_law 1019 = .ok (.aload_n 1, 1) := by decide +kernel
theorem dL_law_1020 : decode cL_law 1020 = .ok (.invokevirtual 142, 3) := by decide +kernel
theorem dL_law_1023 : decode cL_law 1023 = .ok (.aload_n 2, 1) := by decide +kernel
theorem dL_law_1024 : decode cL_law 1024 = .ok (.invokevirtual 146, 3) := by decide +kernel
theorem dL_law_1027 : decode cL_law 1027 = .ok (.lcmp, 1) := by decide +kernel
theorem dL_law_1028 : decode cL_law 1028 = .ok (.ifCond .eq 5, 3) := by decide +kernel
theorem dL_law_1031 : decode cL_law 1031 = .ok (.iconst 0, 1) := by decide +kernel
theorem dL_law_1032 : decode cL_law 1032 = .ok (.ireturn, 1) := by decide +kernel
theorem dL_law_1033 : decode cL_law 1033 = .ok (.iinc 3 6, 3) := by decide +kernel
theorem dL_law_1036 : decode cL_law 1036 = .ok (.goto (-1018), 3) := by decide +kernel
theorem dL_law_1039 : decode cL_law 1039 = .ok (.iconst 1, 1) := by decide +kernel
theorem dL_law_1040 : decode cL_law 1040 = .ok (.ireturn, 1) := by decide +kernel
end
section
/-! ===== the one-sided world: cells whose contents are rows of ints; a context; the walk ===== -/
abbrev wd_S : Type := (Nat → Nat → Int32) × Int64 × Nat
abbrev wd_Side : Type := Nat × ((Nat → Nat) → (Nat → ClassId) → Int64 × Nat → Nat → (Nat → Int32) → va_E)
def wd_cells (sd : wd_Side) (ad : Nat → Nat) (cy : Nat → ClassId) (σ : wd_S) : va_W := (List.range sd.1).map (fun k => (ad k, sd.2 ad cy σ.2 k (σ.1 k)))
theorem wd_at {sd : wd_Side} {ad : Nat → Nat} {cy : Nat → ClassId} {σ : wd_S} {k : Nat} (h : k < sd.1) : (wd_cells sd ad cy σ)[k]? = some (ad k, sd.2 ad cy σ.2 k (σ.1 k)) := by
  simp [wd_cells, h]
theorem wd_at' {sd : wd_Side} {ad : Nat → Nat} {cy : Nat → ClassId} {σ : wd_S} {k : Nat} {q : Nat × va_E} (h : (wd_cells sd ad cy σ)[k]? = some q) : k < sd.1 ∧ q = (ad k, sd.2 ad cy σ.2 k (σ.1 k)) := by
  have hk : k < sd.1 := by
    have := (List.getElem?_eq_some_iff.mp h).1
    simpa [wd_cells] using this
  rw [wd_at hk] at h
  exact ⟨hk, (Option.some.inj h).symm⟩
theorem wd_set {sd : wd_Side} {ad : Nat → Nat} {cy : Nat → ClassId} {σ σ' : wd_S} {k : Nat} {e : va_E} (he : sd.2 ad cy σ'.2 k (σ'.1 k) = e) (ho : ∀ j, j < sd.1 → j ≠ k → sd.2 ad cy σ'.2 j (σ'.1 j) = sd.2 ad cy σ.2 j (σ.1 j)) : (wd_cells sd ad cy σ).set k (ad k, e) = wd_cells sd ad cy σ' := by
  apply List.ext_getElem?
  intro i
  rw [List.getElem?_set]
  by_cases hi : i < sd.1
  · by_cases hk : k = i
    · subst hk
      rw [if_pos rfl, wd_at hi, he]
      simp [wd_cells, hi]
    · rw [if_neg hk, wd_at hi, wd_at hi, ho i hi (fun h => hk h.symm)]
  · have h1 : ∀ τ : wd_S, (wd_cells sd ad cy τ)[i]? = none := fun τ => by simp [wd_cells]; omega
    by_cases hk : k = i
    · subst hk
      rw [if_pos rfl, h1]
      simp [wd_cells, hi]
    · rw [if_neg hk, h1, h1]
/-- one number changed -/
def wd_up (σ : wd_S) (k i : Nat) (v : Int32) : wd_S := (fun a b => if a = k ∧ b = i then v else σ.1 a b, σ.2)
theorem wd_up_k (σ : wd_S) (k i : Nat) (v : Int32) : (wd_up σ k i v).1 k = upd (σ.1 k) i v := by
  funext b
  simp [wd_up, upd]
theorem wd_up_n (σ : wd_S) (k i : Nat) (v : Int32) {j : Nat} (h : j ≠ k) : (wd_up σ k i v).1 j = σ.1 j := by
  funext b
  simp [wd_up, h]
/-- the first n numbers of cell k0 laid over those of cell k1 -/
def wd_cp (σ : wd_S) (k0 k1 n : Nat) : wd_S := (fun a b => if a = k1 ∧ b < n then σ.1 k0 b else σ.1 a b, σ.2)
theorem wd_cp_k (σ : wd_S) (k0 k1 n : Nat) : (wd_cp σ k0 k1 n).1 k1 = va_cpy (σ.1 k0) (σ.1 k1) 0 0 n := by
  funext b
  simp [wd_cp, va_cpy]
theorem wd_cp_n (σ : wd_S) (k0 k1 n : Nat) {j : Nat} (h : j ≠ k1) : (wd_cp σ k0 k1 n).1 j = σ.1 j := by
  funext b
  simp [wd_cp, h]
def wd_A (sd : wd_Side) (ad : Nat → Nat) (sz : Nat) : Nat → Prop := fun q => (∃ k, k < sd.1 ∧ q = ad k) ∨ sz ≤ q
def wd_inj (sd : wd_Side) (ad : Nat → Nat) : Prop := ∀ i j, i < sd.1 → j < sd.1 → ad i = ad j → i = j
theorem wd_D {sd : wd_Side} {ad : Nat → Nat} (h : wd_inj sd ad) (cy : Nat → ClassId) (σ : wd_S) (sz : Nat) : va_D (wd_A sd ad sz) (wd_cells sd ad cy σ) := by
  refine ⟨fun i j p q hp hq e => ?_, fun k q hq => ?_⟩
  · obtain ⟨h1, rfl⟩ := wd_at' hp
    obtain ⟨h2, rfl⟩ := wd_at' hq
    exact h i j h1 h2 e
  · obtain ⟨h1, rfl⟩ := wd_at' hq
    exact Or.inl ⟨k, h1, rfl⟩
abbrev wd_V : Type := Launch × va_G × (Nat → ClassId)
abbrev wd_K : Type := Program × Env × Room × State × MethodId × Array Value × List Frame × Method × Code
abbrev wd_tys (cy : Nat → ClassId) : List (ClassId × FieldType) := [(cy 0, .int), (cy 1, .boolean), (cy 2, .object "FacingFields$Moment"), (cy 3, .array .int)]
def wd_rm (d : Nat) : Room := { frames := d, cells := 0, slots := 0, locals := 48 * d }
/-- the locals: by their places, where they are known -/
def wd_L (ls : Array Slot) (nL : Nat) (lv : List (Option Value)) : Prop := ls.size = nL ∧ lv_wf ls ∧ lv.length = nL ∧ ∀ (i : Nat) (v : Value), lv[i]? = some (some v) → ls[i]? = some (.val v) ∧ v.category = 1
def wd_as (lv : List (Option Value)) : List (Nat × Value) := (List.range lv.length).filterMap (fun i => match lv[i]? with | some (some v) => some (i, v) | _ => none)
theorem wd_as_in {lv : List (Option Value)} {q : Nat × Value} : q ∈ wd_as lv ↔ lv[q.1]? = some (some q.2) := by
  constructor
  · intro h
    obtain ⟨i, h1, h2⟩ := List.mem_filterMap.mp h
    split at h2
    · rename_i v hv
      cases h2
      exact hv
    · cases h2
  · intro h
    refine List.mem_filterMap.mpr ⟨q.1, ?_, ?_⟩
    · have := (List.getElem?_eq_some_iff.mp h).1
      exact List.mem_range.mpr this
    · rw [h]
theorem wd_L.has {ls : Array Slot} {nL : Nat} {lv : List (Option Value)} (h : wd_L ls nL lv) : lv_has ls nL (wd_as lv) := ⟨h.1, h.2.1, fun q hq => (h.2.2.2 q.1 q.2 (wd_as_in.mp hq)).1⟩
theorem wd_L.set {ls ls' : Array Slot} {nL i : Nat} {lv : List (Option Value)} {v : Value} (h : wd_L ls nL lv) (hc : v.category = 1) (h' : lv_has ls' nL ((i, v) :: (wd_as lv).filter (fun q => !(q.1 == i) && !(q.1 + 1 == i && q.2.category == 2)))) : wd_L ls' nL (lv.set i (some v)) := by
  refine ⟨h'.1, h'.2.1, by rw [List.length_set]; exact h.2.2.1, fun j w hw => ?_⟩
  rw [List.getElem?_set] at hw
  by_cases hj : i = j
  · subst hj
    rw [if_pos rfl] at hw
    split at hw
    · cases hw
      exact ⟨h'.2.2 _ List.mem_cons_self, hc⟩
    · cases hw
  · rw [if_neg hj] at hw
    have hcw := (h.2.2.2 j w hw).2
    refine ⟨h'.2.2 (j, w) (List.mem_cons_of_mem _ (List.mem_filter.mpr ⟨wd_as_in.mpr hw, ?_⟩)), hcw⟩
    simp [hcw]
    exact fun e => hj e.symm
def wd_Pre (sd : wd_Side) (V : wd_V) (ad : Nat → Nat) (σ : wd_S) (args : List Value) (sz : Nat) : Array Value → State → Prop := va_Pc args (fun U => U.heap.size = sz ∧ va_P V.2.1 vwCl (wd_cells sd ad V.2.2 σ) U.heap ∧ va_K V.2.1 vwCl (wd_tys V.2.2) U)
abbrev wd_P : Type := Option Value → wd_S → Prop
/-- just this answer, just this world -/
def wd_eq (v : Option Value) (σ : wd_S) : wd_P := fun a b => a = v ∧ b = σ
/-- an int, or nothing, and a world of a kind -/
def wd_pi (p : Int32 → wd_S → Prop) : wd_P := fun a b => ∃ r, a = some (.int r) ∧ p r b
def wd_pv (p : wd_S → Prop) : wd_P := fun a b => a = none ∧ p b
def wd_Qc (sd : wd_Side) (V : wd_V) (ad : Nat → Nat) (P : wd_P) (sz : Nat) : Array Value → State → Outcome → State → Prop := fun _ st oc t => (∃ (v : Option Value) (σ' : wd_S), oc = .returned v ∧ P v σ' ∧ va_P V.2.1 vwCl (wd_cells sd ad V.2.2 σ') t.heap) ∧ va_F (wd_A sd ad sz) st t
/-- a method's contract: from the world σ it comes back with an answer and a world of P -/
def wd_C (sd : wd_Side) (V : wd_V) (ad : Nat → Nat) (d : Nat) (y : MethodName) (ws : List Cond) (σ : wd_S) (args : List Value) (P : wd_P) : Prop := ∀ sz : Nat, Met V.1 y ws (wd_rm d) (wd_Pre sd V ad σ args sz) (wd_Qc sd V ad P sz) 0 0 (wd_A sd ad sz)
def wd_Qm (sd : wd_Side) (V : wd_V) (ad : Nat → Nat) (K : wd_K) (P : wd_P) : State → Prop := match K with
  | (_, _, _, s, _, args, below, _, _) => MQ below (wd_Qc sd V ad P s.heap.size) args s 0 0 (wd_A sd ad s.heap.size)
/-- what stays as it is in a method's body -/
def wd_Ok (sd : wd_Side) (V : wd_V) (ad : Nat → Nat) (K : wd_K) (own : String) (cc : ByteArray) (nL d : Nat) (ret : Option FieldType) : Prop := match K with
  | (p, _, R, s, m, args, _, meth, c) => p.tables.exec = Jvm.exec ∧ c.code = cc ∧ c.maxLocals = nL ∧ s.vm.findClass own = some m.cls ∧ (∀ w ∈ wsL_law, w.before args s = true) ∧ va_K V.2.1 vwCl (wd_tys V.2.2) s ∧ meth.locks = false ∧ meth.sig.returnType = ret ∧ R = wd_rm d ∧ wd_inj sd ad
/-- the walk: from here, with the world σ, the machine comes to Q -/
def wd_G (sd : wd_Side) (V : wd_V) (ad : Nat → Nat) (K : wd_K) (nL : Nat) (Q : State → Prop) (pc : Nat) (lv : List (Option Value)) (st : List Value) (σ : wd_S) : Prop := match K with
  | (p, e, R, s, m, args, below, meth, c) => ∀ (H : Heap) (locs : List Loc) (ls : Array Slot), va_P V.2.1 vwCl (wd_cells sd ad V.2.2 σ) H → va_S (wd_A sd ad s.heap.size) s.heap H locs → wd_L ls nL lv → W p V.1 e R s m args below meth c H locs 0 0 Q (F0 m pc ls st)
theorem wd_blind {sd : wd_Side} {V : wd_V} {ad : Nat → Nat} {σ : wd_S} {args : List Value} {sz : Nat} : FrameBlind (wd_Pre sd V ad σ args sz) := fun a U g mk q => by
  obtain ⟨q0, q1, qP, qK⟩ := q
  exact ⟨q0, q1, qP, va_K.moved (u := U) (U := U.calling g mk a) (Vm.Alike.refl U.vm) qK⟩
theorem wd_args : ∀ (args : List Value) (i : Nat), (∀ v ∈ args, v.category = 1) → ∀ (j : Nat) (v : Value), args[j]? = some v → (i + j, v) ∈ lv_args i args
  | [], i, _, j, v, h => by simp at h
  | a :: as, i, hc, 0, v, h => by
    simp at h
    subst h
    simp [lv_args]
  | a :: as, i, hc, j + 1, v, h => by
    have ha : a.category = 1 := hc a List.mem_cons_self
    have h1 := wd_args as (i + 1) (fun w hw => hc w (List.mem_cons_of_mem _ hw)) j v (by simpa using h)
    simp only [lv_args, ha]
    refine List.mem_cons_of_mem _ ?_
    rw [show i + (j + 1) = i + 1 + j by omega]
    simpa using h1
theorem wd_intro {sd : wd_Side} {V : wd_V} {ad : Nat → Nat} {d : Nat} {y : MethodName} {σ : wd_S} {args : List Value} {P : wd_P} {cc : ByteArray} {nL : Nat} {ret : Option FieldType} {lv : List (Option Value)} (hinj : wd_inj sd ad) (hy : plainName y.cls = true) (hc : args.all (fun v => v.category == 1) = true) (hn : (lg_sl args).length ≤ nL) (hlv : lv = args.map some ++ List.replicate (nL - args.length) none) (hln : args.length ≤ nL)
    (body : ∀ K : wd_K, wd_Ok sd V ad K y.cls cc nL d ret → wd_G sd V ad K nL (wd_Qm sd V ad K P) 0 lv [] σ) : wd_C sd V ad d y (Cond.code y cc nL ret :: wsL_law) σ args P := by
  intro sz
  refine Met.ofW (cc := cc) (maxL := nL) (ret := ret) hy rfl ?_
  intro p e s m args0 below meth c s₁ B hml hv
  obtain ⟨rfl, hsz, hP, hK⟩ := hv
  subst hsz
  have hts := atoms_spec (ws := Cond.code y cc nL ret :: wsL_law) B.pre
  have hown : s.vm.findClass y.cls = some m.cls := findClass_of_methodNamed B.named
  have hC : wd_Ok sd V ad (p, e, wd_rm d, s, m, args.toArray, below, meth, c) y.cls cc nL d ret := ⟨B.exec, B.bytes, hml, hown, fun w hw => hts w (List.mem_cons_of_mem _ hw), hK, B.notSynchronized, B.returns, rfl, hinj⟩
  have hl := lv_entry args (n := nL) hn
  rw [lg_entry_eq]
  refine body _ hC s.heap [] _ hP va_S.rf ?_
  have hc' : ∀ v ∈ args, v.category = 1 := fun v hv => by simpa using List.all_eq_true.mp hc v hv
  refine ⟨hl.1, hl.2.1, by rw [hlv]; simp; omega, fun i w hw => ?_⟩
  rw [hlv] at hw
  by_cases hi : i < args.length
  · rw [List.getElem?_append_left (by simpa using hi), List.getElem?_map] at hw
    cases ha : args[i]? with
    | none => rw [ha] at hw; cases hw
    | some a =>
      rw [ha] at hw
      have hw' : a = w := by simpa using hw
      subst hw'
      refine ⟨?_, hc' a (List.mem_of_getElem? ha)⟩
      have := hl.2.2 _ (wd_args args 0 hc' i a ha)
      simpa using this
  · rw [List.getElem?_append_right (by simp; omega)] at hw
    have := List.mem_of_getElem? hw
    rw [List.mem_replicate] at this
    cases this.2
section WD
variable {sd : wd_Side} {V : wd_V} {ad : Nat → Nat} {K : wd_K} {own : String} {cc : ByteArray} {nL d : Nat} {ret : Option FieldType} {Q : State → Prop} {pc : Nat} {lv : List (Option Value)} {st : List Value} {σ : wd_S}
theorem wd_pc {pc' : Nat} (h : pc = pc') (k : wd_G sd V ad K nL Q pc' lv st σ) : wd_G sd V ad K nL Q pc lv st σ := h ▸ k

theorem wd_iconst (hC : wd_Ok sd V ad K own cc nL d ret) {n : Int} {v : Int32} (hdg : decode cc pc = .ok (.iconst n, 1)) (hv : Int32.ofInt n = v) (k : wd_G sd V ad K nL Q (pc + 1) lv (.int v :: st) σ) : wd_G sd V ad K nL Q pc lv st σ := by
  obtain ⟨p, e, R, s, m, args, below, meth, c⟩ := K
  obtain ⟨hx, hb, hml, hown, hts, hK, hlk, hrt, hR, hinj⟩ := hC
  subst hR
  intro H locs ls hP hS hl
  exact lv_iconst hx hb hdg hv (k H locs ls hP hS hl)

theorem wd_bipush (hC : wd_Ok sd V ad K own cc nL d ret) {n : Int} {v : Int32} (hdg : decode cc pc = .ok (.bipush n, 2)) (hv : (Int8.ofInt n).toInt32 = v) (k : wd_G sd V ad K nL Q (pc + 2) lv (.int v :: st) σ) : wd_G sd V ad K nL Q pc lv st σ := by
  obtain ⟨p, e, R, s, m, args, below, meth, c⟩ := K
  obtain ⟨hx, hb, hml, hown, hts, hK, hlk, hrt, hR, hinj⟩ := hC
  subst hR
  intro H locs ls hP hS hl
  exact lv_bipush hx hb hdg hv (k H locs ls hP hS hl)

theorem wd_sipush (hC : wd_Ok sd V ad K own cc nL d ret) {n : Int} {v : Int32} (hdg : decode cc pc = .ok (.sipush n, 3)) (hv : (Int16.ofInt n).toInt32 = v) (k : wd_G sd V ad K nL Q (pc + 3) lv (.int v :: st) σ) : wd_G sd V ad K nL Q pc lv st σ := by
  obtain ⟨p, e, R, s, m, args, below, meth, c⟩ := K
  obtain ⟨hx, hb, hml, hown, hts, hK, hlk, hrt, hR, hinj⟩ := hC
  subst hR
  intro H locs ls hP hS hl
  exact lv_sipush hx hb hdg hv (k H locs ls hP hS hl)

theorem wd_lconst (hC : wd_Ok sd V ad K own cc nL d ret) {n : Fin 2} {v : Int64} (hdg : decode cc pc = .ok (.lconst n, 1)) (hv : Int64.ofNat (n : Nat) = v) (k : wd_G sd V ad K nL Q (pc + 1) lv (.long v :: st) σ) : wd_G sd V ad K nL Q pc lv st σ := by
  obtain ⟨p, e, R, s, m, args, below, meth, c⟩ := K
  obtain ⟨hx, hb, hml, hown, hts, hK, hlk, hrt, hR, hinj⟩ := hC
  subst hR
  intro H locs ls hP hS hl
  exact lv_lconst hx hb hdg hv (k H locs ls hP hS hl)

theorem wd_ldc (hC : wd_Ok sd V ad K own cc nL d ret) {index : Nat} {v : Int32} (hdg : decode cc pc = .ok (.ldc index, 2)) (hw : Cond.constant own index v ∈ wsL_law) (k : wd_G sd V ad K nL Q (pc + 2) lv (.int v :: st) σ) : wd_G sd V ad K nL Q pc lv st σ := by
  obtain ⟨p, e, R, s, m, args, below, meth, c⟩ := K
  obtain ⟨hx, hb, hml, hown, hts, hK, hlk, hrt, hR, hinj⟩ := hC
  subst hR
  intro H locs ls hP hS hl
  exact lv_ldc hx hb hown (hts _ hw) hdg (k H locs ls hP hS hl)

theorem wd_ldc2 (hC : wd_Ok sd V ad K own cc nL d ret) {index : Nat} {v : Int64} (hdg : decode cc pc = .ok (.ldc2_w index, 3)) (hw : Cond.constantLong own index v ∈ wsL_law) (k : wd_G sd V ad K nL Q (pc + 3) lv (.long v :: st) σ) : wd_G sd V ad K nL Q pc lv st σ := by
  obtain ⟨p, e, R, s, m, args, below, meth, c⟩ := K
  obtain ⟨hx, hb, hml, hown, hts, hK, hlk, hrt, hR, hinj⟩ := hC
  subst hR
  intro H locs ls hP hS hl
  exact lv_ldc2 hx hb hown (hts _ hw) hdg (k H locs ls hP hS hl)

theorem wd_iadd (hC : wd_Ok sd V ad K own cc nL d ret) {x y : Int32} (hdg : decode cc pc = .ok (.iadd, 1))  (k : wd_G sd V ad K nL Q (pc + 1) lv (.int (x + y) :: st) σ) : wd_G sd V ad K nL Q pc lv (.int y :: .int x :: st) σ := by
  obtain ⟨p, e, R, s, m, args, below, meth, c⟩ := K
  obtain ⟨hx, hb, hml, hown, hts, hK, hlk, hrt, hR, hinj⟩ := hC
  subst hR
  intro H locs ls hP hS hl
  exact lv_iadd hx hb hdg (k H locs ls hP hS hl)

theorem wd_isub (hC : wd_Ok sd V ad K own cc nL d ret) {x y : Int32} (hdg : decode cc pc = .ok (.isub, 1))  (k : wd_G sd V ad K nL Q (pc + 1) lv (.int (x - y) :: st) σ) : wd_G sd V ad K nL Q pc lv (.int y :: .int x :: st) σ := by
  obtain ⟨p, e, R, s, m, args, below, meth, c⟩ := K
  obtain ⟨hx, hb, hml, hown, hts, hK, hlk, hrt, hR, hinj⟩ := hC
  subst hR
  intro H locs ls hP hS hl
  exact lv_isub hx hb hdg (k H locs ls hP hS hl)

theorem wd_imul (hC : wd_Ok sd V ad K own cc nL d ret) {x y : Int32} (hdg : decode cc pc = .ok (.imul, 1))  (k : wd_G sd V ad K nL Q (pc + 1) lv (.int (x * y) :: st) σ) : wd_G sd V ad K nL Q pc lv (.int y :: .int x :: st) σ := by
  obtain ⟨p, e, R, s, m, args, below, meth, c⟩ := K
  obtain ⟨hx, hb, hml, hown, hts, hK, hlk, hrt, hR, hinj⟩ := hC
  subst hR
  intro H locs ls hP hS hl
  exact lv_imul hx hb hdg (k H locs ls hP hS hl)

theorem wd_iand (hC : wd_Ok sd V ad K own cc nL d ret) {x y : Int32} (hdg : decode cc pc = .ok (.iand, 1))  (k : wd_G sd V ad K nL Q (pc + 1) lv (.int (x &&& y) :: st) σ) : wd_G sd V ad K nL Q pc lv (.int y :: .int x :: st) σ := by
  obtain ⟨p, e, R, s, m, args, below, meth, c⟩ := K
  obtain ⟨hx, hb, hml, hown, hts, hK, hlk, hrt, hR, hinj⟩ := hC
  subst hR
  intro H locs ls hP hS hl
  exact lv_iand hx hb hdg (k H locs ls hP hS hl)

theorem wd_ior (hC : wd_Ok sd V ad K own cc nL d ret) {x y : Int32} (hdg : decode cc pc = .ok (.ior, 1))  (k : wd_G sd V ad K nL Q (pc + 1) lv (.int (x ||| y) :: st) σ) : wd_G sd V ad K nL Q pc lv (.int y :: .int x :: st) σ := by
  obtain ⟨p, e, R, s, m, args, below, meth, c⟩ := K
  obtain ⟨hx, hb, hml, hown, hts, hK, hlk, hrt, hR, hinj⟩ := hC
  subst hR
  intro H locs ls hP hS hl
  exact lv_ior hx hb hdg (k H locs ls hP hS hl)

theorem wd_ishl (hC : wd_Ok sd V ad K own cc nL d ret) {x y : Int32} (hdg : decode cc pc = .ok (.ishl, 1))  (k : wd_G sd V ad K nL Q (pc + 1) lv (.int (x <<< (y &&& 31)) :: st) σ) : wd_G sd V ad K nL Q pc lv (.int y :: .int x :: st) σ := by
  obtain ⟨p, e, R, s, m, args, below, meth, c⟩ := K
  obtain ⟨hx, hb, hml, hown, hts, hK, hlk, hrt, hR, hinj⟩ := hC
  subst hR
  intro H locs ls hP hS hl
  exact lv_ishl hx hb hdg (k H locs ls hP hS hl)

theorem wd_ishr (hC : wd_Ok sd V ad K own cc nL d ret) {x y : Int32} (hdg : decode cc pc = .ok (.ishr, 1))  (k : wd_G sd V ad K nL Q (pc + 1) lv (.int (x >>> (y &&& 31)) :: st) σ) : wd_G sd V ad K nL Q pc lv (.int y :: .int x :: st) σ := by
  obtain ⟨p, e, R, s, m, args, below, meth, c⟩ := K
  obtain ⟨hx, hb, hml, hown, hts, hK, hlk, hrt, hR, hinj⟩ := hC
  subst hR
  intro H locs ls hP hS hl
  exact lv_ishr hx hb hdg (k H locs ls hP hS hl)

theorem wd_idiv (hC : wd_Ok sd V ad K own cc nL d ret) {x y : Int32} (hdg : decode cc pc = .ok (.idiv, 1)) (hne : ¬ y = 0) (k : wd_G sd V ad K nL Q (pc + 1) lv (.int (x / y) :: st) σ) : wd_G sd V ad K nL Q pc lv (.int y :: .int x :: st) σ := by
  obtain ⟨p, e, R, s, m, args, below, meth, c⟩ := K
  obtain ⟨hx, hb, hml, hown, hts, hK, hlk, hrt, hR, hinj⟩ := hC
  subst hR
  intro H locs ls hP hS hl
  exact lv_idiv hx hb hdg hne (k H locs ls hP hS hl)

theorem wd_irem (hC : wd_Ok sd V ad K own cc nL d ret) {x y : Int32} (hdg : decode cc pc = .ok (.irem, 1)) (hne : ¬ y = 0) (k : wd_G sd V ad K nL Q (pc + 1) lv (.int (x - x / y * y) :: st) σ) : wd_G sd V ad K nL Q pc lv (.int y :: .int x :: st) σ := by
  obtain ⟨p, e, R, s, m, args, below, meth, c⟩ := K
  obtain ⟨hx, hb, hml, hown, hts, hK, hlk, hrt, hR, hinj⟩ := hC
  subst hR
  intro H locs ls hP hS hl
  exact lv_irem hx hb hdg hne (k H locs ls hP hS hl)

theorem wd_ladd (hC : wd_Ok sd V ad K own cc nL d ret) {x y : Int64} (hdg : decode cc pc = .ok (.ladd, 1))  (k : wd_G sd V ad K nL Q (pc + 1) lv (.long (x + y) :: st) σ) : wd_G sd V ad K nL Q pc lv (.long y :: .long x :: st) σ := by
  obtain ⟨p, e, R, s, m, args, below, meth, c⟩ := K
  obtain ⟨hx, hb, hml, hown, hts, hK, hlk, hrt, hR, hinj⟩ := hC
  subst hR
  intro H locs ls hP hS hl
  exact lv_ladd hx hb hdg (k H locs ls hP hS hl)

theorem wd_dup (hC : wd_Ok sd V ad K own cc nL d ret) {v : Value} (hdg : decode cc pc = .ok (.dup, 1)) (hv : v.category = 1) (k : wd_G sd V ad K nL Q (pc + 1) lv (v :: v :: st) σ) : wd_G sd V ad K nL Q pc lv (v :: st) σ := by
  obtain ⟨p, e, R, s, m, args, below, meth, c⟩ := K
  obtain ⟨hx, hb, hml, hown, hts, hK, hlk, hrt, hR, hinj⟩ := hC
  subst hR
  intro H locs ls hP hS hl
  exact lv_dup hx hb hdg hv (k H locs ls hP hS hl)

theorem wd_pop (hC : wd_Ok sd V ad K own cc nL d ret) {v : Value} (hdg : decode cc pc = .ok (.pop, 1)) (hv : v.category = 1) (k : wd_G sd V ad K nL Q (pc + 1) lv st σ) : wd_G sd V ad K nL Q pc lv (v :: st) σ := by
  obtain ⟨p, e, R, s, m, args, below, meth, c⟩ := K
  obtain ⟨hx, hb, hml, hown, hts, hK, hlk, hrt, hR, hinj⟩ := hC
  subst hR
  intro H locs ls hP hS hl
  exact lv_pop hx hb hdg hv (k H locs ls hP hS hl)

theorem wd_goto (hC : wd_Ok sd V ad K own cc nL d ret) {off : Int} {tgt : Nat} (hdg : decode cc pc = .ok (.goto off, 3)) (ht : (pc : Int) + off = (tgt : Int)) (k : wd_G sd V ad K nL Q tgt lv st σ) : wd_G sd V ad K nL Q pc lv st σ := by
  obtain ⟨p, e, R, s, m, args, below, meth, c⟩ := K
  obtain ⟨hx, hb, hml, hown, hts, hK, hlk, hrt, hR, hinj⟩ := hC
  subst hR
  intro H locs ls hP hS hl
  exact lv_goto hx hb hdg ht (k H locs ls hP hS hl)

theorem wd_icmp_eq (hC : wd_Ok sd V ad K own cc nL d ret) {x y : Int32} {off : Int} {tgt : Nat} (hdg : decode cc pc = .ok (.if_icmp .eq off, 3)) (ht : (pc : Int) + off = (tgt : Int)) (kt : x = y → wd_G sd V ad K nL Q tgt lv st σ) (kf : ¬ x = y → wd_G sd V ad K nL Q (pc + 3) lv st σ) : wd_G sd V ad K nL Q pc lv (.int y :: .int x :: st) σ := by
  obtain ⟨p, e, R, s, m, args, below, meth, c⟩ := K
  obtain ⟨hx, hb, hml, hown, hts, hK, hlk, hrt, hR, hinj⟩ := hC
  subst hR
  intro H locs ls hP hS hl
  exact lv_icmp_eq hx hb hdg ht (fun h => kt h H locs ls hP hS hl) (fun h => kf h H locs ls hP hS hl)

theorem wd_icmp_ne (hC : wd_Ok sd V ad K own cc nL d ret) {x y : Int32} {off : Int} {tgt : Nat} (hdg : decode cc pc = .ok (.if_icmp .ne off, 3)) (ht : (pc : Int) + off = (tgt : Int)) (kt : ¬ x = y → wd_G sd V ad K nL Q tgt lv st σ) (kf : x = y → wd_G sd V ad K nL Q (pc + 3) lv st σ) : wd_G sd V ad K nL Q pc lv (.int y :: .int x :: st) σ := by
  obtain ⟨p, e, R, s, m, args, below, meth, c⟩ := K
  obtain ⟨hx, hb, hml, hown, hts, hK, hlk, hrt, hR, hinj⟩ := hC
  subst hR
  intro H locs ls hP hS hl
  exact lv_icmp_ne hx hb hdg ht (fun h => kt h H locs ls hP hS hl) (fun h => kf h H locs ls hP hS hl)

theorem wd_icmp_lt (hC : wd_Ok sd V ad K own cc nL d ret) {x y : Int32} {off : Int} {tgt : Nat} (hdg : decode cc pc = .ok (.if_icmp .lt off, 3)) (ht : (pc : Int) + off = (tgt : Int)) (kt : x < y → wd_G sd V ad K nL Q tgt lv st σ) (kf : ¬ x < y → wd_G sd V ad K nL Q (pc + 3) lv st σ) : wd_G sd V ad K nL Q pc lv (.int y :: .int x :: st) σ := by
  obtain ⟨p, e, R, s, m, args, below, meth, c⟩ := K
  obtain ⟨hx, hb, hml, hown, hts, hK, hlk, hrt, hR, hinj⟩ := hC
  subst hR
  intro H locs ls hP hS hl
  exact lv_icmp_lt hx hb hdg ht (fun h => kt h H locs ls hP hS hl) (fun h => kf h H locs ls hP hS hl)

theorem wd_icmp_ge (hC : wd_Ok sd V ad K own cc nL d ret) {x y : Int32} {off : Int} {tgt : Nat} (hdg : decode cc pc = .ok (.if_icmp .ge off, 3)) (ht : (pc : Int) + off = (tgt : Int)) (kt : y ≤ x → wd_G sd V ad K nL Q tgt lv st σ) (kf : ¬ y ≤ x → wd_G sd V ad K nL Q (pc + 3) lv st σ) : wd_G sd V ad K nL Q pc lv (.int y :: .int x :: st) σ := by
  obtain ⟨p, e, R, s, m, args, below, meth, c⟩ := K
  obtain ⟨hx, hb, hml, hown, hts, hK, hlk, hrt, hR, hinj⟩ := hC
  subst hR
  intro H locs ls hP hS hl
  exact lv_icmp_ge hx hb hdg ht (fun h => kt h H locs ls hP hS hl) (fun h => kf h H locs ls hP hS hl)

theorem wd_icmp_gt (hC : wd_Ok sd V ad K own cc nL d ret) {x y : Int32} {off : Int} {tgt : Nat} (hdg : decode cc pc = .ok (.if_icmp .gt off, 3)) (ht : (pc : Int) + off = (tgt : Int)) (kt : y < x → wd_G sd V ad K nL Q tgt lv st σ) (kf : ¬ y < x → wd_G sd V ad K nL Q (pc + 3) lv st σ) : wd_G sd V ad K nL Q pc lv (.int y :: .int x :: st) σ := by
  obtain ⟨p, e, R, s, m, args, below, meth, c⟩ := K
  obtain ⟨hx, hb, hml, hown, hts, hK, hlk, hrt, hR, hinj⟩ := hC
  subst hR
  intro H locs ls hP hS hl
  exact lv_icmp_gt hx hb hdg ht (fun h => kt h H locs ls hP hS hl) (fun h => kf h H locs ls hP hS hl)

theorem wd_icmp_le (hC : wd_Ok sd V ad K own cc nL d ret) {x y : Int32} {off : Int} {tgt : Nat} (hdg : decode cc pc = .ok (.if_icmp .le off, 3)) (ht : (pc : Int) + off = (tgt : Int)) (kt : x ≤ y → wd_G sd V ad K nL Q tgt lv st σ) (kf : ¬ x ≤ y → wd_G sd V ad K nL Q (pc + 3) lv st σ) : wd_G sd V ad K nL Q pc lv (.int y :: .int x :: st) σ := by
  obtain ⟨p, e, R, s, m, args, below, meth, c⟩ := K
  obtain ⟨hx, hb, hml, hown, hts, hK, hlk, hrt, hR, hinj⟩ := hC
  subst hR
  intro H locs ls hP hS hl
  exact lv_icmp_le hx hb hdg ht (fun h => kt h H locs ls hP hS hl) (fun h => kf h H locs ls hP hS hl)

theorem wd_if_eq (hC : wd_Ok sd V ad K own cc nL d ret) {x : Int32} {off : Int} {tgt : Nat} (hdg : decode cc pc = .ok (.ifCond .eq off, 3)) (ht : (pc : Int) + off = (tgt : Int)) (kt : x = 0 → wd_G sd V ad K nL Q tgt lv st σ) (kf : ¬ x = 0 → wd_G sd V ad K nL Q (pc + 3) lv st σ) : wd_G sd V ad K nL Q pc lv (.int x :: st) σ := by
  obtain ⟨p, e, R, s, m, args, below, meth, c⟩ := K
  obtain ⟨hx, hb, hml, hown, hts, hK, hlk, hrt, hR, hinj⟩ := hC
  subst hR
  intro H locs ls hP hS hl
  exact lv_if_eq hx hb hdg ht (fun h => kt h H locs ls hP hS hl) (fun h => kf h H locs ls hP hS hl)

theorem wd_if_ne (hC : wd_Ok sd V ad K own cc nL d ret) {x : Int32} {off : Int} {tgt : Nat} (hdg : decode cc pc = .ok (.ifCond .ne off, 3)) (ht : (pc : Int) + off = (tgt : Int)) (kt : ¬ x = 0 → wd_G sd V ad K nL Q tgt lv st σ) (kf : x = 0 → wd_G sd V ad K nL Q (pc + 3) lv st σ) : wd_G sd V ad K nL Q pc lv (.int x :: st) σ := by
  obtain ⟨p, e, R, s, m, args, below, meth, c⟩ := K
  obtain ⟨hx, hb, hml, hown, hts, hK, hlk, hrt, hR, hinj⟩ := hC
  subst hR
  intro H locs ls hP hS hl
  exact lv_if_ne hx hb hdg ht (fun h => kt h H locs ls hP hS hl) (fun h => kf h H locs ls hP hS hl)

theorem wd_if_lt (hC : wd_Ok sd V ad K own cc nL d ret) {x : Int32} {off : Int} {tgt : Nat} (hdg : decode cc pc = .ok (.ifCond .lt off, 3)) (ht : (pc : Int) + off = (tgt : Int)) (kt : x < 0 → wd_G sd V ad K nL Q tgt lv st σ) (kf : ¬ x < 0 → wd_G sd V ad K nL Q (pc + 3) lv st σ) : wd_G sd V ad K nL Q pc lv (.int x :: st) σ := by
  obtain ⟨p, e, R, s, m, args, below, meth, c⟩ := K
  obtain ⟨hx, hb, hml, hown, hts, hK, hlk, hrt, hR, hinj⟩ := hC
  subst hR
  intro H locs ls hP hS hl
  exact lv_if_lt hx hb hdg ht (fun h => kt h H locs ls hP hS hl) (fun h => kf h H locs ls hP hS hl)

theorem wd_if_ge (hC : wd_Ok sd V ad K own cc nL d ret) {x : Int32} {off : Int} {tgt : Nat} (hdg : decode cc pc = .ok (.ifCond .ge off, 3)) (ht : (pc : Int) + off = (tgt : Int)) (kt : 0 ≤ x → wd_G sd V ad K nL Q tgt lv st σ) (kf : ¬ 0 ≤ x → wd_G sd V ad K nL Q (pc + 3) lv st σ) : wd_G sd V ad K nL Q pc lv (.int x :: st) σ := by
  obtain ⟨p, e, R, s, m, args, below, meth, c⟩ := K
  obtain ⟨hx, hb, hml, hown, hts, hK, hlk, hrt, hR, hinj⟩ := hC
  subst hR
  intro H locs ls hP hS hl
  exact lv_if_ge hx hb hdg ht (fun h => kt h H locs ls hP hS hl) (fun h => kf h H locs ls hP hS hl)

theorem wd_if_gt (hC : wd_Ok sd V ad K own cc nL d ret) {x : Int32} {off : Int} {tgt : Nat} (hdg : decode cc pc = .ok (.ifCond .gt off, 3)) (ht : (pc : Int) + off = (tgt : Int)) (kt : 0 < x → wd_G sd V ad K nL Q tgt lv st σ) (kf : ¬ 0 < x → wd_G sd V ad K nL Q (pc + 3) lv st σ) : wd_G sd V ad K nL Q pc lv (.int x :: st) σ := by
  obtain ⟨p, e, R, s, m, args, below, meth, c⟩ := K
  obtain ⟨hx, hb, hml, hown, hts, hK, hlk, hrt, hR, hinj⟩ := hC
  subst hR
  intro H locs ls hP hS hl
  exact lv_if_gt hx hb hdg ht (fun h => kt h H locs ls hP hS hl) (fun h => kf h H locs ls hP hS hl)

theorem wd_if_le (hC : wd_Ok sd V ad K own cc nL d ret) {x : Int32} {off : Int} {tgt : Nat} (hdg : decode cc pc = .ok (.ifCond .le off, 3)) (ht : (pc : Int) + off = (tgt : Int)) (kt : x ≤ 0 → wd_G sd V ad K nL Q tgt lv st σ) (kf : ¬ x ≤ 0 → wd_G sd V ad K nL Q (pc + 3) lv st σ) : wd_G sd V ad K nL Q pc lv (.int x :: st) σ := by
  obtain ⟨p, e, R, s, m, args, below, meth, c⟩ := K
  obtain ⟨hx, hb, hml, hown, hts, hK, hlk, hrt, hR, hinj⟩ := hC
  subst hR
  intro H locs ls hP hS hl
  exact lv_if_le hx hb hdg ht (fun h => kt h H locs ls hP hS hl) (fun h => kf h H locs ls hP hS hl)

theorem wd_tableIn (hC : wd_Ok sd V ad K own cc nL d ret) {dflt lo hi : Int} {offs : Array Int} {len : Nat} {x : Int32} {off : Int} {tgt : Nat} (hdg : decode cc pc = .ok (.tableswitch dflt lo hi offs, len)) (h1 : ¬ x.toInt < lo) (h2 : ¬ hi < x.toInt) (ho : offs[(x.toInt - lo).toNat]? = some off) (ht : (pc : Int) + off = (tgt : Int)) (k : wd_G sd V ad K nL Q tgt lv st σ) : wd_G sd V ad K nL Q pc lv (.int x :: st) σ := by
  obtain ⟨p, e, R, s, m, args, below, meth, c⟩ := K
  obtain ⟨hx, hb, hml, hown, hts, hK, hlk, hrt, hR, hinj⟩ := hC
  subst hR
  intro H locs ls hP hS hl
  exact lv_tableIn hx hb hdg h1 h2 ho ht (k H locs ls hP hS hl)
theorem wd_tableOut (hC : wd_Ok sd V ad K own cc nL d ret) {dflt lo hi : Int} {offs : Array Int} {len : Nat} {x : Int32} {tgt : Nat} (hdg : decode cc pc = .ok (.tableswitch dflt lo hi offs, len)) (h : x.toInt < lo ∨ hi < x.toInt) (ht : (pc : Int) + dflt = (tgt : Int)) (k : wd_G sd V ad K nL Q tgt lv st σ) : wd_G sd V ad K nL Q pc lv (.int x :: st) σ := by
  obtain ⟨p, e, R, s, m, args, below, meth, c⟩ := K
  obtain ⟨hx, hb, hml, hown, hts, hK, hlk, hrt, hR, hinj⟩ := hC
  subst hR
  intro H locs ls hP hS hl
  exact lv_tableOut hx hb hdg h ht (k H locs ls hP hS hl)
theorem wd_lookup (hC : wd_Ok sd V ad K own cc nL d ret) {dflt : Int} {ps : Array (Int × Int)} {len : Nat} {x : Int32} {off : Int} {tgt : Nat} (hdg : decode cc pc = .ok (.lookupswitch dflt ps, len)) (hp : (ps.toList.zip (ps.toList.drop 1)).all (fun (a, next) => a.1 < next.1) = true) (ho : Op.lookupswitch.offset ps.toList dflt x.toInt = off) (ht : (pc : Int) + off = (tgt : Int)) (k : wd_G sd V ad K nL Q tgt lv st σ) : wd_G sd V ad K nL Q pc lv (.int x :: st) σ := by
  obtain ⟨p, e, R, s, m, args, below, meth, c⟩ := K
  obtain ⟨hx, hb, hml, hown, hts, hK, hlk, hrt, hR, hinj⟩ := hC
  subst hR
  intro H locs ls hP hS hl
  exact lv_lookup hx hb hdg hp ho ht (k H locs ls hP hS hl)

theorem wd_iload_n (hC : wd_Ok sd V ad K own cc nL d ret) {k0 : Fin 4} {i : Nat} {x : Int32} (hdg : decode cc pc = .ok (.iload_n k0, 1)) (hi : (k0 : Nat) = i) (hv : lv[i]? = some (some (.int x))) (k : wd_G sd V ad K nL Q (pc + 1) lv (.int x :: st) σ) : wd_G sd V ad K nL Q pc lv st σ := by
  obtain ⟨p, e, R, s, m, args, below, meth, c⟩ := K
  obtain ⟨hx, hb, hml, hown, hts, hK, hlk, hrt, hR, hinj⟩ := hC
  subst hR
  intro H locs ls hP hS hl
  exact lv_iload_n hx hb hdg hi (hl.2.2.2 i _ hv).1 (k H locs ls hP hS hl)
theorem wd_iload (hC : wd_Ok sd V ad K own cc nL d ret) {i : Nat} {x : Int32} (hdg : decode cc pc = .ok (.iload i, 2)) (hv : lv[i]? = some (some (.int x))) (k : wd_G sd V ad K nL Q (pc + 2) lv (.int x :: st) σ) : wd_G sd V ad K nL Q pc lv st σ := by
  obtain ⟨p, e, R, s, m, args, below, meth, c⟩ := K
  obtain ⟨hx, hb, hml, hown, hts, hK, hlk, hrt, hR, hinj⟩ := hC
  subst hR
  intro H locs ls hP hS hl
  exact lv_iload hx hb hdg (hl.2.2.2 i _ hv).1 (k H locs ls hP hS hl)
theorem wd_aload_n (hC : wd_Ok sd V ad K own cc nL d ret) {k0 : Fin 4} {i : Nat} {x : Nat} (hdg : decode cc pc = .ok (.aload_n k0, 1)) (hi : (k0 : Nat) = i) (hv : lv[i]? = some (some (.ref x))) (k : wd_G sd V ad K nL Q (pc + 1) lv (.ref x :: st) σ) : wd_G sd V ad K nL Q pc lv st σ := by
  obtain ⟨p, e, R, s, m, args, below, meth, c⟩ := K
  obtain ⟨hx, hb, hml, hown, hts, hK, hlk, hrt, hR, hinj⟩ := hC
  subst hR
  intro H locs ls hP hS hl
  exact lv_aload_n hx hb hdg hi (hl.2.2.2 i _ hv).1 (k H locs ls hP hS hl)
theorem wd_istore_n (hC : wd_Ok sd V ad K own cc nL d ret) {k0 : Fin 4} {i : Nat} {x : Int32} {lv' : List (Option Value)} (hdg : decode cc pc = .ok (.istore_n k0, 1)) (hi : (k0 : Nat) = i) (hn : i < nL) (hl' : lv.set i (some (.int x)) = lv') (k : wd_G sd V ad K nL Q (pc + 1) lv' st σ) : wd_G sd V ad K nL Q pc lv (.int x :: st) σ := by
  obtain ⟨p, e, R, s, m, args, below, meth, c⟩ := K
  obtain ⟨hx, hb, hml, hown, hts, hK, hlk, hrt, hR, hinj⟩ := hC
  subst hR
  intro H locs ls hP hS hl
  exact lv_istore_n hx hb hdg hi hl.has hn rfl (fun ls' h' => k H locs ls' hP hS (hl' ▸ hl.set rfl h'))
theorem wd_istore (hC : wd_Ok sd V ad K own cc nL d ret) {i : Nat} {x : Int32} {lv' : List (Option Value)} (hdg : decode cc pc = .ok (.istore i, 2)) (hn : i < nL) (hl' : lv.set i (some (.int x)) = lv') (k : wd_G sd V ad K nL Q (pc + 2) lv' st σ) : wd_G sd V ad K nL Q pc lv (.int x :: st) σ := by
  obtain ⟨p, e, R, s, m, args, below, meth, c⟩ := K
  obtain ⟨hx, hb, hml, hown, hts, hK, hlk, hrt, hR, hinj⟩ := hC
  subst hR
  intro H locs ls hP hS hl
  exact lv_istore hx hb hdg hl.has hn rfl (fun ls' h' => k H locs ls' hP hS (hl' ▸ hl.set rfl h'))
theorem wd_astore_n (hC : wd_Ok sd V ad K own cc nL d ret) {k0 : Fin 4} {i : Nat} {x : Nat} {lv' : List (Option Value)} (hdg : decode cc pc = .ok (.astore_n k0, 1)) (hi : (k0 : Nat) = i) (hn : i < nL) (hl' : lv.set i (some (.ref x)) = lv') (k : wd_G sd V ad K nL Q (pc + 1) lv' st σ) : wd_G sd V ad K nL Q pc lv (.ref x :: st) σ := by
  obtain ⟨p, e, R, s, m, args, below, meth, c⟩ := K
  obtain ⟨hx, hb, hml, hown, hts, hK, hlk, hrt, hR, hinj⟩ := hC
  subst hR
  intro H locs ls hP hS hl
  exact lv_astore_n hx hb hdg hi hl.has hn rfl (fun ls' h' => k H locs ls' hP hS (hl' ▸ hl.set rfl h'))
theorem wd_iinc (hC : wd_Ok sd V ad K own cc nL d ret) {i : Nat} {n : Int} {x v : Int32} {lv' : List (Option Value)} (hdg : decode cc pc = .ok (.iinc i n, 3)) (hv : lv[i]? = some (some (.int x))) (hn : i < nL) (he : x + Int32.ofInt n = v) (hl' : lv.set i (some (.int v)) = lv') (k : wd_G sd V ad K nL Q (pc + 3) lv' st σ) : wd_G sd V ad K nL Q pc lv st σ := by
  obtain ⟨p, e, R, s, m, args, below, meth, c⟩ := K
  obtain ⟨hx, hb, hml, hown, hts, hK, hlk, hrt, hR, hinj⟩ := hC
  subst hR
  intro H locs ls hP hS hl
  obtain ⟨j, hj⟩ := List.getElem?_of_mem (wd_as_in (q := (i, .int x)).mpr hv)
  exact lv_iinc hx hb hdg hl.has hj he hn rfl (fun ls' h' => k H locs ls' hP hS (hl' ▸ hl.set rfl h'))

theorem wd_get (hC : wd_Ok sd V ad K own cc nL d ret) {ci : Nat} {C : String} {T : u_T} {N : Nat} (hcl : vwCl[ci]? = some (C, T, N)) (hin : ∀ w ∈ u_ws C T N, w ∈ wsL_law) {q : Nat} (hq : q < sd.1) {fs : List Value} (hE : sd.2 ad V.2.2 σ.2 q (σ.1 q) = .inr (ci, fs)) (j : Nat) (hj : j < N) {index : Nat} (hlink : Cond.fieldLink own index (T j).1 (T j).2.1 (T j).2.2.1 ∈ wsL_law) {v : Value} (hv : fs[j]? = some v) (hdg : decode cc pc = .ok (.getfield index, 3)) (k : wd_G sd V ad K nL Q (pc + 3) lv (v :: st) σ) : wd_G sd V ad K nL Q pc lv (.ref (ad q) :: st) σ := by
  obtain ⟨p, e, R, s, m, args, below, meth, c⟩ := K
  obtain ⟨hx, hb, hml, hown, hts, hK, hlk, hrt, hR, hinj⟩ := hC
  subst hR
  intro H locs ls hP hS hl
  exact va_get hx hb hts hin hown hK hP q (by rw [wd_at hq, hE]) hcl j hj (hts _ hlink) (fun _ h9 => h9) hv hdg (k H locs ls hP hS hl)
theorem wd_put (hC : wd_Ok sd V ad K own cc nL d ret) {ci : Nat} {C : String} {T : u_T} {N : Nat} (hcl : vwCl[ci]? = some (C, T, N)) (hin : ∀ w ∈ u_ws C T N, w ∈ wsL_law) (ty0 : Nat → FieldType) (hty : ∀ k, k < N → parseFieldDescriptor (T k).2.2.1 = some (ty0 k)) (hnm : ∀ a, a < N → ∀ b, b < N → a ≠ b → (T a).2.1 ≠ (T b).2.1) {q : Nat} (hq : q < sd.1) {fs : List Value} (hE : sd.2 ad V.2.2 σ.2 q (σ.1 q) = .inr (ci, fs)) (j : Nat) (hj : j < N) {index : Nat} (hlink : Cond.fieldLink own index (T j).1 (T j).2.1 (T j).2.2.1 ∈ wsL_law) (hfin : (T j).2.2.2 = false) {v : Value} (hnr : narrow (ty0 j) v = v) (hft : fits (ty0 j) v = true) (hl : j < fs.length) {σ' : wd_S} (hE' : sd.2 ad V.2.2 σ'.2 q (σ'.1 q) = .inr (ci, fs.set j v)) (ho : ∀ a, a < sd.1 → a ≠ q → sd.2 ad V.2.2 σ'.2 a (σ'.1 a) = sd.2 ad V.2.2 σ.2 a (σ.1 a)) (hdg : decode cc pc = .ok (.putfield index, 3)) (k : wd_G sd V ad K nL Q (pc + 3) lv st σ') : wd_G sd V ad K nL Q pc lv (v :: .ref (ad q) :: st) σ := by
  obtain ⟨p, e, R, s, m, args, below, meth, c⟩ := K
  obtain ⟨hx, hb, hml, hown, hts, hK, hlk, hrt, hR, hinj⟩ := hC
  subst hR
  intro H locs ls hP hS hL
  refine va_put hx hb hts hin ty0 hty hnm hown hK hP (wd_D hinj V.2.2 σ s.heap.size) hS q (by rw [wd_at hq, hE]) hcl j hj (hts _ hlink) (fun _ h9 => h9) hfin (hty j hj) hnr hft hl hdg (fun H1 locs1 hP1 hD1 hS1 => ?_)
  rw [wd_set hE' ho] at hP1
  exact k H1 locs1 ls hP1 hS1 hL

theorem wd_ix {x : Int32} {i n : Nat} (hx : x = nI i) (hi : i < n) (hn : n < 2 ^ 31) : vp_in x n ∧ x.toNatClampNeg = i := by
  subst hx
  exact ⟨vp_in_nI hi hn, nI_clamp (by omega)⟩
theorem wd_iald (hC : wd_Ok sd V ad K own cc nL d ret) {q n : Nat} (hq : q < sd.1) (hE : ∀ r, sd.2 ad V.2.2 σ.2 q r = .inl (V.2.2 0, n, .inl r)) (hn : n < 2 ^ 31) {x : Int32} (i : Nat) (hx0 : x = nI i) (hi : i < n) (hdg : decode cc pc = .ok (.iaload, 1)) (k : wd_G sd V ad K nL Q (pc + 1) lv (.int (σ.1 q i) :: st) σ) : wd_G sd V ad K nL Q pc lv (.int x :: .ref (ad q) :: st) σ := by
  obtain ⟨p, e, R, s, m, args, below, meth, c⟩ := K
  obtain ⟨hx, hb, hml, hown, hts, hK, hlk, hrt, hR, hinj⟩ := hC
  subst hR
  intro H locs ls hP hS hl
  obtain ⟨h1, h2⟩ := wd_ix hx0 hi hn
  refine va_iald hx hb hK hP q 0 (by rw [wd_at hq, hE]) rfl h1 hdg ?_
  rw [h2]
  exact k H locs ls hP hS hl
theorem wd_zald (hC : wd_Ok sd V ad K own cc nL d ret) {q n : Nat} (hq : q < sd.1) (hE : ∀ r, sd.2 ad V.2.2 σ.2 q r = .inl (V.2.2 1, n, .inl r)) (hn : n < 2 ^ 31) {x : Int32} (i : Nat) (hx0 : x = nI i) (hi : i < n) (hdg : decode cc pc = .ok (.baload, 1)) (k : wd_G sd V ad K nL Q (pc + 1) lv (.int (σ.1 q i) :: st) σ) : wd_G sd V ad K nL Q pc lv (.int x :: .ref (ad q) :: st) σ := by
  obtain ⟨p, e, R, s, m, args, below, meth, c⟩ := K
  obtain ⟨hx, hb, hml, hown, hts, hK, hlk, hrt, hR, hinj⟩ := hC
  subst hR
  intro H locs ls hP hS hl
  obtain ⟨h1, h2⟩ := wd_ix hx0 hi hn
  refine va_zald hx hb hK hP q 1 (by rw [wd_at hq, hE]) rfl h1 hdg ?_
  rw [h2]
  exact k H locs ls hP hS hl
theorem wd_iast (hC : wd_Ok sd V ad K own cc nL d ret) {q n : Nat} (hq : q < sd.1) (hE : ∀ r, sd.2 ad V.2.2 σ.2 q r = .inl (V.2.2 0, n, .inl r)) (hn : n < 2 ^ 31) {x v : Int32} (i : Nat) (hx0 : x = nI i) (hi : i < n) (hdg : decode cc pc = .ok (.iastore, 1)) (k : wd_G sd V ad K nL Q (pc + 1) lv st (wd_up σ q i v)) : wd_G sd V ad K nL Q pc lv (.int v :: .int x :: .ref (ad q) :: st) σ := by
  obtain ⟨p, e, R, s, m, args, below, meth, c⟩ := K
  obtain ⟨hx, hb, hml, hown, hts, hK, hlk, hrt, hR, hinj⟩ := hC
  subst hR
  intro H locs ls hP hS hl
  obtain ⟨h1, h2⟩ := wd_ix hx0 hi hn
  refine va_iast hx hb hK hP (wd_D hinj V.2.2 σ s.heap.size) hS q 0 (by rw [wd_at hq, hE]) rfl h1 hdg (fun H1 locs1 hP1 hD1 hS1 => ?_)
  rw [h2, wd_set (σ' := wd_up σ q i v) (by rw [wd_up_k]; exact hE _) (fun j _ hj => by rw [wd_up_n _ _ _ _ hj]; rfl)] at hP1
  exact k H1 locs1 ls hP1 hS1 hl
theorem wd_zast (hC : wd_Ok sd V ad K own cc nL d ret) {q n : Nat} (hq : q < sd.1) (hE : ∀ r, sd.2 ad V.2.2 σ.2 q r = .inl (V.2.2 1, n, .inl r)) (hn : n < 2 ^ 31) {x v : Int32} (i : Nat) (hx0 : x = nI i) (hi : i < n) (hv : vp_nar .boolean v = v) (hdg : decode cc pc = .ok (.bastore, 1)) (k : wd_G sd V ad K nL Q (pc + 1) lv st (wd_up σ q i v)) : wd_G sd V ad K nL Q pc lv (.int v :: .int x :: .ref (ad q) :: st) σ := by
  obtain ⟨p, e, R, s, m, args, below, meth, c⟩ := K
  obtain ⟨hx, hb, hml, hown, hts, hK, hlk, hrt, hR, hinj⟩ := hC
  subst hR
  intro H locs ls hP hS hl
  obtain ⟨h1, h2⟩ := wd_ix hx0 hi hn
  refine va_zast hx hb hK hP (wd_D hinj V.2.2 σ s.heap.size) hS q 1 (by rw [wd_at hq, hE]) rfl h1 hdg (fun H1 locs1 hP1 hD1 hS1 => ?_)
  rw [hv, h2, wd_set (σ' := wd_up σ q i v) (by rw [wd_up_k]; exact hE _) (fun j _ hj => by rw [wd_up_n _ _ _ _ hj]; rfl)] at hP1
  exact k H1 locs1 ls hP1 hS1 hl
theorem wd_aald (hC : wd_Ok sd V ad K own cc nL d ret) {q n t0 : Nat} {cA : ClassId} {ty : FieldType} (hq : q < sd.1) {f : Nat → Option Nat} (hE : sd.2 ad V.2.2 σ.2 q (σ.1 q) = .inl (cA, n, .inr (.inr (.inr (.inr f))))) (ht : (wd_tys V.2.2)[t0]? = some (cA, ty)) (hty : ty.isReference = true) (hn : n < 2 ^ 31) {x : Int32} (i : Nat) (hx0 : x = nI i) (hi : i < n) {b : Nat} (hf : f i = some b) (hdg : decode cc pc = .ok (.aaload, 1)) (k : wd_G sd V ad K nL Q (pc + 1) lv (.ref b :: st) σ) : wd_G sd V ad K nL Q pc lv (.int x :: .ref (ad q) :: st) σ := by
  obtain ⟨p, e, R, s, m, args, below, meth, c⟩ := K
  obtain ⟨hx, hb, hml, hown, hts, hK, hlk, hrt, hR, hinj⟩ := hC
  subst hR
  intro H locs ls hP hS hl
  obtain ⟨h1, h2⟩ := wd_ix hx0 hi hn
  have hw : (wd_cells sd ad V.2.2 σ)[q]? = some (ad q, .inl (cA, n, .inr (.inr (.inr (.inr f))))) := by rw [wd_at hq, hE]
  refine W.aald (v := .ref b) (ty := ty) hx hb (hP q _ hw) ((hK.2 t0 _ ht).1 n (fun j => va_rf (f j))) hty (fun q => by cases q) (by show ¬ (x < 0 ∨ (arrV _ _ _).slots.size ≤ _); rw [arrV_size]; exact h1) (by show (arrV _ _ _).slots[_]? = _; rw [h2, arrV_read _ _ hi, hf]; rfl) rfl rfl hdg (k H locs ls hP hS hl)
theorem wd_copy (hC : wd_Ok sd V ad K own cc nL d ret) {q0 q1 n0 n1 : Nat} (hq0 : q0 < sd.1) (hq1 : q1 < sd.1) (hE0 : ∀ r, sd.2 ad V.2.2 σ.2 q0 r = .inl (V.2.2 0, n0, .inl r)) (hE1 : ∀ r, sd.2 ad V.2.2 σ.2 q1 r = .inl (V.2.2 0, n1, .inl r)) {x : Int32} (n : Nat) (hx0 : x = nI n) (hn : n < 2 ^ 31) (hn0 : n ≤ n0) (hn1 : n ≤ n1) {index : Nat} (hw1 : Cond.methodLink own index arraycopyName ∈ wsL_law) (hw2 : Cond.native arraycopyName ∈ wsL_law) (hw3 : Cond.static arraycopyName ∈ wsL_law) (hw4 : Cond.initialized "java/lang/System" ∈ wsL_law) (hd : 1 ≤ d) (hst : (st.map fun v => v.category).sum + (nativeFrameWords "java/lang/System" "arraycopy" 5 + 11) ≤ 48) (hdg : decode cc pc = .ok (.invokestatic index, 3)) (k : wd_G sd V ad K nL Q (pc + 3) lv st (wd_cp σ q0 q1 n)) : wd_G sd V ad K nL Q pc lv (.int x :: .int 0 :: .ref (ad q1) :: .int 0 :: .ref (ad q0) :: st) σ := by
  obtain ⟨p, e, R, s, m, args, below, meth, c⟩ := K
  obtain ⟨hx, hb, hml, hown, hts, hK, hlk, hrt, hR, hinj⟩ := hC
  subst hR
  intro H locs ls hP hS hl
  subst hx0
  have h0 : (0 : Int32).toNatClampNeg = 0 := rfl
  have h2 : (nI n).toNatClampNeg = n := nI_clamp hn
  refine va_copyi (ty := .int) (c0 := V.2.2 0) (c1 := V.2.2 0) (n0 := n0) (n1 := n1) (f := σ.1 q0) (g := σ.1 q1) hx hb (hml.trans hl.1.symm) hown (hts _ hw1) (hts _ hw2) (hts _ hw3) (hts _ hw4) hK hP (wd_D hinj V.2.2 σ s.heap.size) hS q0 q1 0 0 (by rw [wd_at hq0, hE0]) (by rw [wd_at hq1, hE1]) rfl rfl rfl (by decide) (by decide) (nI_pos hn) (by rw [h0, h2]; omega) (by rw [h0, h2]; omega) (fun i _ => rfl) hd (by show _ ≤ 48 * d; omega) hdg (fun H1 locs1 hP1 hD1 hS1 => ?_)
  rw [h0, h2, wd_set (σ' := wd_cp σ q0 q1 n) (by rw [wd_cp_k]; exact hE1 _) (fun j _ hj => by rw [wd_cp_n _ _ _ _ hj]; rfl)] at hP1
  exact k H1 locs1 ls hP1 hS1 hl

theorem wd_arr {c : ClassId} {n : Nat} {f g : Nat → Int32} (h : ∀ i, i < n → f i = g i) : vp_cell c (n, .inl f) = vp_cell c (n, .inl g) := by
  rw [vp_cell_i, vp_cell_i]
  unfold arrV
  congr 1
  apply Array.ext
  · simp
  · intro i h1 h2
    simp at h1
    simp [h i h1]
/-- worlds whose rows agree where they are looked at -/
theorem wd_eqv {σ' : wd_S} (h : ∀ k, k < sd.1 → sd.2 ad V.2.2 σ.2 k (σ.1 k) = sd.2 ad V.2.2 σ'.2 k (σ'.1 k) ∨ ∃ (c : ClassId) (n : Nat) (f g : Nat → Int32), sd.2 ad V.2.2 σ.2 k (σ.1 k) = .inl (c, n, .inl f) ∧ sd.2 ad V.2.2 σ'.2 k (σ'.1 k) = .inl (c, n, .inl g) ∧ ∀ i, i < n → f i = g i) (D : va_G) (H : Heap) (hP : va_P D vwCl (wd_cells sd ad V.2.2 σ) H) : va_P D vwCl (wd_cells sd ad V.2.2 σ') H := by
  intro k q hq
  obtain ⟨hk, rfl⟩ := wd_at' hq
  have h1 := hP k _ (wd_at hk)
  rcases h k hk with h2 | ⟨c, n, f, g, e1, e2, e3⟩
  · rw [← h2]
    exact h1
  · rw [e1] at h1
    rw [e2]
    show H[ad k]? = some (vp_cell c (n, .inl g))
    rw [← wd_arr e3]
    exact h1

theorem wd_mmax (hC : wd_Ok sd V ad K own cc nL d ret) {x y : Int32} {index : Nat} (hw1 : Cond.methodLink own index Lib.Math.max.name ∈ wsL_law) (hw2 : Cond.static Lib.Math.max.name ∈ wsL_law) (hw3 : Cond.initialized "java/lang/Math" ∈ wsL_law) (hw4 : Cond.code Lib.Math.max.name Lib.Math.max.code 2 (some .int) ∈ wsL_law) (hd : 1 ≤ d) (hst : (st.map fun v => v.category).sum + 13 ≤ 48) (hdg : decode cc pc = .ok (.invokestatic index, 3)) (k : wd_G sd V ad K nL Q (pc + 3) lv (.int (if x < y then y else x) :: st) σ) : wd_G sd V ad K nL Q pc lv (.int y :: .int x :: st) σ := by
  obtain ⟨p, e, R, s, m, args, below, meth, c⟩ := K
  obtain ⟨hx, hb, hml, hown, hts, hK, hlk, hrt, hR, hinj⟩ := hC
  subst hR
  intro H locs ls hP hS hl
  exact va_mmax hx hb (hml.trans hl.1.symm) hown (hts _ hw1) (hts _ hw2) (hts _ hw3) (hts _ hw4) hd (by show _ ≤ 48 * d; omega) (Nat.zero_le _) (Nat.zero_le _) hdg (k H locs ls hP hS hl)

theorem wd_mmin (hC : wd_Ok sd V ad K own cc nL d ret) {x y : Int32} {index : Nat} (hw1 : Cond.methodLink own index Lib.Math.min.name ∈ wsL_law) (hw2 : Cond.static Lib.Math.min.name ∈ wsL_law) (hw3 : Cond.initialized "java/lang/Math" ∈ wsL_law) (hw4 : Cond.code Lib.Math.min.name Lib.Math.min.code 2 (some .int) ∈ wsL_law) (hd : 1 ≤ d) (hst : (st.map fun v => v.category).sum + 13 ≤ 48) (hdg : decode cc pc = .ok (.invokestatic index, 3)) (k : wd_G sd V ad K nL Q (pc + 3) lv (.int (if y < x then y else x) :: st) σ) : wd_G sd V ad K nL Q pc lv (.int y :: .int x :: st) σ := by
  obtain ⟨p, e, R, s, m, args, below, meth, c⟩ := K
  obtain ⟨hx, hb, hml, hown, hts, hK, hlk, hrt, hR, hinj⟩ := hC
  subst hR
  intro H locs ls hP hS hl
  exact va_mmin hx hb (hml.trans hl.1.symm) hown (hts _ hw1) (hts _ hw2) (hts _ hw3) (hts _ hw4) hd (by show _ ≤ 48 * d; omega) (Nat.zero_le _) (Nat.zero_le _) hdg (k H locs ls hP hS hl)

theorem wd_iretP (hC : wd_Ok sd V ad K own cc nL d ret) (hr : ret = some .int) {v : Int32} {P : wd_P}  (hdg : decode cc pc = .ok (.ireturn, 1)) (h : P (some (.int v)) σ) : wd_G sd V ad K nL (wd_Qm sd V ad K P) pc lv [.int v] σ := by
  obtain ⟨p, e, R, s, m, args, below, meth, c⟩ := K
  obtain ⟨hx, hb, hml, hown, hts, hK, hlk, hrt, hR, hinj⟩ := hC
  subst hR
  intro H locs ls hP hS hl
  exact W.iret hx hb (hrt.trans hr)  (fun t ht hW => ⟨⟨_, _, rfl, h, by rw [ht]; exact hP⟩, hS.F ht⟩) hS.2.2 hdg hlk
theorem wd_iret (hC : wd_Ok sd V ad K own cc nL d ret) (hr : ret = some .int) {v v' : Int32} {σ' : wd_S}  (hdg : decode cc pc = .ok (.ireturn, 1)) (hv : v = v') (hs : σ = σ') : wd_G sd V ad K nL (wd_Qm sd V ad K (wd_eq (some (.int v')) σ')) pc lv [.int v] σ := wd_iretP hC hr  hdg ⟨by rw [hv], hs⟩

theorem wd_zretP (hC : wd_Ok sd V ad K own cc nL d ret) (hr : ret = some .boolean) {v : Int32} {P : wd_P} (hn : narrow .boolean (.int v) = .int v) (hdg : decode cc pc = .ok (.ireturn, 1)) (h : P (some (.int v)) σ) : wd_G sd V ad K nL (wd_Qm sd V ad K P) pc lv [.int v] σ := by
  obtain ⟨p, e, R, s, m, args, below, meth, c⟩ := K
  obtain ⟨hx, hb, hml, hown, hts, hK, hlk, hrt, hR, hinj⟩ := hC
  subst hR
  intro H locs ls hP hS hl
  exact W.zret hx hb (hrt.trans hr) hn (fun t ht hW => ⟨⟨_, _, rfl, h, by rw [ht]; exact hP⟩, hS.F ht⟩) hS.2.2 hdg hlk
theorem wd_zret (hC : wd_Ok sd V ad K own cc nL d ret) (hr : ret = some .boolean) {v v' : Int32} {σ' : wd_S} (hn : narrow .boolean (.int v) = .int v) (hdg : decode cc pc = .ok (.ireturn, 1)) (hv : v = v') (hs : σ = σ') : wd_G sd V ad K nL (wd_Qm sd V ad K (wd_eq (some (.int v')) σ')) pc lv [.int v] σ := wd_zretP hC hr hn hdg ⟨by rw [hv], hs⟩

theorem wd_lretP (hC : wd_Ok sd V ad K own cc nL d ret) (hr : ret = some .long) {v : Int64} {P : wd_P}  (hdg : decode cc pc = .ok (.lreturn, 1)) (h : P (some (.long v)) σ) : wd_G sd V ad K nL (wd_Qm sd V ad K P) pc lv [.long v] σ := by
  obtain ⟨p, e, R, s, m, args, below, meth, c⟩ := K
  obtain ⟨hx, hb, hml, hown, hts, hK, hlk, hrt, hR, hinj⟩ := hC
  subst hR
  intro H locs ls hP hS hl
  exact W.lret hx hb (hrt.trans hr)  (fun t ht hW => ⟨⟨_, _, rfl, h, by rw [ht]; exact hP⟩, hS.F ht⟩) hS.2.2 hdg hlk
theorem wd_lret (hC : wd_Ok sd V ad K own cc nL d ret) (hr : ret = some .long) {v v' : Int64} {σ' : wd_S}  (hdg : decode cc pc = .ok (.lreturn, 1)) (hv : v = v') (hs : σ = σ') : wd_G sd V ad K nL (wd_Qm sd V ad K (wd_eq (some (.long v')) σ')) pc lv [.long v] σ := wd_lretP hC hr  hdg ⟨by rw [hv], hs⟩

theorem wd_vretP (hC : wd_Ok sd V ad K own cc nL d ret) (hr : ret = none) {P : wd_P} (hdg : decode cc pc = .ok (.return_, 1)) (h : P none σ) : wd_G sd V ad K nL (wd_Qm sd V ad K P) pc lv [] σ := by
  obtain ⟨p, e, R, s, m, args, below, meth, c⟩ := K
  obtain ⟨hx, hb, hml, hown, hts, hK, hlk, hrt, hR, hinj⟩ := hC
  subst hR
  intro H locs ls hP hS hl
  exact W.vret hx hb (hrt.trans hr) (fun t ht hW => ⟨⟨_, _, rfl, h, by rw [ht]; exact hP⟩, hS.F ht⟩) hS.2.2 hdg hlk
theorem wd_vret (hC : wd_Ok sd V ad K own cc nL d ret) (hr : ret = none) {σ' : wd_S} (hdg : decode cc pc = .ok (.return_, 1)) (hs : σ = σ') : wd_G sd V ad K nL (wd_Qm sd V ad K (wd_eq none σ')) pc lv [] σ := wd_vretP hC hr hdg ⟨rfl, hs⟩
/-- another name of the same world -/
theorem wd_to {σ' : wd_S} (h : ∀ (D : va_G) (H : Heap), va_P D vwCl (wd_cells sd ad V.2.2 σ) H → va_P D vwCl (wd_cells sd ad V.2.2 σ') H) (k : wd_G sd V ad K nL Q pc lv st σ') : wd_G sd V ad K nL Q pc lv st σ := by
  obtain ⟨p, e, R, s, m, args, below, meth, c⟩ := K
  intro H locs ls hP hS hl
  exact k H locs ls (h _ H hP) hS hl

theorem wd_goodL : wsL_law.all goodWord = true := by decide +kernel
theorem wd_good {big : List Cond} (hb : ∀ w ∈ wsL_law, w ∈ big) {ws : List Cond} (h : ∀ w ∈ ws, w ∈ wsL_law) : GoodIn big ws := fun w hw => ⟨hb w (h w hw), good_of_word (List.all_eq_true.mp wd_goodL w (h w hw))⟩
def wd_wV (own : String) (index : Nat) (C : String) (y : MethodName) (bytes : ByteArray) (maxL : Nat) (rt : Option FieldType) (n : Nat) : Prop := Cond.methodLink own index y ∈ wsL_law ∧ Cond.instanceMethod y ∈ wsL_law ∧ Cond.selects C y y ∈ wsL_law ∧ Cond.initialized C ∈ wsL_law ∧ Cond.code y bytes maxL rt ∈ wsL_law ∧ (y.cls = C ∧ y.cls ≠ "java/lang/invoke/MethodHandle" ∧ y.cls ≠ "java/lang/invoke/VarHandle" ∧ (parseMethodDescriptor y.desc).map (fun d => d.parameters.length) = some n)
def wd_wS (own : String) (index : Nat) (y : MethodName) (bytes : ByteArray) (maxL : Nat) (rt : Option FieldType) (n : Nat) : Prop := Cond.methodLink own index y ∈ wsL_law ∧ Cond.static y ∈ wsL_law ∧ Cond.initialized y.cls ∈ wsL_law ∧ Cond.code y bytes maxL rt ∈ wsL_law ∧ (y.cls ≠ "java/lang/invoke/MethodHandle" ∧ y.cls ≠ "java/lang/invoke/VarHandle" ∧ (parseMethodDescriptor y.desc).map (fun d => d.parameters.length) = some n)
theorem wd_back {p : Program} {V : wd_V} {e : Env} {R : Room} {s : State} {m : MethodId} {args : Array Value} {below : List Frame} {meth : Method} {c : Code} {H : Heap} {locs : List Loc} {Q : State → Prop} {pc : Nat} {ls : Array Slot} {st0 rest : List Value} {sd : wd_Side} {ad : Nat → Nat} {P : wd_P} {a : Array Value} (hr : va_Run p V.1 e R s m args below meth c H locs 0 0 0 0 (F0 m pc ls st0) rest (wd_Qc sd V ad P H.size a) (wd_A sd ad H.size)) (hS : va_S (wd_A sd ad s.heap.size) s.heap H locs)
    (kk : ∀ (v : Option Value) (σ' : wd_S) (H1 : Heap) (locs1 : List Loc), P v σ' → va_P V.2.1 vwCl (wd_cells sd ad V.2.2 σ') H1 → va_S (wd_A sd ad s.heap.size) s.heap H1 locs1 → W p V.1 e R s m args below meth c H1 locs1 0 0 Q (F0 m (pc + 3) ls (v.toList ++ rest))) : W p V.1 e R s m args below meth c H locs 0 0 Q (F0 m pc ls st0) := by
  intro T hT X
  obtain ⟨v1, st₀, t, T', L, h0, X', hL, e1, e2, ⟨⟨v, σ', hv, hPv, hp⟩, hz, hk⟩, stp⟩ := hr T hT X
  cases hv
  rw [h0] at hz hk
  have hAA : ∀ q, q < H.size → wd_A sd ad H.size q → wd_A sd ad s.heap.size q := fun q hq h => by
    rcases h with h | h
    · exact Or.inl h
    · omega
  obtain ⟨t2, a1, b1⟩ := kk v1 σ' T'.heap (locs ++ L) hPv (by rw [e1]; exact hp)
    ⟨Nat.le_trans hS.1 (by rw [e1]; exact hz), fun q h1 h2 => by
      rw [e1, hk q (Nat.lt_of_lt_of_le h1 hS.1) (fun z => h2 (hAA q (Nat.lt_of_lt_of_le h1 hS.1) z))]
      exact hS.2.1 q h1 h2, fun q hq => by
      rcases List.mem_append.mp hq with h | h
      · exact hS.2.2 q h
      · rcases hL q h with h | h
        · exact Or.inl h
        · exact Or.inr (Nat.le_trans hS.1 h)⟩ T' rfl X'
  exact ⟨t2, stp t2 a1, b1⟩
theorem wd_callV (hC : wd_Ok sd V ad K own cc nL d ret) {y : MethodName} {bytes : ByteArray} {maxL n index d' : Nat} {rt : Option FieldType} {C : String} {P : wd_P} (hw : wd_wV own index C y bytes maxL rt n) (As : List Value) {q ci : Nat} {T : u_T} {N : Nat} {fs : List Value} (hq : q < sd.1) (hE : sd.2 ad V.2.2 σ.2 q (σ.1 q) = .inr (ci, fs)) (hcl : vwCl[ci]? = some (C, T, N)) (hM : wd_C sd V ad d' y (Cond.code y bytes maxL rt :: wsL_law) σ (.ref (ad q) :: As) P) (hd : d' < d) (hmx : maxL ≤ 29) (hn : As.length = n) {st0 : List Value} (hst : st0 = As.reverse ++ .ref (ad q) :: st) (hsum : (st.map fun v => v.category).sum ≤ 8) (hdg : decode cc pc = .ok (.invokevirtual index, 3)) (k : ∀ (v : Option Value) (σ' : wd_S), P v σ' → wd_G sd V ad K nL Q (pc + 3) lv (v.toList ++ st) σ') : wd_G sd V ad K nL Q pc lv st0 σ := by
  obtain ⟨p, e, R, s, m, args, below, meth, c⟩ := K
  obtain ⟨hx, hb, hml, hown, hts, hK, hlk, hrt, hR, hinj⟩ := hC
  subst hR
  obtain ⟨w1, w2, w3, w4, w5, hw6⟩ := hw
  intro H locs ls hP hS hl
  refine wd_back (va_runV (As := As) (rest := st) ⟨hx, hb, hml, hown, hts⟩ (hM H.size) (cwV n hts (wd_good (fun _ h => h) ?_) rfl rfl rfl hw6 ⟨?_, ?_⟩) ⟨wd_blind, va_recv hK hP hcl (q0 := q) (by rw [wd_at hq, hE]), fun U hU hW => ⟨rfl, by rw [hU], by rw [hU]; exact hP, va_K.moved hW.alike hK⟩⟩ rfl hn hl.1 hst (lv_room hsum) hdg ⟨Nat.zero_le _, Nat.zero_le _⟩) hS (fun v σ' H1 locs1 hPv hP1 hS1 => k v σ' hPv H1 locs1 ls hP1 hS1 hl)
  · intro w hw
    simp only [wsV, List.mem_append, List.mem_cons, List.not_mem_nil, or_false] at hw
    rcases hw with (rfl | rfl | rfl | rfl) | (rfl | hw)
    · exact w1
    · exact w2
    · exact w3
    · exact w4
    · exact w5
    · exact hw
  · show d' + 1 ≤ d
    omega
  · show 8 + (maxL + 11) + 48 * d' ≤ 48 * d
    omega
theorem wd_callS (hC : wd_Ok sd V ad K own cc nL d ret) {y : MethodName} {bytes : ByteArray} {maxL n index d' : Nat} {rt : Option FieldType} {P : wd_P} (hw : wd_wS own index y bytes maxL rt n) (As : List Value) (hM : wd_C sd V ad d' y (Cond.code y bytes maxL rt :: wsL_law) σ As P) (hd : d' < d) (hmx : maxL ≤ 29) (hn : As.length = n) {st0 : List Value} (hst : st0 = As.reverse ++ st) (hsum : (st.map fun v => v.category).sum ≤ 8) (hdg : decode cc pc = .ok (.invokestatic index, 3)) (k : ∀ (v : Option Value) (σ' : wd_S), P v σ' → wd_G sd V ad K nL Q (pc + 3) lv (v.toList ++ st) σ') : wd_G sd V ad K nL Q pc lv st0 σ := by
  obtain ⟨p, e, R, s, m, args, below, meth, c⟩ := K
  obtain ⟨hx, hb, hml, hown, hts, hK, hlk, hrt, hR, hinj⟩ := hC
  subst hR
  obtain ⟨w1, w2, w3, w4, hw6⟩ := hw
  intro H locs ls hP hS hl
  refine wd_back (va_runS (As := As) (rest := st) ⟨hx, hb, hml, hown, hts⟩ (hM H.size) (va_cwS n hts (wd_good (fun _ h => h) ?_) rfl rfl rfl hw6 ⟨?_, ?_⟩) ⟨wd_blind, fun U hU hW => ⟨rfl, by rw [hU], by rw [hU]; exact hP, va_K.moved hW.alike hK⟩⟩ rfl hn hl.1 hst (lv_room hsum) hdg ⟨Nat.zero_le _, Nat.zero_le _⟩) hS (fun v σ' H1 locs1 hPv hP1 hS1 => k v σ' hPv H1 locs1 ls hP1 hS1 hl)
  · intro w hw
    simp only [va_wsS, List.mem_append, List.mem_cons, List.not_mem_nil, or_false] at hw
    rcases hw with (rfl | rfl | rfl) | (rfl | hw)
    · exact w1
    · exact w2
    · exact w3
    · exact w4
    · exact hw
  · show d' + 1 ≤ d
    omega
  · show 8 + (maxL + 11) + 48 * d' ≤ 48 * d
    omega
end WD
end
section
/-! ===== where each word stands ===== -/
theorem wL_1 : ∀ w ∈ wsL_law_r1, w ∈ wsL_law := fun _ h => List.mem_append_left _ (List.mem_append_left _ (List.mem_append_left _ (List.mem_append_left _ (List.mem_append_left _ (List.mem_append_left _ (List.mem_append_left _ (List.mem_append_left _ (h))))))))
theorem wL_2 : ∀ w ∈ wsL_law_r2, w ∈ wsL_law := fun _ h => List.mem_append_left _ (List.mem_append_left _ (List.mem_append_left _ (List.mem_append_left _ (List.mem_append_left _ (List.mem_append_left _ (List.mem_append_left _ (List.mem_append_right _ (List.mem_append_left _ (h)))))))))
theorem wL_3 : ∀ w ∈ wsL_law_r3, w ∈ wsL_law := fun _ h => List.mem_append_left _ (List.mem_append_left _ (List.mem_append_left _ (List.mem_append_left _ (List.mem_append_left _ (List.mem_append_left _ (List.mem_append_left _ (List.mem_append_right _ (List.mem_append_right _ (List.mem_append_left _ (h))))))))))
theorem wL_4 : ∀ w ∈ wsL_law_r4, w ∈ wsL_law := fun _ h => List.mem_append_left _ (List.mem_append_left _ (List.mem_append_left _ (List.mem_append_left _ (List.mem_append_left _ (List.mem_append_left _ (List.mem_append_left _ (List.mem_append_right _ (List.mem_append_right _ (List.mem_append_right _ (List.mem_append_left _ (h)))))))))))
theorem wL_5 : ∀ w ∈ wsL_law_r5, w ∈ wsL_law := fun _ h => List.mem_append_left _ (List.mem_append_left _ (List.mem_append_left _ (List.mem_append_left _ (List.mem_append_left _ (List.mem_append_left _ (List.mem_append_left _ (List.mem_append_right _ (List.mem_append_right _ (List.mem_append_right _ (List.mem_append_right _ (List.mem_append_left _ (h))))))))))))
theorem wL_6 : ∀ w ∈ wsL_law_r6, w ∈ wsL_law := fun _ h => List.mem_append_left _ (List.mem_append_left _ (List.mem_append_left _ (List.mem_append_left _ (List.mem_append_left _ (List.mem_append_left _ (List.mem_append_left _ (List.mem_append_right _ (List.mem_append_right _ (List.mem_append_right _ (List.mem_append_right _ (List.mem_append_right _ (List.mem_append_left _ (h)))))))))))))
theorem wL_7 : ∀ w ∈ wsL_law_r7, w ∈ wsL_law := fun _ h => List.mem_append_left _ (List.mem_append_left _ (List.mem_append_left _ (List.mem_append_left _ (List.mem_append_left _ (List.mem_append_left _ (List.mem_append_left _ (List.mem_append_right _ (List.mem_append_right _ (List.mem_append_right _ (List.mem_append_right _ (List.mem_append_right _ (List.mem_append_right _ (List.mem_append_left _ (h))))))))))))))
theorem wL_8 : ∀ w ∈ wsL_law_r8, w ∈ wsL_law := fun _ h => List.mem_append_left _ (List.mem_append_left _ (List.mem_append_left _ (List.mem_append_left _ (List.mem_append_left _ (List.mem_append_left _ (List.mem_append_left _ (List.mem_append_right _ (List.mem_append_right _ (List.mem_append_right _ (List.mem_append_right _ (List.mem_append_right _ (List.mem_append_right _ (List.mem_append_right _ (List.mem_append_left _ (h)))))))))))))))
theorem wL_9 : ∀ w ∈ wsL_law_r9, w ∈ wsL_law := fun _ h => List.mem_append_left _ (List.mem_append_left _ (List.mem_append_left _ (List.mem_append_left _ (List.mem_append_left _ (List.mem_append_left _ (List.mem_append_left _ (List.mem_append_right _ (List.mem_append_right _ (List.mem_append_right _ (List.mem_append_right _ (List.mem_append_right _ (List.mem_append_right _ (List.mem_append_right _ (List.mem_append_right _ (List.mem_append_left _ (h))))))))))))))))
theorem wL_10 : ∀ w ∈ wsL_law_r10, w ∈ wsL_law := fun _ h => List.mem_append_left _ (List.mem_append_left _ (List.mem_append_left _ (List.mem_append_left _ (List.mem_append_left _ (List.mem_append_left _ (List.mem_append_left _ (List.mem_append_right _ (List.mem_append_right _ (List.mem_append_right _ (List.mem_append_right _ (List.mem_append_right _ (List.mem_append_right _ (List.mem_append_right _ (List.mem_append_right _ (List.mem_append_right _ (List.mem_append_left _ (h)))))))))))))))))
theorem wL_11 : ∀ w ∈ wsL_law_r11, w ∈ wsL_law := fun _ h => List.mem_append_left _ (List.mem_append_left _ (List.mem_append_left _ (List.mem_append_left _ (List.mem_append_left _ (List.mem_append_left _ (List.mem_append_left _ (List.mem_append_right _ (List.mem_append_right _ (List.mem_append_right _ (List.mem_append_right _ (List.mem_append_right _ (List.mem_append_right _ (List.mem_append_right _ (List.mem_append_right _ (List.mem_append_right _ (List.mem_append_right _ (List.mem_append_left _ (h))))))))))))))))))
theorem wL_12 : ∀ w ∈ wsL_law_r12, w ∈ wsL_law := fun _ h => List.mem_append_left _ (List.mem_append_left _ (List.mem_append_left _ (List.mem_append_left _ (List.mem_append_left _ (List.mem_append_left _ (List.mem_append_left _ (List.mem_append_right _ (List.mem_append_right _ (List.mem_append_right _ (List.mem_append_right _ (List.mem_append_right _ (List.mem_append_right _ (List.mem_append_right _ (List.mem_append_right _ (List.mem_append_right _ (List.mem_append_right _ (List.mem_append_right _ (List.mem_append_left _ (h)))))))))))))))))))
theorem wL_13 : ∀ w ∈ wsL_law_r13, w ∈ wsL_law := fun _ h => List.mem_append_left _ (List.mem_append_left _ (List.mem_append_left _ (List.mem_append_left _ (List.mem_append_left _ (List.mem_append_left _ (List.mem_append_left _ (List.mem_append_right _ (List.mem_append_right _ (List.mem_append_right _ (List.mem_append_right _ (List.mem_append_right _ (List.mem_append_right _ (List.mem_append_right _ (List.mem_append_right _ (List.mem_append_right _ (List.mem_append_right _ (List.mem_append_right _ (List.mem_append_right _ (List.mem_append_left _ (h))))))))))))))))))))
theorem wL_14 : ∀ w ∈ wsL_law_r14, w ∈ wsL_law := fun _ h => List.mem_append_left _ (List.mem_append_left _ (List.mem_append_left _ (List.mem_append_left _ (List.mem_append_left _ (List.mem_append_left _ (List.mem_append_left _ (List.mem_append_right _ (List.mem_append_right _ (List.mem_append_right _ (List.mem_append_right _ (List.mem_append_right _ (List.mem_append_right _ (List.mem_append_right _ (List.mem_append_right _ (List.mem_append_right _ (List.mem_append_right _ (List.mem_append_right _ (List.mem_append_right _ (List.mem_append_right _ (List.mem_append_left _ (h)))))))))))))))))))))
theorem wL_15 : ∀ w ∈ wsL_law_r15, w ∈ wsL_law := fun _ h => List.mem_append_left _ (List.mem_append_left _ (List.mem_append_left _ (List.mem_append_left _ (List.mem_append_left _ (List.mem_append_left _ (List.mem_append_left _ (List.mem_append_right _ (List.mem_append_right _ (List.mem_append_right _ (List.mem_append_right _ (List.mem_append_right _ (List.mem_append_right _ (List.mem_append_right _ (List.mem_append_right _ (List.mem_append_right _ (List.mem_append_right _ (List.mem_append_right _ (List.mem_append_right _ (List.mem_append_right _ (List.mem_append_right _ (List.mem_append_left _ (h))))))))))))))))))))))
theorem wL_16 : ∀ w ∈ wsL_law_r16, w ∈ wsL_law := fun _ h => List.mem_append_left _ (List.mem_append_left _ (List.mem_append_left _ (List.mem_append_left _ (List.mem_append_left _ (List.mem_append_left _ (List.mem_append_left _ (List.mem_append_right _ (List.mem_append_right _ (List.mem_append_right _ (List.mem_append_right _ (List.mem_append_right _ (List.mem_append_right _ (List.mem_append_right _ (List.mem_append_right _ (List.mem_append_right _ (List.mem_append_right _ (List.mem_append_right _ (List.mem_append_right _ (List.mem_append_right _ (List.mem_append_right _ (List.mem_append_right _ (List.mem_append_left _ (h)))))))))))))))))))))))
theorem wL_17 : ∀ w ∈ wsL_law_r17, w ∈ wsL_law := fun _ h => List.mem_append_left _ (List.mem_append_left _ (List.mem_append_left _ (List.mem_append_left _ (List.mem_append_left _ (List.mem_append_left _ (List.mem_append_left _ (List.mem_append_right _ (List.mem_append_right _ (List.mem_append_right _ (List.mem_append_right _ (List.mem_append_right _ (List.mem_append_right _ (List.mem_append_right _ (List.mem_append_right _ (List.mem_append_right _ (List.mem_append_right _ (List.mem_append_right _ (List.mem_append_right _ (List.mem_append_right _ (List.mem_append_right _ (List.mem_append_right _ (List.mem_append_right _ (List.mem_append_left _ (h))))))))))))))))))))))))
theorem wL_18 : ∀ w ∈ wsL_law_r18, w ∈ wsL_law := fun _ h => List.mem_append_left _ (List.mem_append_left _ (List.mem_append_left _ (List.mem_append_left _ (List.mem_append_left _ (List.mem_append_left _ (List.mem_append_left _ (List.mem_append_right _ (List.mem_append_right _ (List.mem_append_right _ (List.mem_append_right _ (List.mem_append_right _ (List.mem_append_right _ (List.mem_append_right _ (List.mem_append_right _ (List.mem_append_right _ (List.mem_append_right _ (List.mem_append_right _ (List.mem_append_right _ (List.mem_append_right _ (List.mem_append_right _ (List.mem_append_right _ (List.mem_append_right _ (List.mem_append_right _ (List.mem_append_left _ (h)))))))))))))))))))))))))
theorem wL_19 : ∀ w ∈ wsL_law_r19, w ∈ wsL_law := fun _ h => List.mem_append_left _ (List.mem_append_left _ (List.mem_append_left _ (List.mem_append_left _ (List.mem_append_left _ (List.mem_append_left _ (List.mem_append_left _ (List.mem_append_right _ (List.mem_append_right _ (List.mem_append_right _ (List.mem_append_right _ (List.mem_append_right _ (List.mem_append_right _ (List.mem_append_right _ (List.mem_append_right _ (List.mem_append_right _ (List.mem_append_right _ (List.mem_append_right _ (List.mem_append_right _ (List.mem_append_right _ (List.mem_append_right _ (List.mem_append_right _ (List.mem_append_right _ (List.mem_append_right _ (List.mem_append_right _ (List.mem_append_left _ (h))))))))))))))))))))))))))
theorem wL_20 : ∀ w ∈ wsL_law_r20, w ∈ wsL_law := fun _ h => List.mem_append_left _ (List.mem_append_left _ (List.mem_append_left _ (List.mem_append_left _ (List.mem_append_left _ (List.mem_append_left _ (List.mem_append_left _ (List.mem_append_right _ (List.mem_append_right _ (List.mem_append_right _ (List.mem_append_right _ (List.mem_append_right _ (List.mem_append_right _ (List.mem_append_right _ (List.mem_append_right _ (List.mem_append_right _ (List.mem_append_right _ (List.mem_append_right _ (List.mem_append_right _ (List.mem_append_right _ (List.mem_append_right _ (List.mem_append_right _ (List.mem_append_right _ (List.mem_append_right _ (List.mem_append_right _ (List.mem_append_right _ (List.mem_append_left _ (h)))))))))))))))))))))))))))
theorem wL_21 : ∀ w ∈ wsL_law_r21, w ∈ wsL_law := fun _ h => List.mem_append_left _ (List.mem_append_left _ (List.mem_append_left _ (List.mem_append_left _ (List.mem_append_left _ (List.mem_append_left _ (List.mem_append_left _ (List.mem_append_right _ (List.mem_append_right _ (List.mem_append_right _ (List.mem_append_right _ (List.mem_append_right _ (List.mem_append_right _ (List.mem_append_right _ (List.mem_append_right _ (List.mem_append_right _ (List.mem_append_right _ (List.mem_append_right _ (List.mem_append_right _ (List.mem_append_right _ (List.mem_append_right _ (List.mem_append_right _ (List.mem_append_right _ (List.mem_append_right _ (List.mem_append_right _ (List.mem_append_right _ (List.mem_append_right _ (List.mem_append_left _ (h))))))))))))))))))))))))))))
theorem wL_22 : ∀ w ∈ wsL_law_r22, w ∈ wsL_law := fun _ h => List.mem_append_left _ (List.mem_append_left _ (List.mem_append_left _ (List.mem_append_left _ (List.mem_append_left _ (List.mem_append_left _ (List.mem_append_left _ (List.mem_append_right _ (List.mem_append_right _ (List.mem_append_right _ (List.mem_append_right _ (List.mem_append_right _ (List.mem_append_right _ (List.mem_append_right _ (List.mem_append_right _ (List.mem_append_right _ (List.mem_append_right _ (List.mem_append_right _ (List.mem_append_right _ (List.mem_append_right _ (List.mem_append_right _ (List.mem_append_right _ (List.mem_append_right _ (List.mem_append_right _ (List.mem_append_right _ (List.mem_append_right _ (List.mem_append_right _ (List.mem_append_right _ (List.mem_append_left _ (h)))))))))))))))))))))))))))))
theorem wL_23 : ∀ w ∈ wsL_law_r23, w ∈ wsL_law := fun _ h => List.mem_append_left _ (List.mem_append_left _ (List.mem_append_left _ (List.mem_append_left _ (List.mem_append_left _ (List.mem_append_left _ (List.mem_append_left _ (List.mem_append_right _ (List.mem_append_right _ (List.mem_append_right _ (List.mem_append_right _ (List.mem_append_right _ (List.mem_append_right _ (List.mem_append_right _ (List.mem_append_right _ (List.mem_append_right _ (List.mem_append_right _ (List.mem_append_right _ (List.mem_append_right _ (List.mem_append_right _ (List.mem_append_right _ (List.mem_append_right _ (List.mem_append_right _ (List.mem_append_right _ (List.mem_append_right _ (List.mem_append_right _ (List.mem_append_right _ (List.mem_append_right _ (List.mem_append_right _ (List.mem_append_left _ (h))))))))))))))))))))))))))))))
theorem wL_24 : ∀ w ∈ wsL_law_r24, w ∈ wsL_law := fun _ h => List.mem_append_left _ (List.mem_append_left _ (List.mem_append_left _ (List.mem_append_left _ (List.mem_append_left _ (List.mem_append_left _ (List.mem_append_left _ (List.mem_append_right _ (List.mem_append_right _ (List.mem_append_right _ (List.mem_append_right _ (List.mem_append_right _ (List.mem_append_right _ (List.mem_append_right _ (List.mem_append_right _ (List.mem_append_right _ (List.mem_append_right _ (List.mem_append_right _ (List.mem_append_right _ (List.mem_append_right _ (List.mem_append_right _ (List.mem_append_right _ (List.mem_append_right _ (List.mem_append_right _ (List.mem_append_right _ (List.mem_append_right _ (List.mem_append_right _ (List.mem_append_right _ (List.mem_append_right _ (List.mem_append_right _ (List.mem_append_left _ (h)))))))))))))))))))))))))))))))
theorem wL_25 : ∀ w ∈ wsL_law_r25, w ∈ wsL_law := fun _ h => List.mem_append_left _ (List.mem_append_left _ (List.mem_append_left _ (List.mem_append_left _ (List.mem_append_left _ (List.mem_append_left _ (List.mem_append_left _ (List.mem_append_right _ (List.mem_append_right _ (List.mem_append_right _ (List.mem_append_right _ (List.mem_append_right _ (List.mem_append_right _ (List.mem_append_right _ (List.mem_append_right _ (List.mem_append_right _ (List.mem_append_right _ (List.mem_append_right _ (List.mem_append_right _ (List.mem_append_right _ (List.mem_append_right _ (List.mem_append_right _ (List.mem_append_right _ (List.mem_append_right _ (List.mem_append_right _ (List.mem_append_right _ (List.mem_append_right _ (List.mem_append_right _ (List.mem_append_right _ (List.mem_append_right _ (List.mem_append_right _ (List.mem_append_left _ (h))))))))))))))))))))))))))))))))
theorem wL_26 : ∀ w ∈ wsL_law_r26, w ∈ wsL_law := fun _ h => List.mem_append_left _ (List.mem_append_left _ (List.mem_append_left _ (List.mem_append_left _ (List.mem_append_left _ (List.mem_append_left _ (List.mem_append_left _ (List.mem_append_right _ (List.mem_append_right _ (List.mem_append_right _ (List.mem_append_right _ (List.mem_append_right _ (List.mem_append_right _ (List.mem_append_right _ (List.mem_append_right _ (List.mem_append_right _ (List.mem_append_right _ (List.mem_append_right _ (List.mem_append_right _ (List.mem_append_right _ (List.mem_append_right _ (List.mem_append_right _ (List.mem_append_right _ (List.mem_append_right _ (List.mem_append_right _ (List.mem_append_right _ (List.mem_append_right _ (List.mem_append_right _ (List.mem_append_right _ (List.mem_append_right _ (List.mem_append_right _ (List.mem_append_right _ (List.mem_append_left _ (h)))))))))))))))))))))))))))))))))
theorem wL_27 : ∀ w ∈ wsL_law_r27, w ∈ wsL_law := fun _ h => List.mem_append_left _ (List.mem_append_left _ (List.mem_append_left _ (List.mem_append_left _ (List.mem_append_left _ (List.mem_append_left _ (List.mem_append_left _ (List.mem_append_right _ (List.mem_append_right _ (List.mem_append_right _ (List.mem_append_right _ (List.mem_append_right _ (List.mem_append_right _ (List.mem_append_right _ (List.mem_append_right _ (List.mem_append_right _ (List.mem_append_right _ (List.mem_append_right _ (List.mem_append_right _ (List.mem_append_right _ (List.mem_append_right _ (List.mem_append_right _ (List.mem_append_right _ (List.mem_append_right _ (List.mem_append_right _ (List.mem_append_right _ (List.mem_append_right _ (List.mem_append_right _ (List.mem_append_right _ (List.mem_append_right _ (List.mem_append_right _ (List.mem_append_right _ (List.mem_append_right _ (List.mem_append_left _ (h))))))))))))))))))))))))))))))))))
theorem wL_28 : ∀ w ∈ wsL_law_r28, w ∈ wsL_law := fun _ h => List.mem_append_left _ (List.mem_append_left _ (List.mem_append_left _ (List.mem_append_left _ (List.mem_append_left _ (List.mem_append_left _ (List.mem_append_left _ (List.mem_append_right _ (List.mem_append_right _ (List.mem_append_right _ (List.mem_append_right _ (List.mem_append_right _ (List.mem_append_right _ (List.mem_append_right _ (List.mem_append_right _ (List.mem_append_right _ (List.mem_append_right _ (List.mem_append_right _ (List.mem_append_right _ (List.mem_append_right _ (List.mem_append_right _ (List.mem_append_right _ (List.mem_append_right _ (List.mem_append_right _ (List.mem_append_right _ (List.mem_append_right _ (List.mem_append_right _ (List.mem_append_right _ (List.mem_append_right _ (List.mem_append_right _ (List.mem_append_right _ (List.mem_append_right _ (List.mem_append_right _ (List.mem_append_right _ (List.mem_append_left _ (h)))))))))))))))))))))))))))))))))))
theorem wL_29 : ∀ w ∈ wsL_law_r29, w ∈ wsL_law := fun _ h => List.mem_append_left _ (List.mem_append_left _ (List.mem_append_left _ (List.mem_append_left _ (List.mem_append_left _ (List.mem_append_left _ (List.mem_append_left _ (List.mem_append_right _ (List.mem_append_right _ (List.mem_append_right _ (List.mem_append_right _ (List.mem_append_right _ (List.mem_append_right _ (List.mem_append_right _ (List.mem_append_right _ (List.mem_append_right _ (List.mem_append_right _ (List.mem_append_right _ (List.mem_append_right _ (List.mem_append_right _ (List.mem_append_right _ (List.mem_append_right _ (List.mem_append_right _ (List.mem_append_right _ (List.mem_append_right _ (List.mem_append_right _ (List.mem_append_right _ (List.mem_append_right _ (List.mem_append_right _ (List.mem_append_right _ (List.mem_append_right _ (List.mem_append_right _ (List.mem_append_right _ (List.mem_append_right _ (List.mem_append_right _ (List.mem_append_left _ (h))))))))))))))))))))))))))))))))))))
theorem wL_30 : ∀ w ∈ wsL_law_r30, w ∈ wsL_law := fun _ h => List.mem_append_left _ (List.mem_append_left _ (List.mem_append_left _ (List.mem_append_left _ (List.mem_append_left _ (List.mem_append_left _ (List.mem_append_left _ (List.mem_append_right _ (List.mem_append_right _ (List.mem_append_right _ (List.mem_append_right _ (List.mem_append_right _ (List.mem_append_right _ (List.mem_append_right _ (List.mem_append_right _ (List.mem_append_right _ (List.mem_append_right _ (List.mem_append_right _ (List.mem_append_right _ (List.mem_append_right _ (List.mem_append_right _ (List.mem_append_right _ (List.mem_append_right _ (List.mem_append_right _ (List.mem_append_right _ (List.mem_append_right _ (List.mem_append_right _ (List.mem_append_right _ (List.mem_append_right _ (List.mem_append_right _ (List.mem_append_right _ (List.mem_append_right _ (List.mem_append_right _ (List.mem_append_right _ (List.mem_append_right _ (List.mem_append_right _ (h))))))))))))))))))))))))))))))))))))
/-! ===== the class's cells: 0 the object, 1 its text, 2 the letters, 3 the log, 4 its ring, 5 the images, 6 which are kept, 7 and 8 the stubble, 9 the best facing, ct t the two Tolds, cm j the fourteen moments (0 present, 1 trial, 2 and 3 images, 4 .. 13 the ring) ===== -/
def cm (j : Nat) : Nat := 36 + 6 * j
def ct (t : Nat) : Nat := 10 + 13 * t
def cE0 (ad : Nat → Nat) (cy : Nat → ClassId) (x : Int64 × Nat) (k : Nat) (r : Nat → Int32) : va_E := match k with
  | 0 => .inr (4, [.ref (ad 1), .ref (ad (ct x.2)), .ref (ad (ct (1 - x.2))), .ref (ad (cm 0)), .ref (ad (cm 1)), .ref (ad 3), .ref (ad 5), .ref (ad 6), .ref (ad 7), .ref (ad 8), .int (r 10), .ref (ad 9), .int (r 12), .int (r 13), .long x.1])
  | 1 => .inr (2, [.ref (ad 2), .int (r 1), .int (r 2), .int (r 3), .int (r 4)])
  | 2 => .inl (cy 0, 200, .inl r)
  | 3 => .inr (0, [.ref (ad 4), .int (r 1), .int (r 2)])
  | 4 => .inl (cy 2, 10, .inr (.inr (.inr (.inr (fun i => if i < 10 then some (ad (cm (4 + i))) else none)))))
  | 5 => .inl (cy 2, 2, .inr (.inr (.inr (.inr (fun i => if i < 2 then some (ad (cm (2 + i))) else none)))))
  | 6 => .inl (cy 1, 2, .inl r)
  | 7 => .inl (cy 0, 5, .inl r)
  | 8 => .inl (cy 0, 5, .inl r)
  | _ => .inl (cy 0, 6, .inl r)
def cE1 (ad : Nat → Nat) (cy : Nat → ClassId) (k c : Nat) (r : Nat → Int32) : va_E := match c with
  | 0 => .inr (3, [.int (r 0), .ref (ad (k + 1)), .ref (ad (k + 2)), .int (r 3), .ref (ad (k + 3)), .ref (ad (k + 4)), .ref (ad (k + 5)), .ref (ad (k + 6))])
  | 1 => .inl (cy 0, 3, .inl r)
  | 2 => .inl (cy 0, 3, .inl r)
  | 3 => .inl (cy 0, 6, .inl r)
  | 4 => .inl (cy 0, 6, .inl r)
  | 5 => .inl (cy 0, 6, .inl r)
  | 6 => .inl (cy 3, 6, .inr (.inr (.inr (.inr (fun i => if i < 6 then some (ad (k + 1 + i)) else none)))))
  | _ => .inl (cy 0, 3, .inl r)
def cE2 (ad : Nat → Nat) (cy : Nat → ClassId) (k c : Nat) (r : Nat → Int32) : va_E := match c with
  | 0 => .inr (1, [.ref (ad (k + 1)), .ref (ad (k + 2)), .ref (ad (k + 3)), .ref (ad (k + 4)), .ref (ad (k + 5)), .int (r 5), .int (r 6)])
  | _ => .inl (cy 0, 6, .inl r)
def cE (ad : Nat → Nat) (cy : Nat → ClassId) (x : Int64 × Nat) (k : Nat) (r : Nat → Int32) : va_E := if k < 10 then cE0 ad cy x k r else if k < 36 then cE1 ad cy k ((k - 10) % 13) r else cE2 ad cy k ((k - 36) % 6) r
def cS : wd_Side := (120, cE)
section CW
variable {ad : Nat → Nat} {cy : Nat → ClassId} {x : Int64 × Nat} {r : Nat → Int32}
theorem cE_m (j : Nat) : cE ad cy x (cm j) r = .inr (1, [.ref (ad (cm j + 1)), .ref (ad (cm j + 2)), .ref (ad (cm j + 3)), .ref (ad (cm j + 4)), .ref (ad (cm j + 5)), .int (r 5), .int (r 6)]) := by
  have h1 : ¬ cm j < 10 := by unfold cm; omega
  have h2 : ¬ cm j < 36 := by unfold cm; omega
  have h3 : (cm j - 36) % 6 = 0 := by unfold cm; omega
  simp only [cE, if_neg h1, if_neg h2, h3]
  rfl
theorem cE_ma (j c : Nat) (h : 1 ≤ c) (h' : c ≤ 5) : cE ad cy x (cm j + c) r = .inl (cy 0, 6, .inl r) := by
  have h1 : ¬ cm j + c < 10 := by unfold cm; omega
  have h2 : ¬ cm j + c < 36 := by unfold cm; omega
  obtain ⟨e, he⟩ : ∃ e, (cm j + c - 36) % 6 = e + 1 := ⟨c - 1, by unfold cm; omega⟩
  simp only [cE, if_neg h1, if_neg h2, he]
  rfl
theorem cE_t (t : Nat) (ht : t < 2) : cE ad cy x (ct t) r = .inr (3, [.int (r 0), .ref (ad (ct t + 1)), .ref (ad (ct t + 2)), .int (r 3), .ref (ad (ct t + 3)), .ref (ad (ct t + 4)), .ref (ad (ct t + 5)), .ref (ad (ct t + 6))]) := by
  rcases (show t = 0 ∨ t = 1 by omega) with rfl | rfl <;> rfl
theorem cE_tw (t c : Nat) (ht : t < 2) (h : 1 ≤ c) (h' : c ≤ 2) : cE ad cy x (ct t + c) r = .inl (cy 0, 3, .inl r) := by
  rcases (show t = 0 ∨ t = 1 by omega) with rfl | rfl <;> rcases (show c = 1 ∨ c = 2 by omega) with rfl | rfl <;> rfl
theorem cE_ts (t c : Nat) (ht : t < 2) (h : 3 ≤ c) (h' : c ≤ 5) : cE ad cy x (ct t + c) r = .inl (cy 0, 6, .inl r) := by
  rcases (show t = 0 ∨ t = 1 by omega) with rfl | rfl <;> rcases (show c = 3 ∨ c = 4 ∨ c = 5 by omega) with rfl | rfl | rfl <;> rfl
theorem cE_ty (t : Nat) (ht : t < 2) : cE ad cy x (ct t + 6) r = .inl (cy 3, 6, .inr (.inr (.inr (.inr (fun i => if i < 6 then some (ad (ct t + (7 + i))) else none))))) := by
  have h : ∀ i, ct t + (7 + i) = ct t + 6 + 1 + i := fun i => by omega
  simp only [h]
  rcases (show t = 0 ∨ t = 1 by omega) with rfl | rfl <;> rfl
theorem cE_tr (t m : Nat) (ht : t < 2) (hm : m < 6) : cE ad cy x (ct t + (7 + m)) r = .inl (cy 0, 3, .inl r) := by
  rcases (show t = 0 ∨ t = 1 by omega) with rfl | rfl <;> rcases (show m = 0 ∨ m = 1 ∨ m = 2 ∨ m = 3 ∨ m = 4 ∨ m = 5 by omega) with rfl | rfl | rfl | rfl | rfl | rfl <;> rfl
/-- another cell than the object hangs on nothing but its row -/
theorem cE_x {x' : Int64 × Nat} {k : Nat} (hk : k ≠ 0) : cE ad cy x k r = cE ad cy x' k r := by
  unfold cE
  by_cases h : k < 10
  · rw [if_pos h, if_pos h]
    rcases (show k = 1 ∨ k = 2 ∨ k = 3 ∨ k = 4 ∨ k = 5 ∨ k = 6 ∨ k = 7 ∨ k = 8 ∨ k = 9 by omega) with rfl | rfl | rfl | rfl | rfl | rfl | rfl | rfl | rfl <;> rfl
  · rw [if_neg h, if_neg h]
end CW
section CF
variable {V : wd_V} {ad : Nat → Nat} {K : wd_K} {own : String} {cc : ByteArray} {nL d : Nat} {ret : Option FieldType} {Q : State → Prop} {pc : Nat} {lv : List (Option Value)} {st : List Value} {σ : wd_S}
theorem gf_X4_10 (hC : wd_Ok cS V ad K RX4 cc nL d ret) (hdg : decode cc pc = .ok (.getfield 10, 3))  (k : wd_G cS V ad K nL Q (pc + 3) lv (.ref (ad 1) :: st) σ)  : wd_G cS V ad K nL Q pc lv (.ref (ad 0) :: st) σ := wd_get hC (ci := 4) (q := 0) rfl inlX4 (by decide) rfl 0 (by decide) (wL_1 _ (List.mem_of_getElem? (i := 15) rfl)) rfl hdg k
theorem gf_X4_19 (hC : wd_Ok cS V ad K RX4 cc nL d ret) (hdg : decode cc pc = .ok (.getfield 19, 3))  (k : wd_G cS V ad K nL Q (pc + 3) lv (.ref (ad (ct σ.2.2)) :: st) σ)  : wd_G cS V ad K nL Q pc lv (.ref (ad 0) :: st) σ := wd_get hC (ci := 4) (q := 0) rfl inlX4 (by decide) rfl 1 (by decide) (wL_1 _ (List.mem_of_getElem? (i := 19) rfl)) rfl hdg k
theorem gf_X4_23 (hC : wd_Ok cS V ad K RX4 cc nL d ret) (hdg : decode cc pc = .ok (.getfield 23, 3))  (k : wd_G cS V ad K nL Q (pc + 3) lv (.ref (ad (ct (1 - σ.2.2))) :: st) σ)  : wd_G cS V ad K nL Q pc lv (.ref (ad 0) :: st) σ := wd_get hC (ci := 4) (q := 0) rfl inlX4 (by decide) rfl 2 (by decide) (wL_1 _ (List.mem_of_getElem? (i := 20) rfl)) rfl hdg k
theorem gf_X4_29 (hC : wd_Ok cS V ad K RX4 cc nL d ret) (hdg : decode cc pc = .ok (.getfield 29, 3))  (k : wd_G cS V ad K nL Q (pc + 3) lv (.ref (ad (cm 0)) :: st) σ)  : wd_G cS V ad K nL Q pc lv (.ref (ad 0) :: st) σ := wd_get hC (ci := 4) (q := 0) rfl inlX4 (by decide) rfl 3 (by decide) (wL_2 _ (List.mem_of_getElem? (i := 0) rfl)) rfl hdg k
theorem gf_X4_33 (hC : wd_Ok cS V ad K RX4 cc nL d ret) (hdg : decode cc pc = .ok (.getfield 33, 3))  (k : wd_G cS V ad K nL Q (pc + 3) lv (.ref (ad (cm 1)) :: st) σ)  : wd_G cS V ad K nL Q pc lv (.ref (ad 0) :: st) σ := wd_get hC (ci := 4) (q := 0) rfl inlX4 (by decide) rfl 4 (by decide) (wL_2 _ (List.mem_of_getElem? (i := 1) rfl)) rfl hdg k
theorem gf_X4_39 (hC : wd_Ok cS V ad K RX4 cc nL d ret) (hdg : decode cc pc = .ok (.getfield 39, 3))  (k : wd_G cS V ad K nL Q (pc + 3) lv (.ref (ad 3) :: st) σ)  : wd_G cS V ad K nL Q pc lv (.ref (ad 0) :: st) σ := wd_get hC (ci := 4) (q := 0) rfl inlX4 (by decide) rfl 5 (by decide) (wL_2 _ (List.mem_of_getElem? (i := 5) rfl)) rfl hdg k
theorem gf_X4_43 (hC : wd_Ok cS V ad K RX4 cc nL d ret) (hdg : decode cc pc = .ok (.getfield 43, 3))  (k : wd_G cS V ad K nL Q (pc + 3) lv (.ref (ad 5) :: st) σ)  : wd_G cS V ad K nL Q pc lv (.ref (ad 0) :: st) σ := wd_get hC (ci := 4) (q := 0) rfl inlX4 (by decide) rfl 6 (by decide) (wL_2 _ (List.mem_of_getElem? (i := 6) rfl)) rfl hdg k
theorem gf_X4_47 (hC : wd_Ok cS V ad K RX4 cc nL d ret) (hdg : decode cc pc = .ok (.getfield 47, 3))  (k : wd_G cS V ad K nL Q (pc + 3) lv (.ref (ad 6) :: st) σ)  : wd_G cS V ad K nL Q pc lv (.ref (ad 0) :: st) σ := wd_get hC (ci := 4) (q := 0) rfl inlX4 (by decide) rfl 7 (by decide) (wL_2 _ (List.mem_of_getElem? (i := 8) rfl)) rfl hdg k
theorem gf_X4_51 (hC : wd_Ok cS V ad K RX4 cc nL d ret) (hdg : decode cc pc = .ok (.getfield 51, 3))  (k : wd_G cS V ad K nL Q (pc + 3) lv (.ref (ad 7) :: st) σ)  : wd_G cS V ad K nL Q pc lv (.ref (ad 0) :: st) σ := wd_get hC (ci := 4) (q := 0) rfl inlX4 (by decide) rfl 8 (by decide) (wL_2 _ (List.mem_of_getElem? (i := 10) rfl)) rfl hdg k
theorem gf_X4_55 (hC : wd_Ok cS V ad K RX4 cc nL d ret) (hdg : decode cc pc = .ok (.getfield 55, 3))  (k : wd_G cS V ad K nL Q (pc + 3) lv (.ref (ad 8) :: st) σ)  : wd_G cS V ad K nL Q pc lv (.ref (ad 0) :: st) σ := wd_get hC (ci := 4) (q := 0) rfl inlX4 (by decide) rfl 9 (by decide) (wL_2 _ (List.mem_of_getElem? (i := 11) rfl)) rfl hdg k
theorem gf_X4_58 (hC : wd_Ok cS V ad K RX4 cc nL d ret) (hdg : decode cc pc = .ok (.getfield 58, 3))  (k : wd_G cS V ad K nL Q (pc + 3) lv (.ref (ad 9) :: st) σ)  : wd_G cS V ad K nL Q pc lv (.ref (ad 0) :: st) σ := wd_get hC (ci := 4) (q := 0) rfl inlX4 (by decide) rfl 11 (by decide) (wL_2 _ (List.mem_of_getElem? (i := 12) rfl)) rfl hdg k
theorem gf_X2_9 (hC : wd_Ok cS V ad K RX2 cc nL d ret) (hdg : decode cc pc = .ok (.getfield 9, 3))  (k : wd_G cS V ad K nL Q (pc + 3) lv (.ref (ad 2) :: st) σ)  : wd_G cS V ad K nL Q pc lv (.ref (ad 1) :: st) σ := wd_get hC (ci := 2) (q := 1) rfl inlX2 (by decide) rfl 0 (by decide) (wL_2 _ (List.mem_of_getElem? (i := 16) rfl)) rfl hdg k
theorem gf_X3_9 (hC : wd_Ok cS V ad K RX3 cc nL d ret) (hdg : decode cc pc = .ok (.getfield 9, 3)) {t : Nat} (k : wd_G cS V ad K nL Q (pc + 3) lv (.ref (ad (ct t + 1)) :: st) σ) (ht : t < 2 := by omega) : wd_G cS V ad K nL Q pc lv (.ref (ad (ct t)) :: st) σ := wd_get hC (ci := 3) (q := (ct t)) rfl inlX3 (by show ct t < 120; unfold ct; omega) (cE_t t ht) 1 (by decide) (wL_2 _ (List.mem_of_getElem? (i := 20) rfl)) rfl hdg k
theorem gf_X3_15 (hC : wd_Ok cS V ad K RX3 cc nL d ret) (hdg : decode cc pc = .ok (.getfield 15, 3)) {t : Nat} (k : wd_G cS V ad K nL Q (pc + 3) lv (.ref (ad (ct t + 2)) :: st) σ) (ht : t < 2 := by omega) : wd_G cS V ad K nL Q pc lv (.ref (ad (ct t)) :: st) σ := wd_get hC (ci := 3) (q := (ct t)) rfl inlX3 (by show ct t < 120; unfold ct; omega) (cE_t t ht) 2 (by decide) (wL_2 _ (List.mem_of_getElem? (i := 21) rfl)) rfl hdg k
theorem gf_X3_18 (hC : wd_Ok cS V ad K RX3 cc nL d ret) (hdg : decode cc pc = .ok (.getfield 18, 3)) {t : Nat} (k : wd_G cS V ad K nL Q (pc + 3) lv (.ref (ad (ct t + 3)) :: st) σ) (ht : t < 2 := by omega) : wd_G cS V ad K nL Q pc lv (.ref (ad (ct t)) :: st) σ := wd_get hC (ci := 3) (q := (ct t)) rfl inlX3 (by show ct t < 120; unfold ct; omega) (cE_t t ht) 4 (by decide) (wL_2 _ (List.mem_of_getElem? (i := 22) rfl)) rfl hdg k
theorem gf_X3_21 (hC : wd_Ok cS V ad K RX3 cc nL d ret) (hdg : decode cc pc = .ok (.getfield 21, 3)) {t : Nat} (k : wd_G cS V ad K nL Q (pc + 3) lv (.ref (ad (ct t + 4)) :: st) σ) (ht : t < 2 := by omega) : wd_G cS V ad K nL Q pc lv (.ref (ad (ct t)) :: st) σ := wd_get hC (ci := 3) (q := (ct t)) rfl inlX3 (by show ct t < 120; unfold ct; omega) (cE_t t ht) 5 (by decide) (wL_2 _ (List.mem_of_getElem? (i := 23) rfl)) rfl hdg k
theorem gf_X3_24 (hC : wd_Ok cS V ad K RX3 cc nL d ret) (hdg : decode cc pc = .ok (.getfield 24, 3)) {t : Nat} (k : wd_G cS V ad K nL Q (pc + 3) lv (.ref (ad (ct t + 5)) :: st) σ) (ht : t < 2 := by omega) : wd_G cS V ad K nL Q pc lv (.ref (ad (ct t)) :: st) σ := wd_get hC (ci := 3) (q := (ct t)) rfl inlX3 (by show ct t < 120; unfold ct; omega) (cE_t t ht) 6 (by decide) (wL_3 _ (List.mem_of_getElem? (i := 0) rfl)) rfl hdg k
theorem gf_X3_29 (hC : wd_Ok cS V ad K RX3 cc nL d ret) (hdg : decode cc pc = .ok (.getfield 29, 3)) {t : Nat} (k : wd_G cS V ad K nL Q (pc + 3) lv (.ref (ad (ct t + 6)) :: st) σ) (ht : t < 2 := by omega) : wd_G cS V ad K nL Q pc lv (.ref (ad (ct t)) :: st) σ := wd_get hC (ci := 3) (q := (ct t)) rfl inlX3 (by show ct t < 120; unfold ct; omega) (cE_t t ht) 7 (by decide) (wL_3 _ (List.mem_of_getElem? (i := 2) rfl)) rfl hdg k
theorem gf_X1_9 (hC : wd_Ok cS V ad K RX1 cc nL d ret) (hdg : decode cc pc = .ok (.getfield 9, 3)) {j : Nat} (k : wd_G cS V ad K nL Q (pc + 3) lv (.ref (ad (cm j + 1)) :: st) σ) (hj : j < 14 := by omega) : wd_G cS V ad K nL Q pc lv (.ref (ad (cm j)) :: st) σ := wd_get hC (ci := 1) (q := (cm j)) rfl inlX1 (by show cm j < 120; unfold cm; omega) (cE_m j) 0 (by decide) (wL_3 _ (List.mem_of_getElem? (i := 6) rfl)) rfl hdg k
theorem gf_X1_15 (hC : wd_Ok cS V ad K RX1 cc nL d ret) (hdg : decode cc pc = .ok (.getfield 15, 3)) {j : Nat} (k : wd_G cS V ad K nL Q (pc + 3) lv (.ref (ad (cm j + 2)) :: st) σ) (hj : j < 14 := by omega) : wd_G cS V ad K nL Q pc lv (.ref (ad (cm j)) :: st) σ := wd_get hC (ci := 1) (q := (cm j)) rfl inlX1 (by show cm j < 120; unfold cm; omega) (cE_m j) 1 (by decide) (wL_3 _ (List.mem_of_getElem? (i := 7) rfl)) rfl hdg k
theorem gf_X1_18 (hC : wd_Ok cS V ad K RX1 cc nL d ret) (hdg : decode cc pc = .ok (.getfield 18, 3)) {j : Nat} (k : wd_G cS V ad K nL Q (pc + 3) lv (.ref (ad (cm j + 3)) :: st) σ) (hj : j < 14 := by omega) : wd_G cS V ad K nL Q pc lv (.ref (ad (cm j)) :: st) σ := wd_get hC (ci := 1) (q := (cm j)) rfl inlX1 (by show cm j < 120; unfold cm; omega) (cE_m j) 2 (by decide) (wL_3 _ (List.mem_of_getElem? (i := 8) rfl)) rfl hdg k
theorem gf_X1_21 (hC : wd_Ok cS V ad K RX1 cc nL d ret) (hdg : decode cc pc = .ok (.getfield 21, 3)) {j : Nat} (k : wd_G cS V ad K nL Q (pc + 3) lv (.ref (ad (cm j + 4)) :: st) σ) (hj : j < 14 := by omega) : wd_G cS V ad K nL Q pc lv (.ref (ad (cm j)) :: st) σ := wd_get hC (ci := 1) (q := (cm j)) rfl inlX1 (by show cm j < 120; unfold cm; omega) (cE_m j) 3 (by decide) (wL_3 _ (List.mem_of_getElem? (i := 9) rfl)) rfl hdg k
theorem gf_X1_24 (hC : wd_Ok cS V ad K RX1 cc nL d ret) (hdg : decode cc pc = .ok (.getfield 24, 3)) {j : Nat} (k : wd_G cS V ad K nL Q (pc + 3) lv (.ref (ad (cm j + 5)) :: st) σ) (hj : j < 14 := by omega) : wd_G cS V ad K nL Q pc lv (.ref (ad (cm j)) :: st) σ := wd_get hC (ci := 1) (q := (cm j)) rfl inlX1 (by show cm j < 120; unfold cm; omega) (cE_m j) 4 (by decide) (wL_3 _ (List.mem_of_getElem? (i := 10) rfl)) rfl hdg k
theorem gf_X0_11 (hC : wd_Ok cS V ad K RX0 cc nL d ret) (hdg : decode cc pc = .ok (.getfield 11, 3))  (k : wd_G cS V ad K nL Q (pc + 3) lv (.ref (ad 4) :: st) σ)  : wd_G cS V ad K nL Q pc lv (.ref (ad 3) :: st) σ := wd_get hC (ci := 0) (q := 3) rfl inlX0 (by decide) rfl 0 (by decide) (wL_3 _ (List.mem_of_getElem? (i := 16) rfl)) rfl hdg k
theorem gf_X1_27 (hC : wd_Ok cS V ad K RX1 cc nL d ret) (hdg : decode cc pc = .ok (.getfield 27, 3)) {j : Nat} (k : wd_G cS V ad K nL Q (pc + 3) lv (.int (σ.1 (cm j) 5) :: st) σ) (hj : j < 14 := by omega) : wd_G cS V ad K nL Q pc lv (.ref (ad (cm j)) :: st) σ := wd_get hC (ci := 1) (q := (cm j)) rfl inlX1 (by show cm j < 120; unfold cm; omega) (cE_m j) 5 (by decide) (wL_3 _ (List.mem_of_getElem? (i := 21) rfl)) rfl hdg k
theorem pf_X1_27 (hC : wd_Ok cS V ad K RX1 cc nL d ret) (hdg : decode cc pc = .ok (.putfield 27, 3)) {j : Nat} {v : Int32} (k : wd_G cS V ad K nL Q (pc + 3) lv st (wd_up σ (cm j) 5 v)) (hj : j < 14 := by omega) : wd_G cS V ad K nL Q pc lv (.int v :: .ref (ad (cm j)) :: st) σ := wd_put hC (ci := 1) (q := (cm j)) (σ' := wd_up σ (cm j) 5 v) rfl inlX1 tyX1 tyX1_ok nmX1 (by show cm j < 120; unfold cm; omega) (cE_m j) 5 (by decide) (wL_3 _ (List.mem_of_getElem? (i := 21) rfl)) rfl rfl rfl (Nat.le_of_ble_eq_true rfl) (by rw [wd_up_k]; exact cE_m j) (fun a _ h => by rw [wd_up_n _ _ _ _ h]; rfl) hdg k
theorem gf_X1_31 (hC : wd_Ok cS V ad K RX1 cc nL d ret) (hdg : decode cc pc = .ok (.getfield 31, 3)) {j : Nat} (k : wd_G cS V ad K nL Q (pc + 3) lv (.int (σ.1 (cm j) 6) :: st) σ) (hj : j < 14 := by omega) : wd_G cS V ad K nL Q pc lv (.ref (ad (cm j)) :: st) σ := wd_get hC (ci := 1) (q := (cm j)) rfl inlX1 (by show cm j < 120; unfold cm; omega) (cE_m j) 6 (by decide) (wL_3 _ (List.mem_of_getElem? (i := 22) rfl)) rfl hdg k
theorem pf_X1_31 (hC : wd_Ok cS V ad K RX1 cc nL d ret) (hdg : decode cc pc = .ok (.putfield 31, 3)) {j : Nat} {v : Int32} (k : wd_G cS V ad K nL Q (pc + 3) lv st (wd_up σ (cm j) 6 v)) (hj : j < 14 := by omega) : wd_G cS V ad K nL Q pc lv (.int v :: .ref (ad (cm j)) :: st) σ := wd_put hC (ci := 1) (q := (cm j)) (σ' := wd_up σ (cm j) 6 v) rfl inlX1 tyX1 tyX1_ok nmX1 (by show cm j < 120; unfold cm; omega) (cE_m j) 6 (by decide) (wL_3 _ (List.mem_of_getElem? (i := 22) rfl)) rfl rfl rfl (Nat.le_of_ble_eq_true rfl) (by rw [wd_up_k]; exact cE_m j) (fun a _ h => by rw [wd_up_n _ _ _ _ h]; rfl) hdg k
theorem gf_X4_65 (hC : wd_Ok cS V ad K RX4 cc nL d ret) (hdg : decode cc pc = .ok (.getfield 65, 3))  (k : wd_G cS V ad K nL Q (pc + 3) lv (.int (σ.1 1 1) :: st) σ)  : wd_G cS V ad K nL Q pc lv (.ref (ad 1) :: st) σ := wd_get hC (ci := 2) (q := 1) rfl inlX2 (by decide) rfl 1 (by decide) (wL_5 _ (List.mem_of_getElem? (i := 0) rfl)) rfl hdg k
theorem pf_X4_65 (hC : wd_Ok cS V ad K RX4 cc nL d ret) (hdg : decode cc pc = .ok (.putfield 65, 3))  {v : Int32} (k : wd_G cS V ad K nL Q (pc + 3) lv st (wd_up σ 1 1 v))  : wd_G cS V ad K nL Q pc lv (.int v :: .ref (ad 1) :: st) σ := wd_put hC (ci := 2) (q := 1) (σ' := wd_up σ 1 1 v) rfl inlX2 tyX2 tyX2_ok nmX2 (by decide) rfl 1 (by decide) (wL_5 _ (List.mem_of_getElem? (i := 0) rfl)) rfl rfl rfl (Nat.le_of_ble_eq_true rfl) (by rw [wd_up_k]; rfl) (fun a _ h => by rw [wd_up_n _ _ _ _ h]; rfl) hdg k
theorem gf_X4_69 (hC : wd_Ok cS V ad K RX4 cc nL d ret) (hdg : decode cc pc = .ok (.getfield 69, 3))  (k : wd_G cS V ad K nL Q (pc + 3) lv (.ref (ad 2) :: st) σ)  : wd_G cS V ad K nL Q pc lv (.ref (ad 1) :: st) σ := wd_get hC (ci := 2) (q := 1) rfl inlX2 (by decide) rfl 0 (by decide) (wL_5 _ (List.mem_of_getElem? (i := 1) rfl)) rfl hdg k
theorem gf_X4_76 (hC : wd_Ok cS V ad K RX4 cc nL d ret) (hdg : decode cc pc = .ok (.getfield 76, 3)) {t : Nat} (k : wd_G cS V ad K nL Q (pc + 3) lv (.int (σ.1 (ct t) 3) :: st) σ) (ht : t < 2 := by omega) : wd_G cS V ad K nL Q pc lv (.ref (ad (ct t)) :: st) σ := wd_get hC (ci := 3) (q := (ct t)) rfl inlX3 (by show ct t < 120; unfold ct; omega) (cE_t t ht) 3 (by decide) (wL_5 _ (List.mem_of_getElem? (i := 23) rfl)) rfl hdg k
theorem pf_X4_76 (hC : wd_Ok cS V ad K RX4 cc nL d ret) (hdg : decode cc pc = .ok (.putfield 76, 3)) {t : Nat} {v : Int32} (k : wd_G cS V ad K nL Q (pc + 3) lv st (wd_up σ (ct t) 3 v)) (ht : t < 2 := by omega) : wd_G cS V ad K nL Q pc lv (.int v :: .ref (ad (ct t)) :: st) σ := wd_put hC (ci := 3) (q := (ct t)) (σ' := wd_up σ (ct t) 3 v) rfl inlX3 tyX3 tyX3_ok nmX3 (by show ct t < 120; unfold ct; omega) (cE_t t ht) 3 (by decide) (wL_5 _ (List.mem_of_getElem? (i := 23) rfl)) rfl rfl rfl (Nat.le_of_ble_eq_true rfl) (by rw [wd_up_k]; exact cE_t t ht) (fun a _ h => by rw [wd_up_n _ _ _ _ h]; rfl) hdg k
theorem gf_X4_79 (hC : wd_Ok cS V ad K RX4 cc nL d ret) (hdg : decode cc pc = .ok (.getfield 79, 3))  (k : wd_G cS V ad K nL Q (pc + 3) lv (.int (σ.1 3 2) :: st) σ)  : wd_G cS V ad K nL Q pc lv (.ref (ad 3) :: st) σ := wd_get hC (ci := 0) (q := 3) rfl inlX0 (by decide) rfl 2 (by decide) (wL_6 _ (List.mem_of_getElem? (i := 0) rfl)) rfl hdg k
theorem pf_X4_79 (hC : wd_Ok cS V ad K RX4 cc nL d ret) (hdg : decode cc pc = .ok (.putfield 79, 3))  {v : Int32} (k : wd_G cS V ad K nL Q (pc + 3) lv st (wd_up σ 3 2 v))  : wd_G cS V ad K nL Q pc lv (.int v :: .ref (ad 3) :: st) σ := wd_put hC (ci := 0) (q := 3) (σ' := wd_up σ 3 2 v) rfl inlX0 tyX0 tyX0_ok nmX0 (by decide) rfl 2 (by decide) (wL_6 _ (List.mem_of_getElem? (i := 0) rfl)) rfl rfl rfl (Nat.le_of_ble_eq_true rfl) (by rw [wd_up_k]; rfl) (fun a _ h => by rw [wd_up_n _ _ _ _ h]; rfl) hdg k
theorem gf_X4_82 (hC : wd_Ok cS V ad K RX4 cc nL d ret) (hdg : decode cc pc = .ok (.getfield 82, 3))  (k : wd_G cS V ad K nL Q (pc + 3) lv (.int (σ.1 0 10) :: st) σ)  : wd_G cS V ad K nL Q pc lv (.ref (ad 0) :: st) σ := wd_get hC (ci := 4) (q := 0) rfl inlX4 (by decide) rfl 10 (by decide) (wL_6 _ (List.mem_of_getElem? (i := 1) rfl)) rfl hdg k
theorem pf_X4_82 (hC : wd_Ok cS V ad K RX4 cc nL d ret) (hdg : decode cc pc = .ok (.putfield 82, 3))  {v : Int32} (k : wd_G cS V ad K nL Q (pc + 3) lv st (wd_up σ 0 10 v))  : wd_G cS V ad K nL Q pc lv (.int v :: .ref (ad 0) :: st) σ := wd_put hC (ci := 4) (q := 0) (σ' := wd_up σ 0 10 v) rfl inlX4 tyX4 tyX4_ok nmX4 (by decide) rfl 10 (by decide) (wL_6 _ (List.mem_of_getElem? (i := 1) rfl)) rfl rfl rfl (Nat.le_of_ble_eq_true rfl) (by rw [wd_up_k]; rfl) (fun a _ h => by rw [wd_up_n _ _ _ _ h]; rfl) hdg k
theorem gf_X2_15 (hC : wd_Ok cS V ad K RX2 cc nL d ret) (hdg : decode cc pc = .ok (.getfield 15, 3)) {t : Nat} (k : wd_G cS V ad K nL Q (pc + 3) lv (.int (σ.1 (ct t) 0) :: st) σ) (ht : t < 2 := by omega) : wd_G cS V ad K nL Q pc lv (.ref (ad (ct t)) :: st) σ := wd_get hC (ci := 3) (q := (ct t)) rfl inlX3 (by show ct t < 120; unfold ct; omega) (cE_t t ht) 0 (by decide) (wL_6 _ (List.mem_of_getElem? (i := 6) rfl)) rfl hdg k
theorem pf_X2_15 (hC : wd_Ok cS V ad K RX2 cc nL d ret) (hdg : decode cc pc = .ok (.putfield 15, 3)) {t : Nat} {v : Int32} (k : wd_G cS V ad K nL Q (pc + 3) lv st (wd_up σ (ct t) 0 v)) (ht : t < 2 := by omega) : wd_G cS V ad K nL Q pc lv (.int v :: .ref (ad (ct t)) :: st) σ := wd_put hC (ci := 3) (q := (ct t)) (σ' := wd_up σ (ct t) 0 v) rfl inlX3 tyX3 tyX3_ok nmX3 (by show ct t < 120; unfold ct; omega) (cE_t t ht) 0 (by decide) (wL_6 _ (List.mem_of_getElem? (i := 6) rfl)) rfl rfl rfl (Nat.le_of_ble_eq_true rfl) (by rw [wd_up_k]; exact cE_t t ht) (fun a _ h => by rw [wd_up_n _ _ _ _ h]; rfl) hdg k
theorem gf_X2_21 (hC : wd_Ok cS V ad K RX2 cc nL d ret) (hdg : decode cc pc = .ok (.getfield 21, 3)) {t : Nat} (k : wd_G cS V ad K nL Q (pc + 3) lv (.int (σ.1 (ct t) 3) :: st) σ) (ht : t < 2 := by omega) : wd_G cS V ad K nL Q pc lv (.ref (ad (ct t)) :: st) σ := wd_get hC (ci := 3) (q := (ct t)) rfl inlX3 (by show ct t < 120; unfold ct; omega) (cE_t t ht) 3 (by decide) (wL_6 _ (List.mem_of_getElem? (i := 7) rfl)) rfl hdg k
theorem pf_X2_21 (hC : wd_Ok cS V ad K RX2 cc nL d ret) (hdg : decode cc pc = .ok (.putfield 21, 3)) {t : Nat} {v : Int32} (k : wd_G cS V ad K nL Q (pc + 3) lv st (wd_up σ (ct t) 3 v)) (ht : t < 2 := by omega) : wd_G cS V ad K nL Q pc lv (.int v :: .ref (ad (ct t)) :: st) σ := wd_put hC (ci := 3) (q := (ct t)) (σ' := wd_up σ (ct t) 3 v) rfl inlX3 tyX3 tyX3_ok nmX3 (by show ct t < 120; unfold ct; omega) (cE_t t ht) 3 (by decide) (wL_6 _ (List.mem_of_getElem? (i := 7) rfl)) rfl rfl rfl (Nat.le_of_ble_eq_true rfl) (by rw [wd_up_k]; exact cE_t t ht) (fun a _ h => by rw [wd_up_n _ _ _ _ h]; rfl) hdg k
theorem gf_X2_24 (hC : wd_Ok cS V ad K RX2 cc nL d ret) (hdg : decode cc pc = .ok (.getfield 24, 3))  (k : wd_G cS V ad K nL Q (pc + 3) lv (.int (σ.1 1 3) :: st) σ)  : wd_G cS V ad K nL Q pc lv (.ref (ad 1) :: st) σ := wd_get hC (ci := 2) (q := 1) rfl inlX2 (by decide) rfl 3 (by decide) (wL_6 _ (List.mem_of_getElem? (i := 8) rfl)) rfl hdg k
theorem pf_X2_24 (hC : wd_Ok cS V ad K RX2 cc nL d ret) (hdg : decode cc pc = .ok (.putfield 24, 3))  {v : Int32} (k : wd_G cS V ad K nL Q (pc + 3) lv st (wd_up σ 1 3 v))  : wd_G cS V ad K nL Q pc lv (.int v :: .ref (ad 1) :: st) σ := wd_put hC (ci := 2) (q := 1) (σ' := wd_up σ 1 3 v) rfl inlX2 tyX2 tyX2_ok nmX2 (by decide) rfl 3 (by decide) (wL_6 _ (List.mem_of_getElem? (i := 8) rfl)) rfl rfl rfl (Nat.le_of_ble_eq_true rfl) (by rw [wd_up_k]; rfl) (fun a _ h => by rw [wd_up_n _ _ _ _ h]; rfl) hdg k
theorem gf_X2_35 (hC : wd_Ok cS V ad K RX2 cc nL d ret) (hdg : decode cc pc = .ok (.getfield 35, 3))  (k : wd_G cS V ad K nL Q (pc + 3) lv (.int (σ.1 1 2) :: st) σ)  : wd_G cS V ad K nL Q pc lv (.ref (ad 1) :: st) σ := wd_get hC (ci := 2) (q := 1) rfl inlX2 (by decide) rfl 2 (by decide) (wL_6 _ (List.mem_of_getElem? (i := 9) rfl)) rfl hdg k
theorem pf_X2_35 (hC : wd_Ok cS V ad K RX2 cc nL d ret) (hdg : decode cc pc = .ok (.putfield 35, 3))  {v : Int32} (k : wd_G cS V ad K nL Q (pc + 3) lv st (wd_up σ 1 2 v))  : wd_G cS V ad K nL Q pc lv (.int v :: .ref (ad 1) :: st) σ := wd_put hC (ci := 2) (q := 1) (σ' := wd_up σ 1 2 v) rfl inlX2 tyX2 tyX2_ok nmX2 (by decide) rfl 2 (by decide) (wL_6 _ (List.mem_of_getElem? (i := 9) rfl)) rfl rfl rfl (Nat.le_of_ble_eq_true rfl) (by rw [wd_up_k]; rfl) (fun a _ h => by rw [wd_up_n _ _ _ _ h]; rfl) hdg k
theorem gf_X2_71 (hC : wd_Ok cS V ad K RX2 cc nL d ret) (hdg : decode cc pc = .ok (.getfield 71, 3))  (k : wd_G cS V ad K nL Q (pc + 3) lv (.int (σ.1 1 1) :: st) σ)  : wd_G cS V ad K nL Q pc lv (.ref (ad 1) :: st) σ := wd_get hC (ci := 2) (q := 1) rfl inlX2 (by decide) rfl 1 (by decide) (wL_6 _ (List.mem_of_getElem? (i := 14) rfl)) rfl hdg k
theorem pf_X2_71 (hC : wd_Ok cS V ad K RX2 cc nL d ret) (hdg : decode cc pc = .ok (.putfield 71, 3))  {v : Int32} (k : wd_G cS V ad K nL Q (pc + 3) lv st (wd_up σ 1 1 v))  : wd_G cS V ad K nL Q pc lv (.int v :: .ref (ad 1) :: st) σ := wd_put hC (ci := 2) (q := 1) (σ' := wd_up σ 1 1 v) rfl inlX2 tyX2 tyX2_ok nmX2 (by decide) rfl 1 (by decide) (wL_6 _ (List.mem_of_getElem? (i := 14) rfl)) rfl rfl rfl (Nat.le_of_ble_eq_true rfl) (by rw [wd_up_k]; rfl) (fun a _ h => by rw [wd_up_n _ _ _ _ h]; rfl) hdg k
theorem gf_X2_52 (hC : wd_Ok cS V ad K RX2 cc nL d ret) (hdg : decode cc pc = .ok (.getfield 52, 3))  (k : wd_G cS V ad K nL Q (pc + 3) lv (.int (σ.1 1 4) :: st) σ)  : wd_G cS V ad K nL Q pc lv (.ref (ad 1) :: st) σ := wd_get hC (ci := 2) (q := 1) rfl inlX2 (by decide) rfl 4 (by decide) (wL_6 _ (List.mem_of_getElem? (i := 22) rfl)) rfl hdg k
theorem pf_X2_52 (hC : wd_Ok cS V ad K RX2 cc nL d ret) (hdg : decode cc pc = .ok (.putfield 52, 3))  {v : Int32} (k : wd_G cS V ad K nL Q (pc + 3) lv st (wd_up σ 1 4 v))  : wd_G cS V ad K nL Q pc lv (.int v :: .ref (ad 1) :: st) σ := wd_put hC (ci := 2) (q := 1) (σ' := wd_up σ 1 4 v) rfl inlX2 tyX2 tyX2_ok nmX2 (by decide) rfl 4 (by decide) (wL_6 _ (List.mem_of_getElem? (i := 22) rfl)) rfl rfl rfl (Nat.le_of_ble_eq_true rfl) (by rw [wd_up_k]; rfl) (fun a _ h => by rw [wd_up_n _ _ _ _ h]; rfl) hdg k
theorem gf_X2_49 (hC : wd_Ok cS V ad K RX2 cc nL d ret) (hdg : decode cc pc = .ok (.getfield 49, 3)) {t : Nat} (k : wd_G cS V ad K nL Q (pc + 3) lv (.ref (ad (ct t + 1)) :: st) σ) (ht : t < 2 := by omega) : wd_G cS V ad K nL Q pc lv (.ref (ad (ct t)) :: st) σ := wd_get hC (ci := 3) (q := (ct t)) rfl inlX3 (by show ct t < 120; unfold ct; omega) (cE_t t ht) 1 (by decide) (wL_7 _ (List.mem_of_getElem? (i := 11) rfl)) rfl hdg k
theorem gf_X2_55 (hC : wd_Ok cS V ad K RX2 cc nL d ret) (hdg : decode cc pc = .ok (.getfield 55, 3)) {t : Nat} (k : wd_G cS V ad K nL Q (pc + 3) lv (.ref (ad (ct t + 2)) :: st) σ) (ht : t < 2 := by omega) : wd_G cS V ad K nL Q pc lv (.ref (ad (ct t)) :: st) σ := wd_get hC (ci := 3) (q := (ct t)) rfl inlX3 (by show ct t < 120; unfold ct; omega) (cE_t t ht) 2 (by decide) (wL_7 _ (List.mem_of_getElem? (i := 12) rfl)) rfl hdg k
theorem gf_X2_58 (hC : wd_Ok cS V ad K RX2 cc nL d ret) (hdg : decode cc pc = .ok (.getfield 58, 3)) {t : Nat} (k : wd_G cS V ad K nL Q (pc + 3) lv (.ref (ad (ct t + 3)) :: st) σ) (ht : t < 2 := by omega) : wd_G cS V ad K nL Q pc lv (.ref (ad (ct t)) :: st) σ := wd_get hC (ci := 3) (q := (ct t)) rfl inlX3 (by show ct t < 120; unfold ct; omega) (cE_t t ht) 4 (by decide) (wL_7 _ (List.mem_of_getElem? (i := 21) rfl)) rfl hdg k
theorem gf_X2_61 (hC : wd_Ok cS V ad K RX2 cc nL d ret) (hdg : decode cc pc = .ok (.getfield 61, 3)) {t : Nat} (k : wd_G cS V ad K nL Q (pc + 3) lv (.ref (ad (ct t + 4)) :: st) σ) (ht : t < 2 := by omega) : wd_G cS V ad K nL Q pc lv (.ref (ad (ct t)) :: st) σ := wd_get hC (ci := 3) (q := (ct t)) rfl inlX3 (by show ct t < 120; unfold ct; omega) (cE_t t ht) 5 (by decide) (wL_7 _ (List.mem_of_getElem? (i := 22) rfl)) rfl hdg k
theorem gf_X2_64 (hC : wd_Ok cS V ad K RX2 cc nL d ret) (hdg : decode cc pc = .ok (.getfield 64, 3)) {t : Nat} (k : wd_G cS V ad K nL Q (pc + 3) lv (.ref (ad (ct t + 5)) :: st) σ) (ht : t < 2 := by omega) : wd_G cS V ad K nL Q pc lv (.ref (ad (ct t)) :: st) σ := wd_get hC (ci := 3) (q := (ct t)) rfl inlX3 (by show ct t < 120; unfold ct; omega) (cE_t t ht) 6 (by decide) (wL_7 _ (List.mem_of_getElem? (i := 23) rfl)) rfl hdg k
theorem gf_X2_67 (hC : wd_Ok cS V ad K RX2 cc nL d ret) (hdg : decode cc pc = .ok (.getfield 67, 3)) {t : Nat} (k : wd_G cS V ad K nL Q (pc + 3) lv (.ref (ad (ct t + 6)) :: st) σ) (ht : t < 2 := by omega) : wd_G cS V ad K nL Q pc lv (.ref (ad (ct t)) :: st) σ := wd_get hC (ci := 3) (q := (ct t)) rfl inlX3 (by show ct t < 120; unfold ct; omega) (cE_t t ht) 7 (by decide) (wL_8 _ (List.mem_of_getElem? (i := 0) rfl)) rfl hdg k
theorem gf_X4_89 (hC : wd_Ok cS V ad K RX4 cc nL d ret) (hdg : decode cc pc = .ok (.getfield 89, 3)) {t : Nat} (k : wd_G cS V ad K nL Q (pc + 3) lv (.ref (ad (ct t + 3)) :: st) σ) (ht : t < 2 := by omega) : wd_G cS V ad K nL Q pc lv (.ref (ad (ct t)) :: st) σ := wd_get hC (ci := 3) (q := (ct t)) rfl inlX3 (by show ct t < 120; unfold ct; omega) (cE_t t ht) 4 (by decide) (wL_9 _ (List.mem_of_getElem? (i := 20) rfl)) rfl hdg k
theorem gf_X4_92 (hC : wd_Ok cS V ad K RX4 cc nL d ret) (hdg : decode cc pc = .ok (.getfield 92, 3)) {t : Nat} (k : wd_G cS V ad K nL Q (pc + 3) lv (.ref (ad (ct t + 4)) :: st) σ) (ht : t < 2 := by omega) : wd_G cS V ad K nL Q pc lv (.ref (ad (ct t)) :: st) σ := wd_get hC (ci := 3) (q := (ct t)) rfl inlX3 (by show ct t < 120; unfold ct; omega) (cE_t t ht) 5 (by decide) (wL_9 _ (List.mem_of_getElem? (i := 21) rfl)) rfl hdg k
theorem gf_X4_95 (hC : wd_Ok cS V ad K RX4 cc nL d ret) (hdg : decode cc pc = .ok (.getfield 95, 3)) {t : Nat} (k : wd_G cS V ad K nL Q (pc + 3) lv (.ref (ad (ct t + 5)) :: st) σ) (ht : t < 2 := by omega) : wd_G cS V ad K nL Q pc lv (.ref (ad (ct t)) :: st) σ := wd_get hC (ci := 3) (q := (ct t)) rfl inlX3 (by show ct t < 120; unfold ct; omega) (cE_t t ht) 6 (by decide) (wL_9 _ (List.mem_of_getElem? (i := 22) rfl)) rfl hdg k
theorem gf_X4_98 (hC : wd_Ok cS V ad K RX4 cc nL d ret) (hdg : decode cc pc = .ok (.getfield 98, 3)) {j : Nat} (k : wd_G cS V ad K nL Q (pc + 3) lv (.ref (ad (cm j + 1)) :: st) σ) (hj : j < 14 := by omega) : wd_G cS V ad K nL Q pc lv (.ref (ad (cm j)) :: st) σ := wd_get hC (ci := 1) (q := (cm j)) rfl inlX1 (by show cm j < 120; unfold cm; omega) (cE_m j) 0 (by decide) (wL_9 _ (List.mem_of_getElem? (i := 23) rfl)) rfl hdg k
theorem gf_X4_101 (hC : wd_Ok cS V ad K RX4 cc nL d ret) (hdg : decode cc pc = .ok (.getfield 101, 3)) {j : Nat} (k : wd_G cS V ad K nL Q (pc + 3) lv (.ref (ad (cm j + 2)) :: st) σ) (hj : j < 14 := by omega) : wd_G cS V ad K nL Q pc lv (.ref (ad (cm j)) :: st) σ := wd_get hC (ci := 1) (q := (cm j)) rfl inlX1 (by show cm j < 120; unfold cm; omega) (cE_m j) 1 (by decide) (wL_10 _ (List.mem_of_getElem? (i := 0) rfl)) rfl hdg k
theorem gf_X4_104 (hC : wd_Ok cS V ad K RX4 cc nL d ret) (hdg : decode cc pc = .ok (.getfield 104, 3)) {j : Nat} (k : wd_G cS V ad K nL Q (pc + 3) lv (.ref (ad (cm j + 3)) :: st) σ) (hj : j < 14 := by omega) : wd_G cS V ad K nL Q pc lv (.ref (ad (cm j)) :: st) σ := wd_get hC (ci := 1) (q := (cm j)) rfl inlX1 (by show cm j < 120; unfold cm; omega) (cE_m j) 2 (by decide) (wL_10 _ (List.mem_of_getElem? (i := 1) rfl)) rfl hdg k
theorem gf_X4_107 (hC : wd_Ok cS V ad K RX4 cc nL d ret) (hdg : decode cc pc = .ok (.getfield 107, 3)) {j : Nat} (k : wd_G cS V ad K nL Q (pc + 3) lv (.ref (ad (cm j + 4)) :: st) σ) (hj : j < 14 := by omega) : wd_G cS V ad K nL Q pc lv (.ref (ad (cm j)) :: st) σ := wd_get hC (ci := 1) (q := (cm j)) rfl inlX1 (by show cm j < 120; unfold cm; omega) (cE_m j) 3 (by decide) (wL_10 _ (List.mem_of_getElem? (i := 2) rfl)) rfl hdg k
theorem gf_X4_113 (hC : wd_Ok cS V ad K RX4 cc nL d ret) (hdg : decode cc pc = .ok (.getfield 113, 3)) {t : Nat} (k : wd_G cS V ad K nL Q (pc + 3) lv (.ref (ad (ct t + 6)) :: st) σ) (ht : t < 2 := by omega) : wd_G cS V ad K nL Q pc lv (.ref (ad (ct t)) :: st) σ := wd_get hC (ci := 3) (q := (ct t)) rfl inlX3 (by show ct t < 120; unfold ct; omega) (cE_t t ht) 7 (by decide) (wL_10 _ (List.mem_of_getElem? (i := 22) rfl)) rfl hdg k
theorem gf_X4_176 (hC : wd_Ok cS V ad K RX4 cc nL d ret) (hdg : decode cc pc = .ok (.getfield 176, 3)) {t : Nat} (k : wd_G cS V ad K nL Q (pc + 3) lv (.int (σ.1 (ct t) 0) :: st) σ) (ht : t < 2 := by omega) : wd_G cS V ad K nL Q pc lv (.ref (ad (ct t)) :: st) σ := wd_get hC (ci := 3) (q := (ct t)) rfl inlX3 (by show ct t < 120; unfold ct; omega) (cE_t t ht) 0 (by decide) (wL_11 _ (List.mem_of_getElem? (i := 3) rfl)) rfl hdg k
theorem pf_X4_176 (hC : wd_Ok cS V ad K RX4 cc nL d ret) (hdg : decode cc pc = .ok (.putfield 176, 3)) {t : Nat} {v : Int32} (k : wd_G cS V ad K nL Q (pc + 3) lv st (wd_up σ (ct t) 0 v)) (ht : t < 2 := by omega) : wd_G cS V ad K nL Q pc lv (.int v :: .ref (ad (ct t)) :: st) σ := wd_put hC (ci := 3) (q := (ct t)) (σ' := wd_up σ (ct t) 0 v) rfl inlX3 tyX3 tyX3_ok nmX3 (by show ct t < 120; unfold ct; omega) (cE_t t ht) 0 (by decide) (wL_11 _ (List.mem_of_getElem? (i := 3) rfl)) rfl rfl rfl (Nat.le_of_ble_eq_true rfl) (by rw [wd_up_k]; exact cE_t t ht) (fun a _ h => by rw [wd_up_n _ _ _ _ h]; rfl) hdg k
theorem gf_X4_245 (hC : wd_Ok cS V ad K RX4 cc nL d ret) (hdg : decode cc pc = .ok (.getfield 245, 3)) {t : Nat} (k : wd_G cS V ad K nL Q (pc + 3) lv (.ref (ad (ct t + 1)) :: st) σ) (ht : t < 2 := by omega) : wd_G cS V ad K nL Q pc lv (.ref (ad (ct t)) :: st) σ := wd_get hC (ci := 3) (q := (ct t)) rfl inlX3 (by show ct t < 120; unfold ct; omega) (cE_t t ht) 1 (by decide) (wL_11 _ (List.mem_of_getElem? (i := 20) rfl)) rfl hdg k
theorem gf_X4_138 (hC : wd_Ok cS V ad K RX4 cc nL d ret) (hdg : decode cc pc = .ok (.getfield 138, 3)) {j : Nat} (k : wd_G cS V ad K nL Q (pc + 3) lv (.int (σ.1 (cm j) 5) :: st) σ) (hj : j < 14 := by omega) : wd_G cS V ad K nL Q pc lv (.ref (ad (cm j)) :: st) σ := wd_get hC (ci := 1) (q := (cm j)) rfl inlX1 (by show cm j < 120; unfold cm; omega) (cE_m j) 5 (by decide) (wL_11 _ (List.mem_of_getElem? (i := 21) rfl)) rfl hdg k
theorem pf_X4_138 (hC : wd_Ok cS V ad K RX4 cc nL d ret) (hdg : decode cc pc = .ok (.putfield 138, 3)) {j : Nat} {v : Int32} (k : wd_G cS V ad K nL Q (pc + 3) lv st (wd_up σ (cm j) 5 v)) (hj : j < 14 := by omega) : wd_G cS V ad K nL Q pc lv (.int v :: .ref (ad (cm j)) :: st) σ := wd_put hC (ci := 1) (q := (cm j)) (σ' := wd_up σ (cm j) 5 v) rfl inlX1 tyX1 tyX1_ok nmX1 (by show cm j < 120; unfold cm; omega) (cE_m j) 5 (by decide) (wL_11 _ (List.mem_of_getElem? (i := 21) rfl)) rfl rfl rfl (Nat.le_of_ble_eq_true rfl) (by rw [wd_up_k]; exact cE_m j) (fun a _ h => by rw [wd_up_n _ _ _ _ h]; rfl) hdg k
theorem gf_X4_132 (hC : wd_Ok cS V ad K RX4 cc nL d ret) (hdg : decode cc pc = .ok (.getfield 132, 3)) {j : Nat} (k : wd_G cS V ad K nL Q (pc + 3) lv (.ref (ad (cm j + 5)) :: st) σ) (hj : j < 14 := by omega) : wd_G cS V ad K nL Q pc lv (.ref (ad (cm j)) :: st) σ := wd_get hC (ci := 1) (q := (cm j)) rfl inlX1 (by show cm j < 120; unfold cm; omega) (cE_m j) 4 (by decide) (wL_12 _ (List.mem_of_getElem? (i := 11) rfl)) rfl hdg k
theorem gf_X4_179 (hC : wd_Ok cS V ad K RX4 cc nL d ret) (hdg : decode cc pc = .ok (.getfield 179, 3)) {t : Nat} (k : wd_G cS V ad K nL Q (pc + 3) lv (.ref (ad (ct t + 2)) :: st) σ) (ht : t < 2 := by omega) : wd_G cS V ad K nL Q pc lv (.ref (ad (ct t)) :: st) σ := wd_get hC (ci := 3) (q := (ct t)) rfl inlX3 (by show ct t < 120; unfold ct; omega) (cE_t t ht) 2 (by decide) (wL_13 _ (List.mem_of_getElem? (i := 5) rfl)) rfl hdg k
theorem gf_X4_135 (hC : wd_Ok cS V ad K RX4 cc nL d ret) (hdg : decode cc pc = .ok (.getfield 135, 3)) {j : Nat} (k : wd_G cS V ad K nL Q (pc + 3) lv (.int (σ.1 (cm j) 6) :: st) σ) (hj : j < 14 := by omega) : wd_G cS V ad K nL Q pc lv (.ref (ad (cm j)) :: st) σ := wd_get hC (ci := 1) (q := (cm j)) rfl inlX1 (by show cm j < 120; unfold cm; omega) (cE_m j) 6 (by decide) (wL_14 _ (List.mem_of_getElem? (i := 7) rfl)) rfl hdg k
theorem pf_X4_135 (hC : wd_Ok cS V ad K RX4 cc nL d ret) (hdg : decode cc pc = .ok (.putfield 135, 3)) {j : Nat} {v : Int32} (k : wd_G cS V ad K nL Q (pc + 3) lv st (wd_up σ (cm j) 6 v)) (hj : j < 14 := by omega) : wd_G cS V ad K nL Q pc lv (.int v :: .ref (ad (cm j)) :: st) σ := wd_put hC (ci := 1) (q := (cm j)) (σ' := wd_up σ (cm j) 6 v) rfl inlX1 tyX1 tyX1_ok nmX1 (by show cm j < 120; unfold cm; omega) (cE_m j) 6 (by decide) (wL_14 _ (List.mem_of_getElem? (i := 7) rfl)) rfl rfl rfl (Nat.le_of_ble_eq_true rfl) (by rw [wd_up_k]; exact cE_m j) (fun a _ h => by rw [wd_up_n _ _ _ _ h]; rfl) hdg k
theorem gf_X0_18 (hC : wd_Ok cS V ad K RX0 cc nL d ret) (hdg : decode cc pc = .ok (.getfield 18, 3))  (k : wd_G cS V ad K nL Q (pc + 3) lv (.int (σ.1 3 1) :: st) σ)  : wd_G cS V ad K nL Q pc lv (.ref (ad 3) :: st) σ := wd_get hC (ci := 0) (q := 3) rfl inlX0 (by decide) rfl 1 (by decide) (wL_16 _ (List.mem_of_getElem? (i := 19) rfl)) rfl hdg k
theorem pf_X0_18 (hC : wd_Ok cS V ad K RX0 cc nL d ret) (hdg : decode cc pc = .ok (.putfield 18, 3))  {v : Int32} (k : wd_G cS V ad K nL Q (pc + 3) lv st (wd_up σ 3 1 v))  : wd_G cS V ad K nL Q pc lv (.int v :: .ref (ad 3) :: st) σ := wd_put hC (ci := 0) (q := 3) (σ' := wd_up σ 3 1 v) rfl inlX0 tyX0 tyX0_ok nmX0 (by decide) rfl 1 (by decide) (wL_16 _ (List.mem_of_getElem? (i := 19) rfl)) rfl rfl rfl (Nat.le_of_ble_eq_true rfl) (by rw [wd_up_k]; rfl) (fun a _ h => by rw [wd_up_n _ _ _ _ h]; rfl) hdg k
theorem gf_X0_26 (hC : wd_Ok cS V ad K RX0 cc nL d ret) (hdg : decode cc pc = .ok (.getfield 26, 3))  (k : wd_G cS V ad K nL Q (pc + 3) lv (.int (σ.1 3 2) :: st) σ)  : wd_G cS V ad K nL Q pc lv (.ref (ad 3) :: st) σ := wd_get hC (ci := 0) (q := 3) rfl inlX0 (by decide) rfl 2 (by decide) (wL_16 _ (List.mem_of_getElem? (i := 20) rfl)) rfl hdg k
theorem pf_X0_26 (hC : wd_Ok cS V ad K RX0 cc nL d ret) (hdg : decode cc pc = .ok (.putfield 26, 3))  {v : Int32} (k : wd_G cS V ad K nL Q (pc + 3) lv st (wd_up σ 3 2 v))  : wd_G cS V ad K nL Q pc lv (.int v :: .ref (ad 3) :: st) σ := wd_put hC (ci := 0) (q := 3) (σ' := wd_up σ 3 2 v) rfl inlX0 tyX0 tyX0_ok nmX0 (by decide) rfl 2 (by decide) (wL_16 _ (List.mem_of_getElem? (i := 20) rfl)) rfl rfl rfl (Nat.le_of_ble_eq_true rfl) (by rw [wd_up_k]; rfl) (fun a _ h => by rw [wd_up_n _ _ _ _ h]; rfl) hdg k
theorem gf_X4_188 (hC : wd_Ok cS V ad K RX4 cc nL d ret) (hdg : decode cc pc = .ok (.getfield 188, 3))  (k : wd_G cS V ad K nL Q (pc + 3) lv (.int (σ.1 0 13) :: st) σ)  : wd_G cS V ad K nL Q pc lv (.ref (ad 0) :: st) σ := wd_get hC (ci := 4) (q := 0) rfl inlX4 (by decide) rfl 13 (by decide) (wL_22 _ (List.mem_of_getElem? (i := 2) rfl)) rfl hdg k
theorem pf_X4_188 (hC : wd_Ok cS V ad K RX4 cc nL d ret) (hdg : decode cc pc = .ok (.putfield 188, 3)) {v : Int32} (hn : narrow .boolean (.int v) = .int v) (hf : fits .boolean (.int v) = true) (k : wd_G cS V ad K nL Q (pc + 3) lv st (wd_up σ 0 13 v)) : wd_G cS V ad K nL Q pc lv (.int v :: .ref (ad 0) :: st) σ := wd_put hC (ci := 4) (q := 0) (σ' := wd_up σ 0 13 v) rfl inlX4 tyX4 tyX4_ok nmX4 (by decide) rfl 13 (by decide) (wL_22 _ (List.mem_of_getElem? (i := 2) rfl)) rfl hn hf (Nat.le_of_ble_eq_true rfl) (by rw [wd_up_k]; rfl) (fun a _ h => by rw [wd_up_n _ _ _ _ h]; rfl) hdg k
theorem gf_X4_196 (hC : wd_Ok cS V ad K RX4 cc nL d ret) (hdg : decode cc pc = .ok (.getfield 196, 3))  (k : wd_G cS V ad K nL Q (pc + 3) lv (.int (σ.1 0 12) :: st) σ)  : wd_G cS V ad K nL Q pc lv (.ref (ad 0) :: st) σ := wd_get hC (ci := 4) (q := 0) rfl inlX4 (by decide) rfl 12 (by decide) (wL_22 _ (List.mem_of_getElem? (i := 3) rfl)) rfl hdg k
theorem pf_X4_196 (hC : wd_Ok cS V ad K RX4 cc nL d ret) (hdg : decode cc pc = .ok (.putfield 196, 3))  {v : Int32} (k : wd_G cS V ad K nL Q (pc + 3) lv st (wd_up σ 0 12 v))  : wd_G cS V ad K nL Q pc lv (.int v :: .ref (ad 0) :: st) σ := wd_put hC (ci := 4) (q := 0) (σ' := wd_up σ 0 12 v) rfl inlX4 tyX4 tyX4_ok nmX4 (by decide) rfl 12 (by decide) (wL_22 _ (List.mem_of_getElem? (i := 3) rfl)) rfl rfl rfl (Nat.le_of_ble_eq_true rfl) (by rw [wd_up_k]; rfl) (fun a _ h => by rw [wd_up_n _ _ _ _ h]; rfl) hdg k
theorem gf_X4_241 (hC : wd_Ok cS V ad K RX4 cc nL d ret) (hdg : decode cc pc = .ok (.getfield 241, 3))  (k : wd_G cS V ad K nL Q (pc + 3) lv (.long σ.2.1 :: st) σ)  : wd_G cS V ad K nL Q pc lv (.ref (ad 0) :: st) σ := wd_get hC (ci := 4) (q := 0) rfl inlX4 (by decide) rfl 14 (by decide) (wL_27 _ (List.mem_of_getElem? (i := 18) rfl)) rfl hdg k
theorem pf_X4_241 (hC : wd_Ok cS V ad K RX4 cc nL d ret) (hdg : decode cc pc = .ok (.putfield 241, 3)) {v : Int64} (k : wd_G cS V ad K nL Q (pc + 3) lv st (σ.1, v, σ.2.2)) : wd_G cS V ad K nL Q pc lv (.long v :: .ref (ad 0) :: st) σ := wd_put hC (ci := 4) (q := 0) (σ' := (σ.1, v, σ.2.2)) rfl inlX4 tyX4 tyX4_ok nmX4 (by decide) rfl 14 (by decide) (wL_27 _ (List.mem_of_getElem? (i := 18) rfl)) rfl rfl rfl (Nat.le_of_ble_eq_true rfl) rfl (fun a _ h => cE_x h) hdg k
theorem ld_l (hC : wd_Ok cS V ad K own cc nL d ret) (hdg : decode cc pc = .ok (.iaload, 1))  {x : Int32} (i : Nat) (hx : x = nI i) (hi : i < 200) (k : wd_G cS V ad K nL Q (pc + 1) lv (.int (σ.1 2 i) :: st) σ)  : wd_G cS V ad K nL Q pc lv (.int x :: .ref (ad 2) :: st) σ := wd_iald hC (q := 2) (n := 200) (by decide) (fun _ => rfl) (by decide) i hx hi hdg k
theorem st_l (hC : wd_Ok cS V ad K own cc nL d ret) (hdg : decode cc pc = .ok (.iastore, 1))  {x v : Int32} (i : Nat) (hx : x = nI i) (hi : i < 200) (k : wd_G cS V ad K nL Q (pc + 1) lv st (wd_up σ 2 i v))  : wd_G cS V ad K nL Q pc lv (.int v :: .int x :: .ref (ad 2) :: st) σ := wd_iast hC (q := 2) (n := 200) (by decide) (fun _ => rfl) (by decide) i hx hi hdg k
theorem ld_b7 (hC : wd_Ok cS V ad K own cc nL d ret) (hdg : decode cc pc = .ok (.iaload, 1))  {x : Int32} (i : Nat) (hx : x = nI i) (hi : i < 5) (k : wd_G cS V ad K nL Q (pc + 1) lv (.int (σ.1 7 i) :: st) σ)  : wd_G cS V ad K nL Q pc lv (.int x :: .ref (ad 7) :: st) σ := wd_iald hC (q := 7) (n := 5) (by decide) (fun _ => rfl) (by decide) i hx hi hdg k
theorem st_b7 (hC : wd_Ok cS V ad K own cc nL d ret) (hdg : decode cc pc = .ok (.iastore, 1))  {x v : Int32} (i : Nat) (hx : x = nI i) (hi : i < 5) (k : wd_G cS V ad K nL Q (pc + 1) lv st (wd_up σ 7 i v))  : wd_G cS V ad K nL Q pc lv (.int v :: .int x :: .ref (ad 7) :: st) σ := wd_iast hC (q := 7) (n := 5) (by decide) (fun _ => rfl) (by decide) i hx hi hdg k
theorem ld_b8 (hC : wd_Ok cS V ad K own cc nL d ret) (hdg : decode cc pc = .ok (.iaload, 1))  {x : Int32} (i : Nat) (hx : x = nI i) (hi : i < 5) (k : wd_G cS V ad K nL Q (pc + 1) lv (.int (σ.1 8 i) :: st) σ)  : wd_G cS V ad K nL Q pc lv (.int x :: .ref (ad 8) :: st) σ := wd_iald hC (q := 8) (n := 5) (by decide) (fun _ => rfl) (by decide) i hx hi hdg k
theorem st_b8 (hC : wd_Ok cS V ad K own cc nL d ret) (hdg : decode cc pc = .ok (.iastore, 1))  {x v : Int32} (i : Nat) (hx : x = nI i) (hi : i < 5) (k : wd_G cS V ad K nL Q (pc + 1) lv st (wd_up σ 8 i v))  : wd_G cS V ad K nL Q pc lv (.int v :: .int x :: .ref (ad 8) :: st) σ := wd_iast hC (q := 8) (n := 5) (by decide) (fun _ => rfl) (by decide) i hx hi hdg k
theorem ld_f (hC : wd_Ok cS V ad K own cc nL d ret) (hdg : decode cc pc = .ok (.iaload, 1))  {x : Int32} (i : Nat) (hx : x = nI i) (hi : i < 6) (k : wd_G cS V ad K nL Q (pc + 1) lv (.int (σ.1 9 i) :: st) σ)  : wd_G cS V ad K nL Q pc lv (.int x :: .ref (ad 9) :: st) σ := wd_iald hC (q := 9) (n := 6) (by decide) (fun _ => rfl) (by decide) i hx hi hdg k
theorem st_f (hC : wd_Ok cS V ad K own cc nL d ret) (hdg : decode cc pc = .ok (.iastore, 1))  {x v : Int32} (i : Nat) (hx : x = nI i) (hi : i < 6) (k : wd_G cS V ad K nL Q (pc + 1) lv st (wd_up σ 9 i v))  : wd_G cS V ad K nL Q pc lv (.int v :: .int x :: .ref (ad 9) :: st) σ := wd_iast hC (q := 9) (n := 6) (by decide) (fun _ => rfl) (by decide) i hx hi hdg k
theorem ld_w (hC : wd_Ok cS V ad K own cc nL d ret) (hdg : decode cc pc = .ok (.iaload, 1)) {t c : Nat} {x : Int32} (i : Nat) (hx : x = nI i) (hi : i < 3) (k : wd_G cS V ad K nL Q (pc + 1) lv (.int (σ.1 (ct t + c) i) :: st) σ)  (ht : t < 2 := by omega) (h1 : 1 ≤ c := by omega) (h2 : c ≤ 2 := by omega) : wd_G cS V ad K nL Q pc lv (.int x :: .ref (ad (ct t + c)) :: st) σ := wd_iald hC (q := (ct t + c)) (n := 3) (by show ct t + c < 120; unfold ct; omega) (fun _ => cE_tw t c ht h1 h2) (by decide) i hx hi hdg k
theorem st_w (hC : wd_Ok cS V ad K own cc nL d ret) (hdg : decode cc pc = .ok (.iastore, 1)) {t c : Nat} {x v : Int32} (i : Nat) (hx : x = nI i) (hi : i < 3) (k : wd_G cS V ad K nL Q (pc + 1) lv st (wd_up σ (ct t + c) i v))  (ht : t < 2 := by omega) (h1 : 1 ≤ c := by omega) (h2 : c ≤ 2 := by omega) : wd_G cS V ad K nL Q pc lv (.int v :: .int x :: .ref (ad (ct t + c)) :: st) σ := wd_iast hC (q := (ct t + c)) (n := 3) (by show ct t + c < 120; unfold ct; omega) (fun _ => cE_tw t c ht h1 h2) (by decide) i hx hi hdg k
theorem ld_s (hC : wd_Ok cS V ad K own cc nL d ret) (hdg : decode cc pc = .ok (.iaload, 1)) {t c : Nat} {x : Int32} (i : Nat) (hx : x = nI i) (hi : i < 6) (k : wd_G cS V ad K nL Q (pc + 1) lv (.int (σ.1 (ct t + c) i) :: st) σ)  (ht : t < 2 := by omega) (h1 : 3 ≤ c := by omega) (h2 : c ≤ 5 := by omega) : wd_G cS V ad K nL Q pc lv (.int x :: .ref (ad (ct t + c)) :: st) σ := wd_iald hC (q := (ct t + c)) (n := 6) (by show ct t + c < 120; unfold ct; omega) (fun _ => cE_ts t c ht h1 h2) (by decide) i hx hi hdg k
theorem st_s (hC : wd_Ok cS V ad K own cc nL d ret) (hdg : decode cc pc = .ok (.iastore, 1)) {t c : Nat} {x v : Int32} (i : Nat) (hx : x = nI i) (hi : i < 6) (k : wd_G cS V ad K nL Q (pc + 1) lv st (wd_up σ (ct t + c) i v))  (ht : t < 2 := by omega) (h1 : 3 ≤ c := by omega) (h2 : c ≤ 5 := by omega) : wd_G cS V ad K nL Q pc lv (.int v :: .int x :: .ref (ad (ct t + c)) :: st) σ := wd_iast hC (q := (ct t + c)) (n := 6) (by show ct t + c < 120; unfold ct; omega) (fun _ => cE_ts t c ht h1 h2) (by decide) i hx hi hdg k
theorem ld_r (hC : wd_Ok cS V ad K own cc nL d ret) (hdg : decode cc pc = .ok (.iaload, 1)) {t a : Nat} {x : Int32} (i : Nat) (hx : x = nI i) (hi : i < 3) (k : wd_G cS V ad K nL Q (pc + 1) lv (.int (σ.1 (ct t + (7 + a)) i) :: st) σ)  (ht : t < 2 := by omega) (ha : a < 6 := by omega) : wd_G cS V ad K nL Q pc lv (.int x :: .ref (ad (ct t + (7 + a))) :: st) σ := wd_iald hC (q := (ct t + (7 + a))) (n := 3) (by show ct t + (7 + a) < 120; unfold ct; omega) (fun _ => cE_tr t a ht ha) (by decide) i hx hi hdg k
theorem st_r (hC : wd_Ok cS V ad K own cc nL d ret) (hdg : decode cc pc = .ok (.iastore, 1)) {t a : Nat} {x v : Int32} (i : Nat) (hx : x = nI i) (hi : i < 3) (k : wd_G cS V ad K nL Q (pc + 1) lv st (wd_up σ (ct t + (7 + a)) i v))  (ht : t < 2 := by omega) (ha : a < 6 := by omega) : wd_G cS V ad K nL Q pc lv (.int v :: .int x :: .ref (ad (ct t + (7 + a))) :: st) σ := wd_iast hC (q := (ct t + (7 + a))) (n := 3) (by show ct t + (7 + a) < 120; unfold ct; omega) (fun _ => cE_tr t a ht ha) (by decide) i hx hi hdg k
theorem ld_m (hC : wd_Ok cS V ad K own cc nL d ret) (hdg : decode cc pc = .ok (.iaload, 1)) {j c : Nat} {x : Int32} (i : Nat) (hx : x = nI i) (hi : i < 6) (k : wd_G cS V ad K nL Q (pc + 1) lv (.int (σ.1 (cm j + c) i) :: st) σ)  (hj : j < 14 := by omega) (h1 : 1 ≤ c := by omega) (h2 : c ≤ 5 := by omega) : wd_G cS V ad K nL Q pc lv (.int x :: .ref (ad (cm j + c)) :: st) σ := wd_iald hC (q := (cm j + c)) (n := 6) (by show cm j + c < 120; unfold cm; omega) (fun _ => cE_ma j c h1 h2) (by decide) i hx hi hdg k
theorem st_m (hC : wd_Ok cS V ad K own cc nL d ret) (hdg : decode cc pc = .ok (.iastore, 1)) {j c : Nat} {x v : Int32} (i : Nat) (hx : x = nI i) (hi : i < 6) (k : wd_G cS V ad K nL Q (pc + 1) lv st (wd_up σ (cm j + c) i v))  (hj : j < 14 := by omega) (h1 : 1 ≤ c := by omega) (h2 : c ≤ 5 := by omega) : wd_G cS V ad K nL Q pc lv (.int v :: .int x :: .ref (ad (cm j + c)) :: st) σ := wd_iast hC (q := (cm j + c)) (n := 6) (by show cm j + c < 120; unfold cm; omega) (fun _ => cE_ma j c h1 h2) (by decide) i hx hi hdg k
theorem ld_y (hC : wd_Ok cS V ad K own cc nL d ret) (hdg : decode cc pc = .ok (.aaload, 1)) {t : Nat} {x : Int32} (i : Nat) (hx : x = nI i) (hi : i < 6) (k : wd_G cS V ad K nL Q (pc + 1) lv (.ref (ad (ct t + (7 + i))) :: st) σ) (ht : t < 2 := by omega) : wd_G cS V ad K nL Q pc lv (.int x :: .ref (ad (ct t + 6)) :: st) σ := wd_aald hC (q := ct t + 6) (n := 6) (t0 := 3) (by show ct t + 6 < 120; unfold ct; omega) (cE_ty t ht) rfl rfl (by decide) i hx hi (if_pos hi) hdg k
theorem ld_g (hC : wd_Ok cS V ad K own cc nL d ret) (hdg : decode cc pc = .ok (.aaload, 1)) {x : Int32} (i : Nat) (hx : x = nI i) (hi : i < 10) (k : wd_G cS V ad K nL Q (pc + 1) lv (.ref (ad (cm (4 + i))) :: st) σ) : wd_G cS V ad K nL Q pc lv (.int x :: .ref (ad 4) :: st) σ := wd_aald hC (q := 4) (n := 10) (t0 := 2) (by decide) rfl rfl rfl (Nat.le_of_ble_eq_true rfl) i hx hi (if_pos hi) hdg k
theorem ld_i (hC : wd_Ok cS V ad K own cc nL d ret) (hdg : decode cc pc = .ok (.aaload, 1)) {x : Int32} (i : Nat) (hx : x = nI i) (hi : i < 2) (k : wd_G cS V ad K nL Q (pc + 1) lv (.ref (ad (cm (2 + i))) :: st) σ) : wd_G cS V ad K nL Q pc lv (.int x :: .ref (ad 5) :: st) σ := wd_aald hC (q := 5) (n := 2) (t0 := 2) (by decide) rfl rfl rfl (Nat.le_of_ble_eq_true rfl) i hx hi (if_pos hi) hdg k
theorem ld_z (hC : wd_Ok cS V ad K own cc nL d ret) (hdg : decode cc pc = .ok (.baload, 1)) {x : Int32} (i : Nat) (hx : x = nI i) (hi : i < 2) (k : wd_G cS V ad K nL Q (pc + 1) lv (.int (σ.1 6 i) :: st) σ) : wd_G cS V ad K nL Q pc lv (.int x :: .ref (ad 6) :: st) σ := wd_zald hC (q := 6) (n := 2) (by decide) (fun _ => rfl) (by decide) i hx hi hdg k
theorem st_z (hC : wd_Ok cS V ad K own cc nL d ret) (hdg : decode cc pc = .ok (.bastore, 1)) {x v : Int32} (i : Nat) (hx : x = nI i) (hi : i < 2) (hv : vp_nar .boolean v = v) (k : wd_G cS V ad K nL Q (pc + 1) lv st (wd_up σ 6 i v)) : wd_G cS V ad K nL Q pc lv (.int v :: .int x :: .ref (ad 6) :: st) σ := wd_zast hC (q := 6) (n := 2) (by decide) (fun _ => rfl) (by decide) i hx hi hv hdg k
end CF
theorem cw_X4_61 : wd_wV RX4 61 RX1 yX1_begin cX1_begin 4 none 1 := ⟨(wL_3 _ (List.mem_of_getElem? (i := 17) rfl)), (wL_3 _ (List.mem_of_getElem? (i := 18) rfl)), (wL_3 _ (List.mem_of_getElem? (i := 19) rfl)), (wL_1 _ (List.mem_of_getElem? (i := 23) rfl)), (wL_3 _ (List.mem_of_getElem? (i := 20) rfl)), by decide +kernel⟩
theorem cw_X5_66 : wd_wS RX5 66 yX5_in cX5_in 3 (some .boolean) 3 := ⟨(wL_5 _ (List.mem_of_getElem? (i := 8) rfl)), (wL_5 _ (List.mem_of_getElem? (i := 9) rfl)), (wL_1 _ (List.mem_of_getElem? (i := 5) rfl)), (wL_5 _ (List.mem_of_getElem? (i := 10) rfl)), by decide +kernel⟩
theorem cw_X4_72 : wd_wV RX4 72 RX2 yX2_readInto cX2_readInto 5 (some .int) 1 := ⟨(wL_6 _ (List.mem_of_getElem? (i := 2) rfl)), (wL_6 _ (List.mem_of_getElem? (i := 3) rfl)), (wL_6 _ (List.mem_of_getElem? (i := 4) rfl)), (wL_1 _ (List.mem_of_getElem? (i := 14) rfl)), (wL_6 _ (List.mem_of_getElem? (i := 5) rfl)), by decide +kernel⟩
theorem cw_X2_27 : wd_wV RX2 27 RX2 yX2_nextToken cX2_nextToken 1 (some .int) 0 := ⟨(wL_6 _ (List.mem_of_getElem? (i := 10) rfl)), (wL_6 _ (List.mem_of_getElem? (i := 11) rfl)), (wL_6 _ (List.mem_of_getElem? (i := 12) rfl)), (wL_1 _ (List.mem_of_getElem? (i := 14) rfl)), (wL_6 _ (List.mem_of_getElem? (i := 13) rfl)), by decide +kernel⟩
theorem cw_X2_74 : wd_wS RX2 74 yX2_isDigit cX2_isDigit 1 (some .boolean) 1 := ⟨(wL_6 _ (List.mem_of_getElem? (i := 15) rfl)), (wL_6 _ (List.mem_of_getElem? (i := 16) rfl)), (wL_1 _ (List.mem_of_getElem? (i := 14) rfl)), (wL_6 _ (List.mem_of_getElem? (i := 17) rfl)), by decide +kernel⟩
theorem cw_X2_78 : wd_wV RX2 78 RX2 yX2_numberToken cX2_numberToken 2 (some .int) 0 := ⟨(wL_6 _ (List.mem_of_getElem? (i := 18) rfl)), (wL_6 _ (List.mem_of_getElem? (i := 19) rfl)), (wL_6 _ (List.mem_of_getElem? (i := 20) rfl)), (wL_1 _ (List.mem_of_getElem? (i := 14) rfl)), (wL_6 _ (List.mem_of_getElem? (i := 21) rfl)), by decide +kernel⟩
theorem cw_X2_31 : wd_wV RX2 31 RX2 yX2_readItem cX2_readItem 3 (some .boolean) 2 := ⟨(wL_7 _ (List.mem_of_getElem? (i := 3) rfl)), (wL_7 _ (List.mem_of_getElem? (i := 4) rfl)), (wL_7 _ (List.mem_of_getElem? (i := 5) rfl)), (wL_1 _ (List.mem_of_getElem? (i := 14) rfl)), (wL_7 _ (List.mem_of_getElem? (i := 6) rfl)), by decide +kernel⟩
theorem cw_X2_38 : wd_wV RX2 38 RX2 yX2_readCrop cX2_readCrop 3 (some .boolean) 1 := ⟨(wL_7 _ (List.mem_of_getElem? (i := 7) rfl)), (wL_7 _ (List.mem_of_getElem? (i := 8) rfl)), (wL_7 _ (List.mem_of_getElem? (i := 9) rfl)), (wL_1 _ (List.mem_of_getElem? (i := 14) rfl)), (wL_7 _ (List.mem_of_getElem? (i := 10) rfl)), by decide +kernel⟩
theorem cw_X2_45 : wd_wV RX2 45 RX2 yX2_readNumber cX2_readNumber 3 (some .boolean) 2 := ⟨(wL_7 _ (List.mem_of_getElem? (i := 13) rfl)), (wL_7 _ (List.mem_of_getElem? (i := 14) rfl)), (wL_7 _ (List.mem_of_getElem? (i := 15) rfl)), (wL_1 _ (List.mem_of_getElem? (i := 14) rfl)), (wL_7 _ (List.mem_of_getElem? (i := 16) rfl)), by decide +kernel⟩
theorem cw_X2_42 : wd_wV RX2 42 RX2 yX2_readMan cX2_readMan 4 (some .boolean) 1 := ⟨(wL_7 _ (List.mem_of_getElem? (i := 17) rfl)), (wL_7 _ (List.mem_of_getElem? (i := 18) rfl)), (wL_7 _ (List.mem_of_getElem? (i := 19) rfl)), (wL_1 _ (List.mem_of_getElem? (i := 14) rfl)), (wL_7 _ (List.mem_of_getElem? (i := 20) rfl)), by decide +kernel⟩
theorem cw_X5_96 : wd_wV RX5 96 RX5 yX5_advances cX5_advances 2 none 0 := ⟨(wL_8 _ (List.mem_of_getElem? (i := 9) rfl)), (wL_8 _ (List.mem_of_getElem? (i := 10) rfl)), (wL_8 _ (List.mem_of_getElem? (i := 11) rfl)), (wL_1 _ (List.mem_of_getElem? (i := 5) rfl)), (wL_8 _ (List.mem_of_getElem? (i := 12) rfl)), by decide +kernel⟩
theorem cw_X5_76 : wd_wV RX5 76 RX5 yX5_letterAt cX5_letterAt 2 (some .int) 1 := ⟨(wL_8 _ (List.mem_of_getElem? (i := 14) rfl)), (wL_8 _ (List.mem_of_getElem? (i := 15) rfl)), (wL_8 _ (List.mem_of_getElem? (i := 16) rfl)), (wL_1 _ (List.mem_of_getElem? (i := 5) rfl)), (wL_8 _ (List.mem_of_getElem? (i := 17) rfl)), by decide +kernel⟩
theorem cw_X5_92 : wd_wV RX5 92 RX5 yX5_isWell cX5_isWell 1 (some .boolean) 0 := ⟨(wL_8 _ (List.mem_of_getElem? (i := 18) rfl)), (wL_8 _ (List.mem_of_getElem? (i := 19) rfl)), (wL_8 _ (List.mem_of_getElem? (i := 20) rfl)), (wL_1 _ (List.mem_of_getElem? (i := 5) rfl)), (wL_8 _ (List.mem_of_getElem? (i := 21) rfl)), by decide +kernel⟩
theorem cw_X5_99 : wd_wV RX5 99 RX5 yX5_takesToken cX5_takesToken 3 (some .int) 1 := ⟨(wL_8 _ (List.mem_of_getElem? (i := 22) rfl)), (wL_8 _ (List.mem_of_getElem? (i := 23) rfl)), (wL_9 _ (List.mem_of_getElem? (i := 0) rfl)), (wL_1 _ (List.mem_of_getElem? (i := 5) rfl)), (wL_9 _ (List.mem_of_getElem? (i := 1) rfl)), by decide +kernel⟩
theorem cw_X5_107 : wd_wV RX5 107 RX5 yX5_readsItem cX5_readsItem 4 none 1 := ⟨(wL_9 _ (List.mem_of_getElem? (i := 2) rfl)), (wL_9 _ (List.mem_of_getElem? (i := 3) rfl)), (wL_9 _ (List.mem_of_getElem? (i := 4) rfl)), (wL_1 _ (List.mem_of_getElem? (i := 5) rfl)), (wL_9 _ (List.mem_of_getElem? (i := 5) rfl)), by decide +kernel⟩
theorem cw_X5_103 : wd_wV RX5 103 RX5 yX5_number cX5_number 3 (some .int) 2 := ⟨(wL_9 _ (List.mem_of_getElem? (i := 6) rfl)), (wL_9 _ (List.mem_of_getElem? (i := 7) rfl)), (wL_9 _ (List.mem_of_getElem? (i := 8) rfl)), (wL_1 _ (List.mem_of_getElem? (i := 5) rfl)), (wL_9 _ (List.mem_of_getElem? (i := 9) rfl)), by decide +kernel⟩
theorem cw_X5_111 : wd_wV RX5 111 RX5 yX5_settles cX5_settles 3 none 0 := ⟨(wL_9 _ (List.mem_of_getElem? (i := 10) rfl)), (wL_9 _ (List.mem_of_getElem? (i := 11) rfl)), (wL_9 _ (List.mem_of_getElem? (i := 12) rfl)), (wL_1 _ (List.mem_of_getElem? (i := 5) rfl)), (wL_9 _ (List.mem_of_getElem? (i := 13) rfl)), by decide +kernel⟩
theorem cw_X4_85 : wd_wV RX4 85 RX4 yX4_isMan cX4_isMan 2 (some .boolean) 1 := ⟨(wL_10 _ (List.mem_of_getElem? (i := 3) rfl)), (wL_10 _ (List.mem_of_getElem? (i := 4) rfl)), (wL_10 _ (List.mem_of_getElem? (i := 5) rfl)), (wL_1 _ (List.mem_of_getElem? (i := 2) rfl)), (wL_10 _ (List.mem_of_getElem? (i := 6) rfl)), by decide +kernel⟩
theorem cw_X4_155 : wd_wS RX4 155 yX4_isBelow cX4_isBelow 2 (some .boolean) 2 := ⟨(wL_10 _ (List.mem_of_getElem? (i := 7) rfl)), (wL_10 _ (List.mem_of_getElem? (i := 8) rfl)), (wL_1 _ (List.mem_of_getElem? (i := 2) rfl)), (wL_10 _ (List.mem_of_getElem? (i := 9) rfl)), by decide +kernel⟩
theorem cw_X5_134 : wd_wV RX5 134 RX5 yX5_isMan cX5_isMan 2 (some .boolean) 1 := ⟨(wL_10 _ (List.mem_of_getElem? (i := 14) rfl)), (wL_10 _ (List.mem_of_getElem? (i := 15) rfl)), (wL_10 _ (List.mem_of_getElem? (i := 16) rfl)), (wL_1 _ (List.mem_of_getElem? (i := 5) rfl)), (wL_10 _ (List.mem_of_getElem? (i := 17) rfl)), by decide +kernel⟩
theorem cw_X4_110 : wd_wV RX4 110 RX4 yX4_isCrop cX4_isCrop 2 (some .boolean) 1 := ⟨(wL_10 _ (List.mem_of_getElem? (i := 23) rfl)), (wL_11 _ (List.mem_of_getElem? (i := 0) rfl)), (wL_11 _ (List.mem_of_getElem? (i := 1) rfl)), (wL_1 _ (List.mem_of_getElem? (i := 2) rfl)), (wL_11 _ (List.mem_of_getElem? (i := 2) rfl)), by decide +kernel⟩
theorem cw_X5_138 : wd_wV RX5 138 RX5 yX5_isCrop cX5_isCrop 2 (some .boolean) 1 := ⟨(wL_11 _ (List.mem_of_getElem? (i := 8) rfl)), (wL_11 _ (List.mem_of_getElem? (i := 9) rfl)), (wL_11 _ (List.mem_of_getElem? (i := 10) rfl)), (wL_1 _ (List.mem_of_getElem? (i := 5) rfl)), (wL_11 _ (List.mem_of_getElem? (i := 11) rfl)), by decide +kernel⟩
theorem cw_X4_117 : wd_wV RX4 117 RX4 yX4_carriedBy cX4_carriedBy 7 (some .int) 3 := ⟨(wL_11 _ (List.mem_of_getElem? (i := 16) rfl)), (wL_11 _ (List.mem_of_getElem? (i := 17) rfl)), (wL_11 _ (List.mem_of_getElem? (i := 18) rfl)), (wL_1 _ (List.mem_of_getElem? (i := 2) rfl)), (wL_11 _ (List.mem_of_getElem? (i := 19) rfl)), by decide +kernel⟩
theorem cw_X5_120 : wd_wV RX5 120 RX5 yX5_carriesBy cX5_carriesBy 5 (some .int) 3 := ⟨(wL_12 _ (List.mem_of_getElem? (i := 2) rfl)), (wL_12 _ (List.mem_of_getElem? (i := 3) rfl)), (wL_12 _ (List.mem_of_getElem? (i := 4) rfl)), (wL_1 _ (List.mem_of_getElem? (i := 5) rfl)), (wL_12 _ (List.mem_of_getElem? (i := 5) rfl)), by decide +kernel⟩
theorem cw_X4_122 : wd_wV RX4 122 RX4 yX4_takenBy cX4_takenBy 4 (some .int) 2 := ⟨(wL_12 _ (List.mem_of_getElem? (i := 12) rfl)), (wL_12 _ (List.mem_of_getElem? (i := 13) rfl)), (wL_12 _ (List.mem_of_getElem? (i := 14) rfl)), (wL_1 _ (List.mem_of_getElem? (i := 2) rfl)), (wL_12 _ (List.mem_of_getElem? (i := 15) rfl)), by decide +kernel⟩
theorem cw_X4_202 : wd_wV RX4 202 RX4 yX4_takenIf cX4_takenIf 5 (some .int) 3 := ⟨(wL_12 _ (List.mem_of_getElem? (i := 16) rfl)), (wL_12 _ (List.mem_of_getElem? (i := 17) rfl)), (wL_12 _ (List.mem_of_getElem? (i := 18) rfl)), (wL_1 _ (List.mem_of_getElem? (i := 2) rfl)), (wL_12 _ (List.mem_of_getElem? (i := 19) rfl)), by decide +kernel⟩
theorem cw_X4_126 : wd_wV RX4 126 RX4 yX4_keptBy cX4_keptBy 5 (some .int) 2 := ⟨(wL_12 _ (List.mem_of_getElem? (i := 21) rfl)), (wL_12 _ (List.mem_of_getElem? (i := 22) rfl)), (wL_12 _ (List.mem_of_getElem? (i := 23) rfl)), (wL_1 _ (List.mem_of_getElem? (i := 2) rfl)), (wL_13 _ (List.mem_of_getElem? (i := 0) rfl)), by decide +kernel⟩
theorem cw_X4_129 : wd_wV RX4 129 RX4 yX4_wealthOf cX4_wealthOf 7 (some .int) 2 := ⟨(wL_13 _ (List.mem_of_getElem? (i := 1) rfl)), (wL_13 _ (List.mem_of_getElem? (i := 2) rfl)), (wL_13 _ (List.mem_of_getElem? (i := 3) rfl)), (wL_1 _ (List.mem_of_getElem? (i := 2) rfl)), (wL_13 _ (List.mem_of_getElem? (i := 4) rfl)), by decide +kernel⟩
theorem cw_X5_124 : wd_wV RX5 124 RX5 yX5_takesBy cX5_takesBy 7 (some .int) 2 := ⟨(wL_13 _ (List.mem_of_getElem? (i := 11) rfl)), (wL_13 _ (List.mem_of_getElem? (i := 12) rfl)), (wL_13 _ (List.mem_of_getElem? (i := 13) rfl)), (wL_1 _ (List.mem_of_getElem? (i := 5) rfl)), (wL_13 _ (List.mem_of_getElem? (i := 14) rfl)), by decide +kernel⟩
theorem cw_X5_131 : wd_wV RX5 131 RX5 yX5_keptBy cX5_keptBy 4 (some .int) 2 := ⟨(wL_13 _ (List.mem_of_getElem? (i := 15) rfl)), (wL_13 _ (List.mem_of_getElem? (i := 16) rfl)), (wL_13 _ (List.mem_of_getElem? (i := 17) rfl)), (wL_1 _ (List.mem_of_getElem? (i := 5) rfl)), (wL_13 _ (List.mem_of_getElem? (i := 18) rfl)), by decide +kernel⟩
theorem cw_X5_142 : wd_wV RX5 142 RX5 yX5_hasBy cX5_hasBy 3 (some .int) 2 := ⟨(wL_13 _ (List.mem_of_getElem? (i := 19) rfl)), (wL_13 _ (List.mem_of_getElem? (i := 20) rfl)), (wL_13 _ (List.mem_of_getElem? (i := 21) rfl)), (wL_1 _ (List.mem_of_getElem? (i := 5) rfl)), (wL_13 _ (List.mem_of_getElem? (i := 22) rfl)), by decide +kernel⟩
theorem cw_X5_128 : wd_wV RX5 128 RX5 yX5_takenWorth cX5_takenWorth 4 (some .int) 2 := ⟨(wL_13 _ (List.mem_of_getElem? (i := 23) rfl)), (wL_14 _ (List.mem_of_getElem? (i := 0) rfl)), (wL_14 _ (List.mem_of_getElem? (i := 1) rfl)), (wL_1 _ (List.mem_of_getElem? (i := 5) rfl)), (wL_14 _ (List.mem_of_getElem? (i := 2) rfl)), by decide +kernel⟩
theorem cw_X4_141 : wd_wV RX4 141 RX4 yX4_ropesOfAll cX4_ropesOfAll 3 (some .int) 0 := ⟨(wL_14 _ (List.mem_of_getElem? (i := 8) rfl)), (wL_14 _ (List.mem_of_getElem? (i := 9) rfl)), (wL_14 _ (List.mem_of_getElem? (i := 10) rfl)), (wL_1 _ (List.mem_of_getElem? (i := 2) rfl)), (wL_14 _ (List.mem_of_getElem? (i := 11) rfl)), by decide +kernel⟩
theorem cw_X4_145 : wd_wV RX4 145 RX4 yX4_hungryBits cX4_hungryBits 3 (some .int) 0 := ⟨(wL_14 _ (List.mem_of_getElem? (i := 12) rfl)), (wL_14 _ (List.mem_of_getElem? (i := 13) rfl)), (wL_14 _ (List.mem_of_getElem? (i := 14) rfl)), (wL_1 _ (List.mem_of_getElem? (i := 2) rfl)), (wL_14 _ (List.mem_of_getElem? (i := 15) rfl)), by decide +kernel⟩
theorem cw_X4_185 : wd_wV RX4 185 RX4 yX4_isHungry cX4_isHungry 4 (some .boolean) 1 := ⟨(wL_14 _ (List.mem_of_getElem? (i := 16) rfl)), (wL_14 _ (List.mem_of_getElem? (i := 17) rfl)), (wL_14 _ (List.mem_of_getElem? (i := 18) rfl)), (wL_1 _ (List.mem_of_getElem? (i := 2) rfl)), (wL_14 _ (List.mem_of_getElem? (i := 19) rfl)), by decide +kernel⟩
theorem cw_X4_173 : wd_wV RX4 173 RX1 yX1_copyFrom cX1_copyFrom 2 none 1 := ⟨(wL_14 _ (List.mem_of_getElem? (i := 20) rfl)), (wL_14 _ (List.mem_of_getElem? (i := 21) rfl)), (wL_14 _ (List.mem_of_getElem? (i := 22) rfl)), (wL_1 _ (List.mem_of_getElem? (i := 23) rfl)), (wL_14 _ (List.mem_of_getElem? (i := 23) rfl)), by decide +kernel⟩
theorem cw_X4_256 : wd_wV RX4 256 RX4 yX4_mostBySowing cX4_mostBySowing 5 (some .int) 1 := ⟨(wL_15 _ (List.mem_of_getElem? (i := 4) rfl)), (wL_15 _ (List.mem_of_getElem? (i := 5) rfl)), (wL_15 _ (List.mem_of_getElem? (i := 6) rfl)), (wL_1 _ (List.mem_of_getElem? (i := 2) rfl)), (wL_15 _ (List.mem_of_getElem? (i := 7) rfl)), by decide +kernel⟩
theorem cw_X4_148 : wd_wV RX4 148 RX4 yX4_wealthOfAll cX4_wealthOfAll 3 (some .int) 0 := ⟨(wL_15 _ (List.mem_of_getElem? (i := 11) rfl)), (wL_15 _ (List.mem_of_getElem? (i := 12) rfl)), (wL_15 _ (List.mem_of_getElem? (i := 13) rfl)), (wL_1 _ (List.mem_of_getElem? (i := 2) rfl)), (wL_15 _ (List.mem_of_getElem? (i := 14) rfl)), by decide +kernel⟩
theorem cw_X5_148 : wd_wV RX5 148 RX5 yX5_hungries cX5_hungries 3 (some .int) 0 := ⟨(wL_15 _ (List.mem_of_getElem? (i := 19) rfl)), (wL_15 _ (List.mem_of_getElem? (i := 20) rfl)), (wL_15 _ (List.mem_of_getElem? (i := 21) rfl)), (wL_1 _ (List.mem_of_getElem? (i := 5) rfl)), (wL_15 _ (List.mem_of_getElem? (i := 22) rfl)), by decide +kernel⟩
theorem cw_X5_145 : wd_wV RX5 145 RX5 yX5_isHungry cX5_isHungry 6 (some .boolean) 1 := ⟨(wL_15 _ (List.mem_of_getElem? (i := 23) rfl)), (wL_16 _ (List.mem_of_getElem? (i := 0) rfl)), (wL_16 _ (List.mem_of_getElem? (i := 1) rfl)), (wL_1 _ (List.mem_of_getElem? (i := 5) rfl)), (wL_16 _ (List.mem_of_getElem? (i := 2) rfl)), by decide +kernel⟩
theorem cw_X5_169 : wd_wV RX5 169 RX5 yX5_asNow cX5_asNow 2 none 0 := ⟨(wL_16 _ (List.mem_of_getElem? (i := 3) rfl)), (wL_16 _ (List.mem_of_getElem? (i := 4) rfl)), (wL_16 _ (List.mem_of_getElem? (i := 5) rfl)), (wL_1 _ (List.mem_of_getElem? (i := 5) rfl)), (wL_16 _ (List.mem_of_getElem? (i := 6) rfl)), by decide +kernel⟩
theorem cw_X5_152 : wd_wV RX5 152 RX5 yX5_hasAll cX5_hasAll 3 (some .int) 0 := ⟨(wL_16 _ (List.mem_of_getElem? (i := 7) rfl)), (wL_16 _ (List.mem_of_getElem? (i := 8) rfl)), (wL_16 _ (List.mem_of_getElem? (i := 9) rfl)), (wL_1 _ (List.mem_of_getElem? (i := 5) rfl)), (wL_16 _ (List.mem_of_getElem? (i := 10) rfl)), by decide +kernel⟩
theorem cw_X4_151 : wd_wV RX4 151 RX0 yX0_add cX0_add 2 none 1 := ⟨(wL_16 _ (List.mem_of_getElem? (i := 15) rfl)), (wL_16 _ (List.mem_of_getElem? (i := 16) rfl)), (wL_16 _ (List.mem_of_getElem? (i := 17) rfl)), (wL_2 _ (List.mem_of_getElem? (i := 4) rfl)), (wL_16 _ (List.mem_of_getElem? (i := 18) rfl)), by decide +kernel⟩
theorem cw_X0_22 : wd_wV RX0 22 RX1 yX1_copyFrom cX1_copyFrom 2 none 1 := ⟨(wL_16 _ (List.mem_of_getElem? (i := 22) rfl)), (wL_14 _ (List.mem_of_getElem? (i := 21) rfl)), (wL_14 _ (List.mem_of_getElem? (i := 22) rfl)), (wL_1 _ (List.mem_of_getElem? (i := 23) rfl)), (wL_14 _ (List.mem_of_getElem? (i := 23) rfl)), by decide +kernel⟩
theorem cw_X5_158 : wd_wV RX5 158 RX5 yX5_becomes cX5_becomes 4 (some .int) 2 := ⟨(wL_17 _ (List.mem_of_getElem? (i := 3) rfl)), (wL_17 _ (List.mem_of_getElem? (i := 4) rfl)), (wL_17 _ (List.mem_of_getElem? (i := 5) rfl)), (wL_1 _ (List.mem_of_getElem? (i := 5) rfl)), (wL_17 _ (List.mem_of_getElem? (i := 6) rfl)), by decide +kernel⟩
theorem cw_X5_155 : wd_wV RX5 155 RX5 yX5_notes cX5_notes 2 none 0 := ⟨(wL_17 _ (List.mem_of_getElem? (i := 7) rfl)), (wL_17 _ (List.mem_of_getElem? (i := 8) rfl)), (wL_17 _ (List.mem_of_getElem? (i := 9) rfl)), (wL_1 _ (List.mem_of_getElem? (i := 5) rfl)), (wL_17 _ (List.mem_of_getElem? (i := 10) rfl)), by decide +kernel⟩
theorem cw_X4_159 : wd_wV RX4 159 RX4 yX4_exchange cX4_exchange 5 none 2 := ⟨(wL_18 _ (List.mem_of_getElem? (i := 15) rfl)), (wL_18 _ (List.mem_of_getElem? (i := 16) rfl)), (wL_18 _ (List.mem_of_getElem? (i := 17) rfl)), (wL_1 _ (List.mem_of_getElem? (i := 2) rfl)), (wL_18 _ (List.mem_of_getElem? (i := 18) rfl)), by decide +kernel⟩
theorem cw_X5_161 : wd_wV RX5 161 RX5 yX5_puts cX5_puts 4 none 3 := ⟨(wL_18 _ (List.mem_of_getElem? (i := 23) rfl)), (wL_19 _ (List.mem_of_getElem? (i := 0) rfl)), (wL_19 _ (List.mem_of_getElem? (i := 1) rfl)), (wL_1 _ (List.mem_of_getElem? (i := 5) rfl)), (wL_19 _ (List.mem_of_getElem? (i := 2) rfl)), by decide +kernel⟩
theorem cw_X4_163 : wd_wV RX4 163 RX4 yX4_gainOf cX4_gainOf 3 (some .int) 2 := ⟨(wL_19 _ (List.mem_of_getElem? (i := 7) rfl)), (wL_19 _ (List.mem_of_getElem? (i := 8) rfl)), (wL_19 _ (List.mem_of_getElem? (i := 9) rfl)), (wL_1 _ (List.mem_of_getElem? (i := 2) rfl)), (wL_19 _ (List.mem_of_getElem? (i := 10) rfl)), by decide +kernel⟩
theorem cw_X4_166 : wd_wS RX4 166 yX4_storedBehind cX4_storedBehind 2 (some .int) 2 := ⟨(wL_19 _ (List.mem_of_getElem? (i := 11) rfl)), (wL_19 _ (List.mem_of_getElem? (i := 12) rfl)), (wL_1 _ (List.mem_of_getElem? (i := 2) rfl)), (wL_19 _ (List.mem_of_getElem? (i := 13) rfl)), by decide +kernel⟩
theorem cw_X5_165 : wd_wV RX5 165 RX5 yX5_goes cX5_goes 6 (some .int) 1 := ⟨(wL_19 _ (List.mem_of_getElem? (i := 18) rfl)), (wL_19 _ (List.mem_of_getElem? (i := 19) rfl)), (wL_19 _ (List.mem_of_getElem? (i := 20) rfl)), (wL_1 _ (List.mem_of_getElem? (i := 5) rfl)), (wL_19 _ (List.mem_of_getElem? (i := 21) rfl)), by decide +kernel⟩
theorem cw_X4_170 : wd_wV RX4 170 RX0 yX0_takeLatest cX0_takeLatest 2 none 1 := ⟨(wL_20 _ (List.mem_of_getElem? (i := 2) rfl)), (wL_20 _ (List.mem_of_getElem? (i := 3) rfl)), (wL_20 _ (List.mem_of_getElem? (i := 4) rfl)), (wL_2 _ (List.mem_of_getElem? (i := 4) rfl)), (wL_20 _ (List.mem_of_getElem? (i := 5) rfl)), by decide +kernel⟩
theorem cw_X4_182 : wd_wV RX4 182 RX4 yX4_isContent cX4_isContent 2 (some .boolean) 1 := ⟨(wL_20 _ (List.mem_of_getElem? (i := 22) rfl)), (wL_20 _ (List.mem_of_getElem? (i := 23) rfl)), (wL_21 _ (List.mem_of_getElem? (i := 0) rfl)), (wL_1 _ (List.mem_of_getElem? (i := 2) rfl)), (wL_21 _ (List.mem_of_getElem? (i := 1) rfl)), by decide +kernel⟩
theorem cw_X5_176 : wd_wV RX5 176 RX5 yX5_isRest cX5_isRest 7 (some .boolean) 4 := ⟨(wL_21 _ (List.mem_of_getElem? (i := 6) rfl)), (wL_21 _ (List.mem_of_getElem? (i := 7) rfl)), (wL_21 _ (List.mem_of_getElem? (i := 8) rfl)), (wL_1 _ (List.mem_of_getElem? (i := 5) rfl)), (wL_21 _ (List.mem_of_getElem? (i := 9) rfl)), by decide +kernel⟩
theorem cw_X5_172 : wd_wV RX5 172 RX5 yX5_hasWith cX5_hasWith 5 (some .int) 4 := ⟨(wL_21 _ (List.mem_of_getElem? (i := 10) rfl)), (wL_21 _ (List.mem_of_getElem? (i := 11) rfl)), (wL_21 _ (List.mem_of_getElem? (i := 12) rfl)), (wL_1 _ (List.mem_of_getElem? (i := 5) rfl)), (wL_21 _ (List.mem_of_getElem? (i := 13) rfl)), by decide +kernel⟩
theorem cw_X4_192 : wd_wV RX4 192 RX4 yX4_tryFacing cX4_tryFacing 5 none 2 := ⟨(wL_22 _ (List.mem_of_getElem? (i := 4) rfl)), (wL_22 _ (List.mem_of_getElem? (i := 5) rfl)), (wL_22 _ (List.mem_of_getElem? (i := 6) rfl)), (wL_1 _ (List.mem_of_getElem? (i := 2) rfl)), (wL_22 _ (List.mem_of_getElem? (i := 7) rfl)), by decide +kernel⟩
theorem cw_X4_259 : wd_wV RX4 259 RX4 yX4_firstUnchosen cX4_firstUnchosen 2 (some .int) 0 := ⟨(wL_22 _ (List.mem_of_getElem? (i := 8) rfl)), (wL_22 _ (List.mem_of_getElem? (i := 9) rfl)), (wL_22 _ (List.mem_of_getElem? (i := 10) rfl)), (wL_1 _ (List.mem_of_getElem? (i := 2) rfl)), (wL_22 _ (List.mem_of_getElem? (i := 11) rfl)), by decide +kernel⟩
theorem cw_X4_262 : wd_wV RX4 262 RX4 yX4_weighFacing cX4_weighFacing 3 none 0 := ⟨(wL_22 _ (List.mem_of_getElem? (i := 12) rfl)), (wL_22 _ (List.mem_of_getElem? (i := 13) rfl)), (wL_22 _ (List.mem_of_getElem? (i := 14) rfl)), (wL_1 _ (List.mem_of_getElem? (i := 2) rfl)), (wL_22 _ (List.mem_of_getElem? (i := 15) rfl)), by decide +kernel⟩
theorem cw_X5_181 : wd_wV RX5 181 RX5 yX5_isRow cX5_isRow 6 (some .boolean) 1 := ⟨(wL_22 _ (List.mem_of_getElem? (i := 21) rfl)), (wL_22 _ (List.mem_of_getElem? (i := 22) rfl)), (wL_22 _ (List.mem_of_getElem? (i := 23) rfl)), (wL_1 _ (List.mem_of_getElem? (i := 5) rfl)), (wL_23 _ (List.mem_of_getElem? (i := 0) rfl)), by decide +kernel⟩
theorem cw_X5_184 : wd_wV RX5 184 RX5 yX5_leastBy cX5_leastBy 4 (some .int) 0 := ⟨(wL_23 _ (List.mem_of_getElem? (i := 1) rfl)), (wL_23 _ (List.mem_of_getElem? (i := 2) rfl)), (wL_23 _ (List.mem_of_getElem? (i := 3) rfl)), (wL_1 _ (List.mem_of_getElem? (i := 5) rfl)), (wL_23 _ (List.mem_of_getElem? (i := 4) rfl)), by decide +kernel⟩
theorem cw_X4_199 : wd_wV RX4 199 RX4 yX4_tryRopes cX4_tryRopes 5 (some .int) 0 := ⟨(wL_23 _ (List.mem_of_getElem? (i := 10) rfl)), (wL_23 _ (List.mem_of_getElem? (i := 11) rfl)), (wL_23 _ (List.mem_of_getElem? (i := 12) rfl)), (wL_1 _ (List.mem_of_getElem? (i := 2) rfl)), (wL_23 _ (List.mem_of_getElem? (i := 13) rfl)), by decide +kernel⟩
theorem cw_X4_271 : wd_wV RX4 271 RX4 yX4_ropesAlone cX4_ropesAlone 2 (some .int) 1 := ⟨(wL_23 _ (List.mem_of_getElem? (i := 14) rfl)), (wL_23 _ (List.mem_of_getElem? (i := 15) rfl)), (wL_23 _ (List.mem_of_getElem? (i := 16) rfl)), (wL_1 _ (List.mem_of_getElem? (i := 2) rfl)), (wL_23 _ (List.mem_of_getElem? (i := 17) rfl)), by decide +kernel⟩
theorem cw_X4_274 : wd_wV RX4 274 RX4 yX4_ropesOfTwo cX4_ropesOfTwo 8 (some .int) 2 := ⟨(wL_23 _ (List.mem_of_getElem? (i := 18) rfl)), (wL_23 _ (List.mem_of_getElem? (i := 19) rfl)), (wL_23 _ (List.mem_of_getElem? (i := 20) rfl)), (wL_1 _ (List.mem_of_getElem? (i := 2) rfl)), (wL_23 _ (List.mem_of_getElem? (i := 21) rfl)), by decide +kernel⟩
theorem cw_X4_205 : wd_wV RX4 205 RX4 yX4_fitsStubble cX4_fitsStubble 4 (some .boolean) 2 := ⟨(wL_24 _ (List.mem_of_getElem? (i := 22) rfl)), (wL_24 _ (List.mem_of_getElem? (i := 23) rfl)), (wL_25 _ (List.mem_of_getElem? (i := 0) rfl)), (wL_1 _ (List.mem_of_getElem? (i := 2) rfl)), (wL_25 _ (List.mem_of_getElem? (i := 1) rfl)), by decide +kernel⟩
theorem cw_X4_208 : wd_wS RX4 208 yX4_isStorable cX4_isStorable 1 (some .boolean) 1 := ⟨(wL_25 _ (List.mem_of_getElem? (i := 10) rfl)), (wL_25 _ (List.mem_of_getElem? (i := 11) rfl)), (wL_1 _ (List.mem_of_getElem? (i := 2) rfl)), (wL_25 _ (List.mem_of_getElem? (i := 12) rfl)), by decide +kernel⟩
theorem cw_X4_211 : wd_wV RX4 211 RX4 yX4_chancesOf cX4_chancesOf 13 (some .int) 4 := ⟨(wL_25 _ (List.mem_of_getElem? (i := 13) rfl)), (wL_25 _ (List.mem_of_getElem? (i := 14) rfl)), (wL_25 _ (List.mem_of_getElem? (i := 15) rfl)), (wL_1 _ (List.mem_of_getElem? (i := 2) rfl)), (wL_25 _ (List.mem_of_getElem? (i := 16) rfl)), by decide +kernel⟩
theorem cw_X4_215 : wd_wS RX4 215 yX4_inLeastTerms cX4_inLeastTerms 7 (some .int) 3 := ⟨(wL_25 _ (List.mem_of_getElem? (i := 17) rfl)), (wL_25 _ (List.mem_of_getElem? (i := 18) rfl)), (wL_1 _ (List.mem_of_getElem? (i := 2) rfl)), (wL_25 _ (List.mem_of_getElem? (i := 19) rfl)), by decide +kernel⟩
theorem cw_X5_187 : wd_wS RX5 187 yX5_power cX5_power 4 (some .int) 2 := ⟨(wL_26 _ (List.mem_of_getElem? (i := 0) rfl)), (wL_26 _ (List.mem_of_getElem? (i := 1) rfl)), (wL_1 _ (List.mem_of_getElem? (i := 5) rfl)), (wL_26 _ (List.mem_of_getElem? (i := 2) rfl)), by decide +kernel⟩
theorem cw_X5_190 : wd_wS RX5 190 yX5_gcd cX5_gcd 5 (some .int) 2 := ⟨(wL_26 _ (List.mem_of_getElem? (i := 3) rfl)), (wL_26 _ (List.mem_of_getElem? (i := 4) rfl)), (wL_1 _ (List.mem_of_getElem? (i := 5) rfl)), (wL_26 _ (List.mem_of_getElem? (i := 5) rfl)), by decide +kernel⟩
theorem cw_X4_219 : wd_wV RX4 219 RX4 yX4_yearsTillPoor cX4_yearsTillPoor 5 (some .int) 1 := ⟨(wL_26 _ (List.mem_of_getElem? (i := 18) rfl)), (wL_26 _ (List.mem_of_getElem? (i := 19) rfl)), (wL_26 _ (List.mem_of_getElem? (i := 20) rfl)), (wL_1 _ (List.mem_of_getElem? (i := 2) rfl)), (wL_26 _ (List.mem_of_getElem? (i := 21) rfl)), by decide +kernel⟩
theorem cw_X4_223 : wd_wV RX4 223 RX4 yX4_rateMan cX4_rateMan 2 (some .int) 1 := ⟨(wL_27 _ (List.mem_of_getElem? (i := 14) rfl)), (wL_27 _ (List.mem_of_getElem? (i := 15) rfl)), (wL_27 _ (List.mem_of_getElem? (i := 16) rfl)), (wL_1 _ (List.mem_of_getElem? (i := 2) rfl)), (wL_27 _ (List.mem_of_getElem? (i := 17) rfl)), by decide +kernel⟩
theorem cw_X4_226 : wd_wV RX4 226 RX4 yX4_rateGiant cX4_rateGiant 2 (some .int) 1 := ⟨(wL_27 _ (List.mem_of_getElem? (i := 19) rfl)), (wL_27 _ (List.mem_of_getElem? (i := 20) rfl)), (wL_27 _ (List.mem_of_getElem? (i := 21) rfl)), (wL_1 _ (List.mem_of_getElem? (i := 2) rfl)), (wL_27 _ (List.mem_of_getElem? (i := 22) rfl)), by decide +kernel⟩
theorem cw_X4_229 : wd_wV RX4 229 RX4 yX4_rateWidow cX4_rateWidow 2 (some .int) 1 := ⟨(wL_28 _ (List.mem_of_getElem? (i := 0) rfl)), (wL_28 _ (List.mem_of_getElem? (i := 1) rfl)), (wL_28 _ (List.mem_of_getElem? (i := 2) rfl)), (wL_1 _ (List.mem_of_getElem? (i := 2) rfl)), (wL_28 _ (List.mem_of_getElem? (i := 3) rfl)), by decide +kernel⟩
theorem cw_X4_232 : wd_wV RX4 232 RX4 yX4_rateBrother cX4_rateBrother 2 (some .int) 1 := ⟨(wL_28 _ (List.mem_of_getElem? (i := 5) rfl)), (wL_28 _ (List.mem_of_getElem? (i := 6) rfl)), (wL_28 _ (List.mem_of_getElem? (i := 7) rfl)), (wL_1 _ (List.mem_of_getElem? (i := 2) rfl)), (wL_28 _ (List.mem_of_getElem? (i := 8) rfl)), by decide +kernel⟩
theorem cw_X4_235 : wd_wV RX4 235 RX4 yX4_rateGleaner cX4_rateGleaner 2 (some .int) 1 := ⟨(wL_28 _ (List.mem_of_getElem? (i := 10) rfl)), (wL_28 _ (List.mem_of_getElem? (i := 11) rfl)), (wL_28 _ (List.mem_of_getElem? (i := 12) rfl)), (wL_1 _ (List.mem_of_getElem? (i := 2) rfl)), (wL_28 _ (List.mem_of_getElem? (i := 13) rfl)), by decide +kernel⟩
theorem cw_X4_238 : wd_wV RX4 238 RX4 yX4_rateGuest cX4_rateGuest 2 (some .int) 1 := ⟨(wL_28 _ (List.mem_of_getElem? (i := 15) rfl)), (wL_28 _ (List.mem_of_getElem? (i := 16) rfl)), (wL_28 _ (List.mem_of_getElem? (i := 17) rfl)), (wL_1 _ (List.mem_of_getElem? (i := 2) rfl)), (wL_28 _ (List.mem_of_getElem? (i := 18) rfl)), by decide +kernel⟩
end
section
/-! ===== booleans ===== -/
def bI (p : Prop) [Decidable p] : Int32 := if p then 1 else 0
theorem bI_0 {p : Prop} [Decidable p] : bI p = 0 ↔ ¬ p := by
  unfold bI
  by_cases h : p
  · rw [if_pos h]
    exact ⟨fun h2 => absurd h2 (by decide), fun h2 => absurd h h2⟩
  · rw [if_neg h]
    exact ⟨fun _ => h, fun _ => rfl⟩
theorem bI_1 {p : Prop} [Decidable p] : ¬ bI p = 0 ↔ p := by
  rw [bI_0]
  exact ⟨fun h => Classical.byContradiction h, fun h h2 => h2 h⟩
theorem bI_t {p : Prop} [Decidable p] (h : p) : (1 : Int32) = bI p := by rw [bI, if_pos h]
theorem bI_f {p : Prop} [Decidable p] (h : ¬ p) : (0 : Int32) = bI p := by rw [bI, if_neg h]
theorem bI_n {p : Prop} [Decidable p] : narrow .boolean (.int (bI p)) = .int (bI p) := by
  unfold bI
  by_cases h : p
  · rw [if_pos h]
    rfl
  · rw [if_neg h]
    rfl
/-! ===== stores and increments, by place ===== -/
theorem wd_astore_n_4_2 {sd : wd_Side} {V : wd_V} {ad : Nat → Nat} {K : wd_K} {own : String} {cc : ByteArray} {d : Nat} {ret : Option FieldType} {Q : State → Prop} {pc : Nat} {st : List Value} {σ : wd_S} {a0 a1 a2 a3 : Option Value} (hC : wd_Ok sd V ad K own cc 4 d ret) {x : Nat} (hdg : decode cc pc = .ok (.astore_n 2, 1)) (k : wd_G sd V ad K 4 Q (pc + 1) [a0, a1, some (.ref x), a3] st σ) : wd_G sd V ad K 4 Q pc [a0, a1, a2, a3] (.ref x :: st) σ := wd_astore_n hC hdg rfl (by decide) rfl k
theorem wd_iinc_2_1 {sd : wd_Side} {V : wd_V} {ad : Nat → Nat} {K : wd_K} {own : String} {cc : ByteArray} {d : Nat} {ret : Option FieldType} {Q : State → Prop} {pc : Nat} {st : List Value} {σ : wd_S} {a0 : Option Value} (hC : wd_Ok sd V ad K own cc 2 d ret) {x v : Int32} {n : Int} (hdg : decode cc pc = .ok (.iinc 1 n, 3)) (hv : x + Int32.ofInt n = v) (k : wd_G sd V ad K 2 Q (pc + 3) [a0, some (.int v)] st σ) : wd_G sd V ad K 2 Q pc [a0, some (.int x)] st σ := wd_iinc hC hdg rfl (by decide) hv rfl k
theorem wd_iinc_3_1 {sd : wd_Side} {V : wd_V} {ad : Nat → Nat} {K : wd_K} {own : String} {cc : ByteArray} {d : Nat} {ret : Option FieldType} {Q : State → Prop} {pc : Nat} {st : List Value} {σ : wd_S} {a0 a2 : Option Value} (hC : wd_Ok sd V ad K own cc 3 d ret) {x v : Int32} {n : Int} (hdg : decode cc pc = .ok (.iinc 1 n, 3)) (hv : x + Int32.ofInt n = v) (k : wd_G sd V ad K 3 Q (pc + 3) [a0, some (.int v), a2] st σ) : wd_G sd V ad K 3 Q pc [a0, some (.int x), a2] st σ := wd_iinc hC hdg rfl (by decide) hv rfl k
theorem wd_iinc_3_2 {sd : wd_Side} {V : wd_V} {ad : Nat → Nat} {K : wd_K} {own : String} {cc : ByteArray} {d : Nat} {ret : Option FieldType} {Q : State → Prop} {pc : Nat} {st : List Value} {σ : wd_S} {a0 a1 : Option Value} (hC : wd_Ok sd V ad K own cc 3 d ret) {x v : Int32} {n : Int} (hdg : decode cc pc = .ok (.iinc 2 n, 3)) (hv : x + Int32.ofInt n = v) (k : wd_G sd V ad K 3 Q (pc + 3) [a0, a1, some (.int v)] st σ) : wd_G sd V ad K 3 Q pc [a0, a1, some (.int x)] st σ := wd_iinc hC hdg rfl (by decide) hv rfl k
theorem wd_iinc_4_1 {sd : wd_Side} {V : wd_V} {ad : Nat → Nat} {K : wd_K} {own : String} {cc : ByteArray} {d : Nat} {ret : Option FieldType} {Q : State → Prop} {pc : Nat} {st : List Value} {σ : wd_S} {a0 a2 a3 : Option Value} (hC : wd_Ok sd V ad K own cc 4 d ret) {x v : Int32} {n : Int} (hdg : decode cc pc = .ok (.iinc 1 n, 3)) (hv : x + Int32.ofInt n = v) (k : wd_G sd V ad K 4 Q (pc + 3) [a0, some (.int v), a2, a3] st σ) : wd_G sd V ad K 4 Q pc [a0, some (.int x), a2, a3] st σ := wd_iinc hC hdg rfl (by decide) hv rfl k
theorem wd_iinc_4_2 {sd : wd_Side} {V : wd_V} {ad : Nat → Nat} {K : wd_K} {own : String} {cc : ByteArray} {d : Nat} {ret : Option FieldType} {Q : State → Prop} {pc : Nat} {st : List Value} {σ : wd_S} {a0 a1 a3 : Option Value} (hC : wd_Ok sd V ad K own cc 4 d ret) {x v : Int32} {n : Int} (hdg : decode cc pc = .ok (.iinc 2 n, 3)) (hv : x + Int32.ofInt n = v) (k : wd_G sd V ad K 4 Q (pc + 3) [a0, a1, some (.int v), a3] st σ) : wd_G sd V ad K 4 Q pc [a0, a1, some (.int x), a3] st σ := wd_iinc hC hdg rfl (by decide) hv rfl k
theorem wd_iinc_4_3 {sd : wd_Side} {V : wd_V} {ad : Nat → Nat} {K : wd_K} {own : String} {cc : ByteArray} {d : Nat} {ret : Option FieldType} {Q : State → Prop} {pc : Nat} {st : List Value} {σ : wd_S} {a0 a1 a2 : Option Value} (hC : wd_Ok sd V ad K own cc 4 d ret) {x v : Int32} {n : Int} (hdg : decode cc pc = .ok (.iinc 3 n, 3)) (hv : x + Int32.ofInt n = v) (k : wd_G sd V ad K 4 Q (pc + 3) [a0, a1, a2, some (.int v)] st σ) : wd_G sd V ad K 4 Q pc [a0, a1, a2, some (.int x)] st σ := wd_iinc hC hdg rfl (by decide) hv rfl k
theorem wd_iinc_5_2 {sd : wd_Side} {V : wd_V} {ad : Nat → Nat} {K : wd_K} {own : String} {cc : ByteArray} {d : Nat} {ret : Option FieldType} {Q : State → Prop} {pc : Nat} {st : List Value} {σ : wd_S} {a0 a1 a3 a4 : Option Value} (hC : wd_Ok sd V ad K own cc 5 d ret) {x v : Int32} {n : Int} (hdg : decode cc pc = .ok (.iinc 2 n, 3)) (hv : x + Int32.ofInt n = v) (k : wd_G sd V ad K 5 Q (pc + 3) [a0, a1, some (.int v), a3, a4] st σ) : wd_G sd V ad K 5 Q pc [a0, a1, some (.int x), a3, a4] st σ := wd_iinc hC hdg rfl (by decide) hv rfl k
theorem wd_iinc_5_3 {sd : wd_Side} {V : wd_V} {ad : Nat → Nat} {K : wd_K} {own : String} {cc : ByteArray} {d : Nat} {ret : Option FieldType} {Q : State → Prop} {pc : Nat} {st : List Value} {σ : wd_S} {a0 a1 a2 a4 : Option Value} (hC : wd_Ok sd V ad K own cc 5 d ret) {x v : Int32} {n : Int} (hdg : decode cc pc = .ok (.iinc 3 n, 3)) (hv : x + Int32.ofInt n = v) (k : wd_G sd V ad K 5 Q (pc + 3) [a0, a1, a2, some (.int v), a4] st σ) : wd_G sd V ad K 5 Q pc [a0, a1, a2, some (.int x), a4] st σ := wd_iinc hC hdg rfl (by decide) hv rfl k
theorem wd_iinc_5_4 {sd : wd_Side} {V : wd_V} {ad : Nat → Nat} {K : wd_K} {own : String} {cc : ByteArray} {d : Nat} {ret : Option FieldType} {Q : State → Prop} {pc : Nat} {st : List Value} {σ : wd_S} {a0 a1 a2 a3 : Option Value} (hC : wd_Ok sd V ad K own cc 5 d ret) {x v : Int32} {n : Int} (hdg : decode cc pc = .ok (.iinc 4 n, 3)) (hv : x + Int32.ofInt n = v) (k : wd_G sd V ad K 5 Q (pc + 3) [a0, a1, a2, a3, some (.int v)] st σ) : wd_G sd V ad K 5 Q pc [a0, a1, a2, a3, some (.int x)] st σ := wd_iinc hC hdg rfl (by decide) hv rfl k
theorem wd_iinc_6_3 {sd : wd_Side} {V : wd_V} {ad : Nat → Nat} {K : wd_K} {own : String} {cc : ByteArray} {d : Nat} {ret : Option FieldType} {Q : State → Prop} {pc : Nat} {st : List Value} {σ : wd_S} {a0 a1 a2 a4 a5 : Option Value} (hC : wd_Ok sd V ad K own cc 6 d ret) {x v : Int32} {n : Int} (hdg : decode cc pc = .ok (.iinc 3 n, 3)) (hv : x + Int32.ofInt n = v) (k : wd_G sd V ad K 6 Q (pc + 3) [a0, a1, a2, some (.int v), a4, a5] st σ) : wd_G sd V ad K 6 Q pc [a0, a1, a2, some (.int x), a4, a5] st σ := wd_iinc hC hdg rfl (by decide) hv rfl k
theorem wd_iinc_6_4 {sd : wd_Side} {V : wd_V} {ad : Nat → Nat} {K : wd_K} {own : String} {cc : ByteArray} {d : Nat} {ret : Option FieldType} {Q : State → Prop} {pc : Nat} {st : List Value} {σ : wd_S} {a0 a1 a2 a3 a5 : Option Value} (hC : wd_Ok sd V ad K own cc 6 d ret) {x v : Int32} {n : Int} (hdg : decode cc pc = .ok (.iinc 4 n, 3)) (hv : x + Int32.ofInt n = v) (k : wd_G sd V ad K 6 Q (pc + 3) [a0, a1, a2, a3, some (.int v), a5] st σ) : wd_G sd V ad K 6 Q pc [a0, a1, a2, a3, some (.int x), a5] st σ := wd_iinc hC hdg rfl (by decide) hv rfl k
theorem wd_iinc_6_5 {sd : wd_Side} {V : wd_V} {ad : Nat → Nat} {K : wd_K} {own : String} {cc : ByteArray} {d : Nat} {ret : Option FieldType} {Q : State → Prop} {pc : Nat} {st : List Value} {σ : wd_S} {a0 a1 a2 a3 a4 : Option Value} (hC : wd_Ok sd V ad K own cc 6 d ret) {x v : Int32} {n : Int} (hdg : decode cc pc = .ok (.iinc 5 n, 3)) (hv : x + Int32.ofInt n = v) (k : wd_G sd V ad K 6 Q (pc + 3) [a0, a1, a2, a3, a4, some (.int v)] st σ) : wd_G sd V ad K 6 Q pc [a0, a1, a2, a3, a4, some (.int x)] st σ := wd_iinc hC hdg rfl (by decide) hv rfl k
theorem wd_iinc_7_3 {sd : wd_Side} {V : wd_V} {ad : Nat → Nat} {K : wd_K} {own : String} {cc : ByteArray} {d : Nat} {ret : Option FieldType} {Q : State → Prop} {pc : Nat} {st : List Value} {σ : wd_S} {a0 a1 a2 a4 a5 a6 : Option Value} (hC : wd_Ok sd V ad K own cc 7 d ret) {x v : Int32} {n : Int} (hdg : decode cc pc = .ok (.iinc 3 n, 3)) (hv : x + Int32.ofInt n = v) (k : wd_G sd V ad K 7 Q (pc + 3) [a0, a1, a2, some (.int v), a4, a5, a6] st σ) : wd_G sd V ad K 7 Q pc [a0, a1, a2, some (.int x), a4, a5, a6] st σ := wd_iinc hC hdg rfl (by decide) hv rfl k
theorem wd_iinc_7_4 {sd : wd_Side} {V : wd_V} {ad : Nat → Nat} {K : wd_K} {own : String} {cc : ByteArray} {d : Nat} {ret : Option FieldType} {Q : State → Prop} {pc : Nat} {st : List Value} {σ : wd_S} {a0 a1 a2 a3 a5 a6 : Option Value} (hC : wd_Ok sd V ad K own cc 7 d ret) {x v : Int32} {n : Int} (hdg : decode cc pc = .ok (.iinc 4 n, 3)) (hv : x + Int32.ofInt n = v) (k : wd_G sd V ad K 7 Q (pc + 3) [a0, a1, a2, a3, some (.int v), a5, a6] st σ) : wd_G sd V ad K 7 Q pc [a0, a1, a2, a3, some (.int x), a5, a6] st σ := wd_iinc hC hdg rfl (by decide) hv rfl k
theorem wd_iinc_7_5 {sd : wd_Side} {V : wd_V} {ad : Nat → Nat} {K : wd_K} {own : String} {cc : ByteArray} {d : Nat} {ret : Option FieldType} {Q : State → Prop} {pc : Nat} {st : List Value} {σ : wd_S} {a0 a1 a2 a3 a4 a6 : Option Value} (hC : wd_Ok sd V ad K own cc 7 d ret) {x v : Int32} {n : Int} (hdg : decode cc pc = .ok (.iinc 5 n, 3)) (hv : x + Int32.ofInt n = v) (k : wd_G sd V ad K 7 Q (pc + 3) [a0, a1, a2, a3, a4, some (.int v), a6] st σ) : wd_G sd V ad K 7 Q pc [a0, a1, a2, a3, a4, some (.int x), a6] st σ := wd_iinc hC hdg rfl (by decide) hv rfl k
theorem wd_iinc_7_6 {sd : wd_Side} {V : wd_V} {ad : Nat → Nat} {K : wd_K} {own : String} {cc : ByteArray} {d : Nat} {ret : Option FieldType} {Q : State → Prop} {pc : Nat} {st : List Value} {σ : wd_S} {a0 a1 a2 a3 a4 a5 : Option Value} (hC : wd_Ok sd V ad K own cc 7 d ret) {x v : Int32} {n : Int} (hdg : decode cc pc = .ok (.iinc 6 n, 3)) (hv : x + Int32.ofInt n = v) (k : wd_G sd V ad K 7 Q (pc + 3) [a0, a1, a2, a3, a4, a5, some (.int v)] st σ) : wd_G sd V ad K 7 Q pc [a0, a1, a2, a3, a4, a5, some (.int x)] st σ := wd_iinc hC hdg rfl (by decide) hv rfl k
theorem wd_iinc_8_4 {sd : wd_Side} {V : wd_V} {ad : Nat → Nat} {K : wd_K} {own : String} {cc : ByteArray} {d : Nat} {ret : Option FieldType} {Q : State → Prop} {pc : Nat} {st : List Value} {σ : wd_S} {a0 a1 a2 a3 a5 a6 a7 : Option Value} (hC : wd_Ok sd V ad K own cc 8 d ret) {x v : Int32} {n : Int} (hdg : decode cc pc = .ok (.iinc 4 n, 3)) (hv : x + Int32.ofInt n = v) (k : wd_G sd V ad K 8 Q (pc + 3) [a0, a1, a2, a3, some (.int v), a5, a6, a7] st σ) : wd_G sd V ad K 8 Q pc [a0, a1, a2, a3, some (.int x), a5, a6, a7] st σ := wd_iinc hC hdg rfl (by decide) hv rfl k
theorem wd_iinc_8_5 {sd : wd_Side} {V : wd_V} {ad : Nat → Nat} {K : wd_K} {own : String} {cc : ByteArray} {d : Nat} {ret : Option FieldType} {Q : State → Prop} {pc : Nat} {st : List Value} {σ : wd_S} {a0 a1 a2 a3 a4 a6 a7 : Option Value} (hC : wd_Ok sd V ad K own cc 8 d ret) {x v : Int32} {n : Int} (hdg : decode cc pc = .ok (.iinc 5 n, 3)) (hv : x + Int32.ofInt n = v) (k : wd_G sd V ad K 8 Q (pc + 3) [a0, a1, a2, a3, a4, some (.int v), a6, a7] st σ) : wd_G sd V ad K 8 Q pc [a0, a1, a2, a3, a4, some (.int x), a6, a7] st σ := wd_iinc hC hdg rfl (by decide) hv rfl k
theorem wd_iinc_8_6 {sd : wd_Side} {V : wd_V} {ad : Nat → Nat} {K : wd_K} {own : String} {cc : ByteArray} {d : Nat} {ret : Option FieldType} {Q : State → Prop} {pc : Nat} {st : List Value} {σ : wd_S} {a0 a1 a2 a3 a4 a5 a7 : Option Value} (hC : wd_Ok sd V ad K own cc 8 d ret) {x v : Int32} {n : Int} (hdg : decode cc pc = .ok (.iinc 6 n, 3)) (hv : x + Int32.ofInt n = v) (k : wd_G sd V ad K 8 Q (pc + 3) [a0, a1, a2, a3, a4, a5, some (.int v), a7] st σ) : wd_G sd V ad K 8 Q pc [a0, a1, a2, a3, a4, a5, some (.int x), a7] st σ := wd_iinc hC hdg rfl (by decide) hv rfl k
theorem wd_iinc_8_7 {sd : wd_Side} {V : wd_V} {ad : Nat → Nat} {K : wd_K} {own : String} {cc : ByteArray} {d : Nat} {ret : Option FieldType} {Q : State → Prop} {pc : Nat} {st : List Value} {σ : wd_S} {a0 a1 a2 a3 a4 a5 a6 : Option Value} (hC : wd_Ok sd V ad K own cc 8 d ret) {x v : Int32} {n : Int} (hdg : decode cc pc = .ok (.iinc 7 n, 3)) (hv : x + Int32.ofInt n = v) (k : wd_G sd V ad K 8 Q (pc + 3) [a0, a1, a2, a3, a4, a5, a6, some (.int v)] st σ) : wd_G sd V ad K 8 Q pc [a0, a1, a2, a3, a4, a5, a6, some (.int x)] st σ := wd_iinc hC hdg rfl (by decide) hv rfl k
theorem wd_iinc_9_7 {sd : wd_Side} {V : wd_V} {ad : Nat → Nat} {K : wd_K} {own : String} {cc : ByteArray} {d : Nat} {ret : Option FieldType} {Q : State → Prop} {pc : Nat} {st : List Value} {σ : wd_S} {a0 a1 a2 a3 a4 a5 a6 a8 : Option Value} (hC : wd_Ok sd V ad K own cc 9 d ret) {x v : Int32} {n : Int} (hdg : decode cc pc = .ok (.iinc 7 n, 3)) (hv : x + Int32.ofInt n = v) (k : wd_G sd V ad K 9 Q (pc + 3) [a0, a1, a2, a3, a4, a5, a6, some (.int v), a8] st σ) : wd_G sd V ad K 9 Q pc [a0, a1, a2, a3, a4, a5, a6, some (.int x), a8] st σ := wd_iinc hC hdg rfl (by decide) hv rfl k
theorem wd_iinc_10_7 {sd : wd_Side} {V : wd_V} {ad : Nat → Nat} {K : wd_K} {own : String} {cc : ByteArray} {d : Nat} {ret : Option FieldType} {Q : State → Prop} {pc : Nat} {st : List Value} {σ : wd_S} {a0 a1 a2 a3 a4 a5 a6 a8 a9 : Option Value} (hC : wd_Ok sd V ad K own cc 10 d ret) {x v : Int32} {n : Int} (hdg : decode cc pc = .ok (.iinc 7 n, 3)) (hv : x + Int32.ofInt n = v) (k : wd_G sd V ad K 10 Q (pc + 3) [a0, a1, a2, a3, a4, a5, a6, some (.int v), a8, a9] st σ) : wd_G sd V ad K 10 Q pc [a0, a1, a2, a3, a4, a5, a6, some (.int x), a8, a9] st σ := wd_iinc hC hdg rfl (by decide) hv rfl k
theorem wd_iinc_10_9 {sd : wd_Side} {V : wd_V} {ad : Nat → Nat} {K : wd_K} {own : String} {cc : ByteArray} {d : Nat} {ret : Option FieldType} {Q : State → Prop} {pc : Nat} {st : List Value} {σ : wd_S} {a0 a1 a2 a3 a4 a5 a6 a7 a8 : Option Value} (hC : wd_Ok sd V ad K own cc 10 d ret) {x v : Int32} {n : Int} (hdg : decode cc pc = .ok (.iinc 9 n, 3)) (hv : x + Int32.ofInt n = v) (k : wd_G sd V ad K 10 Q (pc + 3) [a0, a1, a2, a3, a4, a5, a6, a7, a8, some (.int v)] st σ) : wd_G sd V ad K 10 Q pc [a0, a1, a2, a3, a4, a5, a6, a7, a8, some (.int x)] st σ := wd_iinc hC hdg rfl (by decide) hv rfl k
theorem wd_iinc_13_8 {sd : wd_Side} {V : wd_V} {ad : Nat → Nat} {K : wd_K} {own : String} {cc : ByteArray} {d : Nat} {ret : Option FieldType} {Q : State → Prop} {pc : Nat} {st : List Value} {σ : wd_S} {a0 a1 a2 a3 a4 a5 a6 a7 a9 a10 a11 a12 : Option Value} (hC : wd_Ok sd V ad K own cc 13 d ret) {x v : Int32} {n : Int} (hdg : decode cc pc = .ok (.iinc 8 n, 3)) (hv : x + Int32.ofInt n = v) (k : wd_G sd V ad K 13 Q (pc + 3) [a0, a1, a2, a3, a4, a5, a6, a7, some (.int v), a9, a10, a11, a12] st σ) : wd_G sd V ad K 13 Q pc [a0, a1, a2, a3, a4, a5, a6, a7, some (.int x), a9, a10, a11, a12] st σ := wd_iinc hC hdg rfl (by decide) hv rfl k
theorem wd_iinc_13_11 {sd : wd_Side} {V : wd_V} {ad : Nat → Nat} {K : wd_K} {own : String} {cc : ByteArray} {d : Nat} {ret : Option FieldType} {Q : State → Prop} {pc : Nat} {st : List Value} {σ : wd_S} {a0 a1 a2 a3 a4 a5 a6 a7 a8 a9 a10 a12 : Option Value} (hC : wd_Ok sd V ad K own cc 13 d ret) {x v : Int32} {n : Int} (hdg : decode cc pc = .ok (.iinc 11 n, 3)) (hv : x + Int32.ofInt n = v) (k : wd_G sd V ad K 13 Q (pc + 3) [a0, a1, a2, a3, a4, a5, a6, a7, a8, a9, a10, some (.int v), a12] st σ) : wd_G sd V ad K 13 Q pc [a0, a1, a2, a3, a4, a5, a6, a7, a8, a9, a10, some (.int x), a12] st σ := wd_iinc hC hdg rfl (by decide) hv rfl k
theorem wd_iincN_2_1 {sd : wd_Side} {V : wd_V} {ad : Nat → Nat} {K : wd_K} {own : String} {cc : ByteArray} {d : Nat} {ret : Option FieldType} {Q : State → Prop} {pc : Nat} {st : List Value} {σ : wd_S} {a0 : Option Value} (hC : wd_Ok sd V ad K own cc 2 d ret) {x : Nat} (hdg : decode cc pc = .ok (.iinc 1 1, 3)) (k : wd_G sd V ad K 2 Q (pc + 3) [a0, some (.int (nI (x + 1)))] st σ) : wd_G sd V ad K 2 Q pc [a0, some (.int (nI x))] st σ := wd_iinc hC hdg rfl (by decide) (nI_1 x) rfl k
theorem wd_iincN_3_1 {sd : wd_Side} {V : wd_V} {ad : Nat → Nat} {K : wd_K} {own : String} {cc : ByteArray} {d : Nat} {ret : Option FieldType} {Q : State → Prop} {pc : Nat} {st : List Value} {σ : wd_S} {a0 a2 : Option Value} (hC : wd_Ok sd V ad K own cc 3 d ret) {x : Nat} (hdg : decode cc pc = .ok (.iinc 1 1, 3)) (k : wd_G sd V ad K 3 Q (pc + 3) [a0, some (.int (nI (x + 1))), a2] st σ) : wd_G sd V ad K 3 Q pc [a0, some (.int (nI x)), a2] st σ := wd_iinc hC hdg rfl (by decide) (nI_1 x) rfl k
theorem wd_iincN_3_2 {sd : wd_Side} {V : wd_V} {ad : Nat → Nat} {K : wd_K} {own : String} {cc : ByteArray} {d : Nat} {ret : Option FieldType} {Q : State → Prop} {pc : Nat} {st : List Value} {σ : wd_S} {a0 a1 : Option Value} (hC : wd_Ok sd V ad K own cc 3 d ret) {x : Nat} (hdg : decode cc pc = .ok (.iinc 2 1, 3)) (k : wd_G sd V ad K 3 Q (pc + 3) [a0, a1, some (.int (nI (x + 1)))] st σ) : wd_G sd V ad K 3 Q pc [a0, a1, some (.int (nI x))] st σ := wd_iinc hC hdg rfl (by decide) (nI_1 x) rfl k
theorem wd_iincN_4_1 {sd : wd_Side} {V : wd_V} {ad : Nat → Nat} {K : wd_K} {own : String} {cc : ByteArray} {d : Nat} {ret : Option FieldType} {Q : State → Prop} {pc : Nat} {st : List Value} {σ : wd_S} {a0 a2 a3 : Option Value} (hC : wd_Ok sd V ad K own cc 4 d ret) {x : Nat} (hdg : decode cc pc = .ok (.iinc 1 1, 3)) (k : wd_G sd V ad K 4 Q (pc + 3) [a0, some (.int (nI (x + 1))), a2, a3] st σ) : wd_G sd V ad K 4 Q pc [a0, some (.int (nI x)), a2, a3] st σ := wd_iinc hC hdg rfl (by decide) (nI_1 x) rfl k
theorem wd_iincN_4_2 {sd : wd_Side} {V : wd_V} {ad : Nat → Nat} {K : wd_K} {own : String} {cc : ByteArray} {d : Nat} {ret : Option FieldType} {Q : State → Prop} {pc : Nat} {st : List Value} {σ : wd_S} {a0 a1 a3 : Option Value} (hC : wd_Ok sd V ad K own cc 4 d ret) {x : Nat} (hdg : decode cc pc = .ok (.iinc 2 1, 3)) (k : wd_G sd V ad K 4 Q (pc + 3) [a0, a1, some (.int (nI (x + 1))), a3] st σ) : wd_G sd V ad K 4 Q pc [a0, a1, some (.int (nI x)), a3] st σ := wd_iinc hC hdg rfl (by decide) (nI_1 x) rfl k
theorem wd_iincN_4_3 {sd : wd_Side} {V : wd_V} {ad : Nat → Nat} {K : wd_K} {own : String} {cc : ByteArray} {d : Nat} {ret : Option FieldType} {Q : State → Prop} {pc : Nat} {st : List Value} {σ : wd_S} {a0 a1 a2 : Option Value} (hC : wd_Ok sd V ad K own cc 4 d ret) {x : Nat} (hdg : decode cc pc = .ok (.iinc 3 1, 3)) (k : wd_G sd V ad K 4 Q (pc + 3) [a0, a1, a2, some (.int (nI (x + 1)))] st σ) : wd_G sd V ad K 4 Q pc [a0, a1, a2, some (.int (nI x))] st σ := wd_iinc hC hdg rfl (by decide) (nI_1 x) rfl k
theorem wd_iincN_5_2 {sd : wd_Side} {V : wd_V} {ad : Nat → Nat} {K : wd_K} {own : String} {cc : ByteArray} {d : Nat} {ret : Option FieldType} {Q : State → Prop} {pc : Nat} {st : List Value} {σ : wd_S} {a0 a1 a3 a4 : Option Value} (hC : wd_Ok sd V ad K own cc 5 d ret) {x : Nat} (hdg : decode cc pc = .ok (.iinc 2 1, 3)) (k : wd_G sd V ad K 5 Q (pc + 3) [a0, a1, some (.int (nI (x + 1))), a3, a4] st σ) : wd_G sd V ad K 5 Q pc [a0, a1, some (.int (nI x)), a3, a4] st σ := wd_iinc hC hdg rfl (by decide) (nI_1 x) rfl k
theorem wd_iincN_5_3 {sd : wd_Side} {V : wd_V} {ad : Nat → Nat} {K : wd_K} {own : String} {cc : ByteArray} {d : Nat} {ret : Option FieldType} {Q : State → Prop} {pc : Nat} {st : List Value} {σ : wd_S} {a0 a1 a2 a4 : Option Value} (hC : wd_Ok sd V ad K own cc 5 d ret) {x : Nat} (hdg : decode cc pc = .ok (.iinc 3 1, 3)) (k : wd_G sd V ad K 5 Q (pc + 3) [a0, a1, a2, some (.int (nI (x + 1))), a4] st σ) : wd_G sd V ad K 5 Q pc [a0, a1, a2, some (.int (nI x)), a4] st σ := wd_iinc hC hdg rfl (by decide) (nI_1 x) rfl k
theorem wd_iincN_5_4 {sd : wd_Side} {V : wd_V} {ad : Nat → Nat} {K : wd_K} {own : String} {cc : ByteArray} {d : Nat} {ret : Option FieldType} {Q : State → Prop} {pc : Nat} {st : List Value} {σ : wd_S} {a0 a1 a2 a3 : Option Value} (hC : wd_Ok sd V ad K own cc 5 d ret) {x : Nat} (hdg : decode cc pc = .ok (.iinc 4 1, 3)) (k : wd_G sd V ad K 5 Q (pc + 3) [a0, a1, a2, a3, some (.int (nI (x + 1)))] st σ) : wd_G sd V ad K 5 Q pc [a0, a1, a2, a3, some (.int (nI x))] st σ := wd_iinc hC hdg rfl (by decide) (nI_1 x) rfl k
theorem wd_iincN_6_3 {sd : wd_Side} {V : wd_V} {ad : Nat → Nat} {K : wd_K} {own : String} {cc : ByteArray} {d : Nat} {ret : Option FieldType} {Q : State → Prop} {pc : Nat} {st : List Value} {σ : wd_S} {a0 a1 a2 a4 a5 : Option Value} (hC : wd_Ok sd V ad K own cc 6 d ret) {x : Nat} (hdg : decode cc pc = .ok (.iinc 3 1, 3)) (k : wd_G sd V ad K 6 Q (pc + 3) [a0, a1, a2, some (.int (nI (x + 1))), a4, a5] st σ) : wd_G sd V ad K 6 Q pc [a0, a1, a2, some (.int (nI x)), a4, a5] st σ := wd_iinc hC hdg rfl (by decide) (nI_1 x) rfl k
theorem wd_iincN_6_4 {sd : wd_Side} {V : wd_V} {ad : Nat → Nat} {K : wd_K} {own : String} {cc : ByteArray} {d : Nat} {ret : Option FieldType} {Q : State → Prop} {pc : Nat} {st : List Value} {σ : wd_S} {a0 a1 a2 a3 a5 : Option Value} (hC : wd_Ok sd V ad K own cc 6 d ret) {x : Nat} (hdg : decode cc pc = .ok (.iinc 4 1, 3)) (k : wd_G sd V ad K 6 Q (pc + 3) [a0, a1, a2, a3, some (.int (nI (x + 1))), a5] st σ) : wd_G sd V ad K 6 Q pc [a0, a1, a2, a3, some (.int (nI x)), a5] st σ := wd_iinc hC hdg rfl (by decide) (nI_1 x) rfl k
theorem wd_iincN_6_5 {sd : wd_Side} {V : wd_V} {ad : Nat → Nat} {K : wd_K} {own : String} {cc : ByteArray} {d : Nat} {ret : Option FieldType} {Q : State → Prop} {pc : Nat} {st : List Value} {σ : wd_S} {a0 a1 a2 a3 a4 : Option Value} (hC : wd_Ok sd V ad K own cc 6 d ret) {x : Nat} (hdg : decode cc pc = .ok (.iinc 5 1, 3)) (k : wd_G sd V ad K 6 Q (pc + 3) [a0, a1, a2, a3, a4, some (.int (nI (x + 1)))] st σ) : wd_G sd V ad K 6 Q pc [a0, a1, a2, a3, a4, some (.int (nI x))] st σ := wd_iinc hC hdg rfl (by decide) (nI_1 x) rfl k
theorem wd_iincN_7_3 {sd : wd_Side} {V : wd_V} {ad : Nat → Nat} {K : wd_K} {own : String} {cc : ByteArray} {d : Nat} {ret : Option FieldType} {Q : State → Prop} {pc : Nat} {st : List Value} {σ : wd_S} {a0 a1 a2 a4 a5 a6 : Option Value} (hC : wd_Ok sd V ad K own cc 7 d ret) {x : Nat} (hdg : decode cc pc = .ok (.iinc 3 1, 3)) (k : wd_G sd V ad K 7 Q (pc + 3) [a0, a1, a2, some (.int (nI (x + 1))), a4, a5, a6] st σ) : wd_G sd V ad K 7 Q pc [a0, a1, a2, some (.int (nI x)), a4, a5, a6] st σ := wd_iinc hC hdg rfl (by decide) (nI_1 x) rfl k
theorem wd_iincN_7_4 {sd : wd_Side} {V : wd_V} {ad : Nat → Nat} {K : wd_K} {own : String} {cc : ByteArray} {d : Nat} {ret : Option FieldType} {Q : State → Prop} {pc : Nat} {st : List Value} {σ : wd_S} {a0 a1 a2 a3 a5 a6 : Option Value} (hC : wd_Ok sd V ad K own cc 7 d ret) {x : Nat} (hdg : decode cc pc = .ok (.iinc 4 1, 3)) (k : wd_G sd V ad K 7 Q (pc + 3) [a0, a1, a2, a3, some (.int (nI (x + 1))), a5, a6] st σ) : wd_G sd V ad K 7 Q pc [a0, a1, a2, a3, some (.int (nI x)), a5, a6] st σ := wd_iinc hC hdg rfl (by decide) (nI_1 x) rfl k
theorem wd_iincN_7_5 {sd : wd_Side} {V : wd_V} {ad : Nat → Nat} {K : wd_K} {own : String} {cc : ByteArray} {d : Nat} {ret : Option FieldType} {Q : State → Prop} {pc : Nat} {st : List Value} {σ : wd_S} {a0 a1 a2 a3 a4 a6 : Option Value} (hC : wd_Ok sd V ad K own cc 7 d ret) {x : Nat} (hdg : decode cc pc = .ok (.iinc 5 1, 3)) (k : wd_G sd V ad K 7 Q (pc + 3) [a0, a1, a2, a3, a4, some (.int (nI (x + 1))), a6] st σ) : wd_G sd V ad K 7 Q pc [a0, a1, a2, a3, a4, some (.int (nI x)), a6] st σ := wd_iinc hC hdg rfl (by decide) (nI_1 x) rfl k
theorem wd_iincN_7_6 {sd : wd_Side} {V : wd_V} {ad : Nat → Nat} {K : wd_K} {own : String} {cc : ByteArray} {d : Nat} {ret : Option FieldType} {Q : State → Prop} {pc : Nat} {st : List Value} {σ : wd_S} {a0 a1 a2 a3 a4 a5 : Option Value} (hC : wd_Ok sd V ad K own cc 7 d ret) {x : Nat} (hdg : decode cc pc = .ok (.iinc 6 1, 3)) (k : wd_G sd V ad K 7 Q (pc + 3) [a0, a1, a2, a3, a4, a5, some (.int (nI (x + 1)))] st σ) : wd_G sd V ad K 7 Q pc [a0, a1, a2, a3, a4, a5, some (.int (nI x))] st σ := wd_iinc hC hdg rfl (by decide) (nI_1 x) rfl k
theorem wd_iincN_8_4 {sd : wd_Side} {V : wd_V} {ad : Nat → Nat} {K : wd_K} {own : String} {cc : ByteArray} {d : Nat} {ret : Option FieldType} {Q : State → Prop} {pc : Nat} {st : List Value} {σ : wd_S} {a0 a1 a2 a3 a5 a6 a7 : Option Value} (hC : wd_Ok sd V ad K own cc 8 d ret) {x : Nat} (hdg : decode cc pc = .ok (.iinc 4 1, 3)) (k : wd_G sd V ad K 8 Q (pc + 3) [a0, a1, a2, a3, some (.int (nI (x + 1))), a5, a6, a7] st σ) : wd_G sd V ad K 8 Q pc [a0, a1, a2, a3, some (.int (nI x)), a5, a6, a7] st σ := wd_iinc hC hdg rfl (by decide) (nI_1 x) rfl k
theorem wd_iincN_8_5 {sd : wd_Side} {V : wd_V} {ad : Nat → Nat} {K : wd_K} {own : String} {cc : ByteArray} {d : Nat} {ret : Option FieldType} {Q : State → Prop} {pc : Nat} {st : List Value} {σ : wd_S} {a0 a1 a2 a3 a4 a6 a7 : Option Value} (hC : wd_Ok sd V ad K own cc 8 d ret) {x : Nat} (hdg : decode cc pc = .ok (.iinc 5 1, 3)) (k : wd_G sd V ad K 8 Q (pc + 3) [a0, a1, a2, a3, a4, some (.int (nI (x + 1))), a6, a7] st σ) : wd_G sd V ad K 8 Q pc [a0, a1, a2, a3, a4, some (.int (nI x)), a6, a7] st σ := wd_iinc hC hdg rfl (by decide) (nI_1 x) rfl k
theorem wd_iincN_8_6 {sd : wd_Side} {V : wd_V} {ad : Nat → Nat} {K : wd_K} {own : String} {cc : ByteArray} {d : Nat} {ret : Option FieldType} {Q : State → Prop} {pc : Nat} {st : List Value} {σ : wd_S} {a0 a1 a2 a3 a4 a5 a7 : Option Value} (hC : wd_Ok sd V ad K own cc 8 d ret) {x : Nat} (hdg : decode cc pc = .ok (.iinc 6 1, 3)) (k : wd_G sd V ad K 8 Q (pc + 3) [a0, a1, a2, a3, a4, a5, some (.int (nI (x + 1))), a7] st σ) : wd_G sd V ad K 8 Q pc [a0, a1, a2, a3, a4, a5, some (.int (nI x)), a7] st σ := wd_iinc hC hdg rfl (by decide) (nI_1 x) rfl k
theorem wd_iincN_8_7 {sd : wd_Side} {V : wd_V} {ad : Nat → Nat} {K : wd_K} {own : String} {cc : ByteArray} {d : Nat} {ret : Option FieldType} {Q : State → Prop} {pc : Nat} {st : List Value} {σ : wd_S} {a0 a1 a2 a3 a4 a5 a6 : Option Value} (hC : wd_Ok sd V ad K own cc 8 d ret) {x : Nat} (hdg : decode cc pc = .ok (.iinc 7 1, 3)) (k : wd_G sd V ad K 8 Q (pc + 3) [a0, a1, a2, a3, a4, a5, a6, some (.int (nI (x + 1)))] st σ) : wd_G sd V ad K 8 Q pc [a0, a1, a2, a3, a4, a5, a6, some (.int (nI x))] st σ := wd_iinc hC hdg rfl (by decide) (nI_1 x) rfl k
theorem wd_iincN_9_7 {sd : wd_Side} {V : wd_V} {ad : Nat → Nat} {K : wd_K} {own : String} {cc : ByteArray} {d : Nat} {ret : Option FieldType} {Q : State → Prop} {pc : Nat} {st : List Value} {σ : wd_S} {a0 a1 a2 a3 a4 a5 a6 a8 : Option Value} (hC : wd_Ok sd V ad K own cc 9 d ret) {x : Nat} (hdg : decode cc pc = .ok (.iinc 7 1, 3)) (k : wd_G sd V ad K 9 Q (pc + 3) [a0, a1, a2, a3, a4, a5, a6, some (.int (nI (x + 1))), a8] st σ) : wd_G sd V ad K 9 Q pc [a0, a1, a2, a3, a4, a5, a6, some (.int (nI x)), a8] st σ := wd_iinc hC hdg rfl (by decide) (nI_1 x) rfl k
theorem wd_iincN_10_7 {sd : wd_Side} {V : wd_V} {ad : Nat → Nat} {K : wd_K} {own : String} {cc : ByteArray} {d : Nat} {ret : Option FieldType} {Q : State → Prop} {pc : Nat} {st : List Value} {σ : wd_S} {a0 a1 a2 a3 a4 a5 a6 a8 a9 : Option Value} (hC : wd_Ok sd V ad K own cc 10 d ret) {x : Nat} (hdg : decode cc pc = .ok (.iinc 7 1, 3)) (k : wd_G sd V ad K 10 Q (pc + 3) [a0, a1, a2, a3, a4, a5, a6, some (.int (nI (x + 1))), a8, a9] st σ) : wd_G sd V ad K 10 Q pc [a0, a1, a2, a3, a4, a5, a6, some (.int (nI x)), a8, a9] st σ := wd_iinc hC hdg rfl (by decide) (nI_1 x) rfl k
theorem wd_iincN_10_9 {sd : wd_Side} {V : wd_V} {ad : Nat → Nat} {K : wd_K} {own : String} {cc : ByteArray} {d : Nat} {ret : Option FieldType} {Q : State → Prop} {pc : Nat} {st : List Value} {σ : wd_S} {a0 a1 a2 a3 a4 a5 a6 a7 a8 : Option Value} (hC : wd_Ok sd V ad K own cc 10 d ret) {x : Nat} (hdg : decode cc pc = .ok (.iinc 9 1, 3)) (k : wd_G sd V ad K 10 Q (pc + 3) [a0, a1, a2, a3, a4, a5, a6, a7, a8, some (.int (nI (x + 1)))] st σ) : wd_G sd V ad K 10 Q pc [a0, a1, a2, a3, a4, a5, a6, a7, a8, some (.int (nI x))] st σ := wd_iinc hC hdg rfl (by decide) (nI_1 x) rfl k
theorem wd_iincN_13_8 {sd : wd_Side} {V : wd_V} {ad : Nat → Nat} {K : wd_K} {own : String} {cc : ByteArray} {d : Nat} {ret : Option FieldType} {Q : State → Prop} {pc : Nat} {st : List Value} {σ : wd_S} {a0 a1 a2 a3 a4 a5 a6 a7 a9 a10 a11 a12 : Option Value} (hC : wd_Ok sd V ad K own cc 13 d ret) {x : Nat} (hdg : decode cc pc = .ok (.iinc 8 1, 3)) (k : wd_G sd V ad K 13 Q (pc + 3) [a0, a1, a2, a3, a4, a5, a6, a7, some (.int (nI (x + 1))), a9, a10, a11, a12] st σ) : wd_G sd V ad K 13 Q pc [a0, a1, a2, a3, a4, a5, a6, a7, some (.int (nI x)), a9, a10, a11, a12] st σ := wd_iinc hC hdg rfl (by decide) (nI_1 x) rfl k
theorem wd_iincN_13_11 {sd : wd_Side} {V : wd_V} {ad : Nat → Nat} {K : wd_K} {own : String} {cc : ByteArray} {d : Nat} {ret : Option FieldType} {Q : State → Prop} {pc : Nat} {st : List Value} {σ : wd_S} {a0 a1 a2 a3 a4 a5 a6 a7 a8 a9 a10 a12 : Option Value} (hC : wd_Ok sd V ad K own cc 13 d ret) {x : Nat} (hdg : decode cc pc = .ok (.iinc 11 1, 3)) (k : wd_G sd V ad K 13 Q (pc + 3) [a0, a1, a2, a3, a4, a5, a6, a7, a8, a9, a10, some (.int (nI (x + 1))), a12] st σ) : wd_G sd V ad K 13 Q pc [a0, a1, a2, a3, a4, a5, a6, a7, a8, a9, a10, some (.int (nI x)), a12] st σ := wd_iinc hC hdg rfl (by decide) (nI_1 x) rfl k
theorem wd_istore_5_4 {sd : wd_Side} {V : wd_V} {ad : Nat → Nat} {K : wd_K} {own : String} {cc : ByteArray} {d : Nat} {ret : Option FieldType} {Q : State → Prop} {pc : Nat} {st : List Value} {σ : wd_S} {a0 a1 a2 a3 a4 : Option Value} (hC : wd_Ok sd V ad K own cc 5 d ret) {x : Int32} (hdg : decode cc pc = .ok (.istore 4, 2)) (k : wd_G sd V ad K 5 Q (pc + 2) [a0, a1, a2, a3, some (.int x)] st σ) : wd_G sd V ad K 5 Q pc [a0, a1, a2, a3, a4] (.int x :: st) σ := wd_istore hC hdg (by decide) rfl k
theorem wd_istore_6_4 {sd : wd_Side} {V : wd_V} {ad : Nat → Nat} {K : wd_K} {own : String} {cc : ByteArray} {d : Nat} {ret : Option FieldType} {Q : State → Prop} {pc : Nat} {st : List Value} {σ : wd_S} {a0 a1 a2 a3 a4 a5 : Option Value} (hC : wd_Ok sd V ad K own cc 6 d ret) {x : Int32} (hdg : decode cc pc = .ok (.istore 4, 2)) (k : wd_G sd V ad K 6 Q (pc + 2) [a0, a1, a2, a3, some (.int x), a5] st σ) : wd_G sd V ad K 6 Q pc [a0, a1, a2, a3, a4, a5] (.int x :: st) σ := wd_istore hC hdg (by decide) rfl k
theorem wd_istore_6_5 {sd : wd_Side} {V : wd_V} {ad : Nat → Nat} {K : wd_K} {own : String} {cc : ByteArray} {d : Nat} {ret : Option FieldType} {Q : State → Prop} {pc : Nat} {st : List Value} {σ : wd_S} {a0 a1 a2 a3 a4 a5 : Option Value} (hC : wd_Ok sd V ad K own cc 6 d ret) {x : Int32} (hdg : decode cc pc = .ok (.istore 5, 2)) (k : wd_G sd V ad K 6 Q (pc + 2) [a0, a1, a2, a3, a4, some (.int x)] st σ) : wd_G sd V ad K 6 Q pc [a0, a1, a2, a3, a4, a5] (.int x :: st) σ := wd_istore hC hdg (by decide) rfl k
theorem wd_istore_7_4 {sd : wd_Side} {V : wd_V} {ad : Nat → Nat} {K : wd_K} {own : String} {cc : ByteArray} {d : Nat} {ret : Option FieldType} {Q : State → Prop} {pc : Nat} {st : List Value} {σ : wd_S} {a0 a1 a2 a3 a4 a5 a6 : Option Value} (hC : wd_Ok sd V ad K own cc 7 d ret) {x : Int32} (hdg : decode cc pc = .ok (.istore 4, 2)) (k : wd_G sd V ad K 7 Q (pc + 2) [a0, a1, a2, a3, some (.int x), a5, a6] st σ) : wd_G sd V ad K 7 Q pc [a0, a1, a2, a3, a4, a5, a6] (.int x :: st) σ := wd_istore hC hdg (by decide) rfl k
theorem wd_istore_7_5 {sd : wd_Side} {V : wd_V} {ad : Nat → Nat} {K : wd_K} {own : String} {cc : ByteArray} {d : Nat} {ret : Option FieldType} {Q : State → Prop} {pc : Nat} {st : List Value} {σ : wd_S} {a0 a1 a2 a3 a4 a5 a6 : Option Value} (hC : wd_Ok sd V ad K own cc 7 d ret) {x : Int32} (hdg : decode cc pc = .ok (.istore 5, 2)) (k : wd_G sd V ad K 7 Q (pc + 2) [a0, a1, a2, a3, a4, some (.int x), a6] st σ) : wd_G sd V ad K 7 Q pc [a0, a1, a2, a3, a4, a5, a6] (.int x :: st) σ := wd_istore hC hdg (by decide) rfl k
theorem wd_istore_7_6 {sd : wd_Side} {V : wd_V} {ad : Nat → Nat} {K : wd_K} {own : String} {cc : ByteArray} {d : Nat} {ret : Option FieldType} {Q : State → Prop} {pc : Nat} {st : List Value} {σ : wd_S} {a0 a1 a2 a3 a4 a5 a6 : Option Value} (hC : wd_Ok sd V ad K own cc 7 d ret) {x : Int32} (hdg : decode cc pc = .ok (.istore 6, 2)) (k : wd_G sd V ad K 7 Q (pc + 2) [a0, a1, a2, a3, a4, a5, some (.int x)] st σ) : wd_G sd V ad K 7 Q pc [a0, a1, a2, a3, a4, a5, a6] (.int x :: st) σ := wd_istore hC hdg (by decide) rfl k
theorem wd_istore_8_4 {sd : wd_Side} {V : wd_V} {ad : Nat → Nat} {K : wd_K} {own : String} {cc : ByteArray} {d : Nat} {ret : Option FieldType} {Q : State → Prop} {pc : Nat} {st : List Value} {σ : wd_S} {a0 a1 a2 a3 a4 a5 a6 a7 : Option Value} (hC : wd_Ok sd V ad K own cc 8 d ret) {x : Int32} (hdg : decode cc pc = .ok (.istore 4, 2)) (k : wd_G sd V ad K 8 Q (pc + 2) [a0, a1, a2, a3, some (.int x), a5, a6, a7] st σ) : wd_G sd V ad K 8 Q pc [a0, a1, a2, a3, a4, a5, a6, a7] (.int x :: st) σ := wd_istore hC hdg (by decide) rfl k
theorem wd_istore_8_5 {sd : wd_Side} {V : wd_V} {ad : Nat → Nat} {K : wd_K} {own : String} {cc : ByteArray} {d : Nat} {ret : Option FieldType} {Q : State → Prop} {pc : Nat} {st : List Value} {σ : wd_S} {a0 a1 a2 a3 a4 a5 a6 a7 : Option Value} (hC : wd_Ok sd V ad K own cc 8 d ret) {x : Int32} (hdg : decode cc pc = .ok (.istore 5, 2)) (k : wd_G sd V ad K 8 Q (pc + 2) [a0, a1, a2, a3, a4, some (.int x), a6, a7] st σ) : wd_G sd V ad K 8 Q pc [a0, a1, a2, a3, a4, a5, a6, a7] (.int x :: st) σ := wd_istore hC hdg (by decide) rfl k
theorem wd_istore_8_6 {sd : wd_Side} {V : wd_V} {ad : Nat → Nat} {K : wd_K} {own : String} {cc : ByteArray} {d : Nat} {ret : Option FieldType} {Q : State → Prop} {pc : Nat} {st : List Value} {σ : wd_S} {a0 a1 a2 a3 a4 a5 a6 a7 : Option Value} (hC : wd_Ok sd V ad K own cc 8 d ret) {x : Int32} (hdg : decode cc pc = .ok (.istore 6, 2)) (k : wd_G sd V ad K 8 Q (pc + 2) [a0, a1, a2, a3, a4, a5, some (.int x), a7] st σ) : wd_G sd V ad K 8 Q pc [a0, a1, a2, a3, a4, a5, a6, a7] (.int x :: st) σ := wd_istore hC hdg (by decide) rfl k
theorem wd_istore_8_7 {sd : wd_Side} {V : wd_V} {ad : Nat → Nat} {K : wd_K} {own : String} {cc : ByteArray} {d : Nat} {ret : Option FieldType} {Q : State → Prop} {pc : Nat} {st : List Value} {σ : wd_S} {a0 a1 a2 a3 a4 a5 a6 a7 : Option Value} (hC : wd_Ok sd V ad K own cc 8 d ret) {x : Int32} (hdg : decode cc pc = .ok (.istore 7, 2)) (k : wd_G sd V ad K 8 Q (pc + 2) [a0, a1, a2, a3, a4, a5, a6, some (.int x)] st σ) : wd_G sd V ad K 8 Q pc [a0, a1, a2, a3, a4, a5, a6, a7] (.int x :: st) σ := wd_istore hC hdg (by decide) rfl k
theorem wd_istore_9_4 {sd : wd_Side} {V : wd_V} {ad : Nat → Nat} {K : wd_K} {own : String} {cc : ByteArray} {d : Nat} {ret : Option FieldType} {Q : State → Prop} {pc : Nat} {st : List Value} {σ : wd_S} {a0 a1 a2 a3 a4 a5 a6 a7 a8 : Option Value} (hC : wd_Ok sd V ad K own cc 9 d ret) {x : Int32} (hdg : decode cc pc = .ok (.istore 4, 2)) (k : wd_G sd V ad K 9 Q (pc + 2) [a0, a1, a2, a3, some (.int x), a5, a6, a7, a8] st σ) : wd_G sd V ad K 9 Q pc [a0, a1, a2, a3, a4, a5, a6, a7, a8] (.int x :: st) σ := wd_istore hC hdg (by decide) rfl k
theorem wd_istore_9_5 {sd : wd_Side} {V : wd_V} {ad : Nat → Nat} {K : wd_K} {own : String} {cc : ByteArray} {d : Nat} {ret : Option FieldType} {Q : State → Prop} {pc : Nat} {st : List Value} {σ : wd_S} {a0 a1 a2 a3 a4 a5 a6 a7 a8 : Option Value} (hC : wd_Ok sd V ad K own cc 9 d ret) {x : Int32} (hdg : decode cc pc = .ok (.istore 5, 2)) (k : wd_G sd V ad K 9 Q (pc + 2) [a0, a1, a2, a3, a4, some (.int x), a6, a7, a8] st σ) : wd_G sd V ad K 9 Q pc [a0, a1, a2, a3, a4, a5, a6, a7, a8] (.int x :: st) σ := wd_istore hC hdg (by decide) rfl k
theorem wd_istore_9_6 {sd : wd_Side} {V : wd_V} {ad : Nat → Nat} {K : wd_K} {own : String} {cc : ByteArray} {d : Nat} {ret : Option FieldType} {Q : State → Prop} {pc : Nat} {st : List Value} {σ : wd_S} {a0 a1 a2 a3 a4 a5 a6 a7 a8 : Option Value} (hC : wd_Ok sd V ad K own cc 9 d ret) {x : Int32} (hdg : decode cc pc = .ok (.istore 6, 2)) (k : wd_G sd V ad K 9 Q (pc + 2) [a0, a1, a2, a3, a4, a5, some (.int x), a7, a8] st σ) : wd_G sd V ad K 9 Q pc [a0, a1, a2, a3, a4, a5, a6, a7, a8] (.int x :: st) σ := wd_istore hC hdg (by decide) rfl k
theorem wd_istore_9_7 {sd : wd_Side} {V : wd_V} {ad : Nat → Nat} {K : wd_K} {own : String} {cc : ByteArray} {d : Nat} {ret : Option FieldType} {Q : State → Prop} {pc : Nat} {st : List Value} {σ : wd_S} {a0 a1 a2 a3 a4 a5 a6 a7 a8 : Option Value} (hC : wd_Ok sd V ad K own cc 9 d ret) {x : Int32} (hdg : decode cc pc = .ok (.istore 7, 2)) (k : wd_G sd V ad K 9 Q (pc + 2) [a0, a1, a2, a3, a4, a5, a6, some (.int x), a8] st σ) : wd_G sd V ad K 9 Q pc [a0, a1, a2, a3, a4, a5, a6, a7, a8] (.int x :: st) σ := wd_istore hC hdg (by decide) rfl k
theorem wd_istore_9_8 {sd : wd_Side} {V : wd_V} {ad : Nat → Nat} {K : wd_K} {own : String} {cc : ByteArray} {d : Nat} {ret : Option FieldType} {Q : State → Prop} {pc : Nat} {st : List Value} {σ : wd_S} {a0 a1 a2 a3 a4 a5 a6 a7 a8 : Option Value} (hC : wd_Ok sd V ad K own cc 9 d ret) {x : Int32} (hdg : decode cc pc = .ok (.istore 8, 2)) (k : wd_G sd V ad K 9 Q (pc + 2) [a0, a1, a2, a3, a4, a5, a6, a7, some (.int x)] st σ) : wd_G sd V ad K 9 Q pc [a0, a1, a2, a3, a4, a5, a6, a7, a8] (.int x :: st) σ := wd_istore hC hdg (by decide) rfl k
theorem wd_istore_10_4 {sd : wd_Side} {V : wd_V} {ad : Nat → Nat} {K : wd_K} {own : String} {cc : ByteArray} {d : Nat} {ret : Option FieldType} {Q : State → Prop} {pc : Nat} {st : List Value} {σ : wd_S} {a0 a1 a2 a3 a4 a5 a6 a7 a8 a9 : Option Value} (hC : wd_Ok sd V ad K own cc 10 d ret) {x : Int32} (hdg : decode cc pc = .ok (.istore 4, 2)) (k : wd_G sd V ad K 10 Q (pc + 2) [a0, a1, a2, a3, some (.int x), a5, a6, a7, a8, a9] st σ) : wd_G sd V ad K 10 Q pc [a0, a1, a2, a3, a4, a5, a6, a7, a8, a9] (.int x :: st) σ := wd_istore hC hdg (by decide) rfl k
theorem wd_istore_10_5 {sd : wd_Side} {V : wd_V} {ad : Nat → Nat} {K : wd_K} {own : String} {cc : ByteArray} {d : Nat} {ret : Option FieldType} {Q : State → Prop} {pc : Nat} {st : List Value} {σ : wd_S} {a0 a1 a2 a3 a4 a5 a6 a7 a8 a9 : Option Value} (hC : wd_Ok sd V ad K own cc 10 d ret) {x : Int32} (hdg : decode cc pc = .ok (.istore 5, 2)) (k : wd_G sd V ad K 10 Q (pc + 2) [a0, a1, a2, a3, a4, some (.int x), a6, a7, a8, a9] st σ) : wd_G sd V ad K 10 Q pc [a0, a1, a2, a3, a4, a5, a6, a7, a8, a9] (.int x :: st) σ := wd_istore hC hdg (by decide) rfl k
theorem wd_istore_10_6 {sd : wd_Side} {V : wd_V} {ad : Nat → Nat} {K : wd_K} {own : String} {cc : ByteArray} {d : Nat} {ret : Option FieldType} {Q : State → Prop} {pc : Nat} {st : List Value} {σ : wd_S} {a0 a1 a2 a3 a4 a5 a6 a7 a8 a9 : Option Value} (hC : wd_Ok sd V ad K own cc 10 d ret) {x : Int32} (hdg : decode cc pc = .ok (.istore 6, 2)) (k : wd_G sd V ad K 10 Q (pc + 2) [a0, a1, a2, a3, a4, a5, some (.int x), a7, a8, a9] st σ) : wd_G sd V ad K 10 Q pc [a0, a1, a2, a3, a4, a5, a6, a7, a8, a9] (.int x :: st) σ := wd_istore hC hdg (by decide) rfl k
theorem wd_istore_10_7 {sd : wd_Side} {V : wd_V} {ad : Nat → Nat} {K : wd_K} {own : String} {cc : ByteArray} {d : Nat} {ret : Option FieldType} {Q : State → Prop} {pc : Nat} {st : List Value} {σ : wd_S} {a0 a1 a2 a3 a4 a5 a6 a7 a8 a9 : Option Value} (hC : wd_Ok sd V ad K own cc 10 d ret) {x : Int32} (hdg : decode cc pc = .ok (.istore 7, 2)) (k : wd_G sd V ad K 10 Q (pc + 2) [a0, a1, a2, a3, a4, a5, a6, some (.int x), a8, a9] st σ) : wd_G sd V ad K 10 Q pc [a0, a1, a2, a3, a4, a5, a6, a7, a8, a9] (.int x :: st) σ := wd_istore hC hdg (by decide) rfl k
theorem wd_istore_10_8 {sd : wd_Side} {V : wd_V} {ad : Nat → Nat} {K : wd_K} {own : String} {cc : ByteArray} {d : Nat} {ret : Option FieldType} {Q : State → Prop} {pc : Nat} {st : List Value} {σ : wd_S} {a0 a1 a2 a3 a4 a5 a6 a7 a8 a9 : Option Value} (hC : wd_Ok sd V ad K own cc 10 d ret) {x : Int32} (hdg : decode cc pc = .ok (.istore 8, 2)) (k : wd_G sd V ad K 10 Q (pc + 2) [a0, a1, a2, a3, a4, a5, a6, a7, some (.int x), a9] st σ) : wd_G sd V ad K 10 Q pc [a0, a1, a2, a3, a4, a5, a6, a7, a8, a9] (.int x :: st) σ := wd_istore hC hdg (by decide) rfl k
theorem wd_istore_10_9 {sd : wd_Side} {V : wd_V} {ad : Nat → Nat} {K : wd_K} {own : String} {cc : ByteArray} {d : Nat} {ret : Option FieldType} {Q : State → Prop} {pc : Nat} {st : List Value} {σ : wd_S} {a0 a1 a2 a3 a4 a5 a6 a7 a8 a9 : Option Value} (hC : wd_Ok sd V ad K own cc 10 d ret) {x : Int32} (hdg : decode cc pc = .ok (.istore 9, 2)) (k : wd_G sd V ad K 10 Q (pc + 2) [a0, a1, a2, a3, a4, a5, a6, a7, a8, some (.int x)] st σ) : wd_G sd V ad K 10 Q pc [a0, a1, a2, a3, a4, a5, a6, a7, a8, a9] (.int x :: st) σ := wd_istore hC hdg (by decide) rfl k
theorem wd_istore_13_5 {sd : wd_Side} {V : wd_V} {ad : Nat → Nat} {K : wd_K} {own : String} {cc : ByteArray} {d : Nat} {ret : Option FieldType} {Q : State → Prop} {pc : Nat} {st : List Value} {σ : wd_S} {a0 a1 a2 a3 a4 a5 a6 a7 a8 a9 a10 a11 a12 : Option Value} (hC : wd_Ok sd V ad K own cc 13 d ret) {x : Int32} (hdg : decode cc pc = .ok (.istore 5, 2)) (k : wd_G sd V ad K 13 Q (pc + 2) [a0, a1, a2, a3, a4, some (.int x), a6, a7, a8, a9, a10, a11, a12] st σ) : wd_G sd V ad K 13 Q pc [a0, a1, a2, a3, a4, a5, a6, a7, a8, a9, a10, a11, a12] (.int x :: st) σ := wd_istore hC hdg (by decide) rfl k
theorem wd_istore_13_6 {sd : wd_Side} {V : wd_V} {ad : Nat → Nat} {K : wd_K} {own : String} {cc : ByteArray} {d : Nat} {ret : Option FieldType} {Q : State → Prop} {pc : Nat} {st : List Value} {σ : wd_S} {a0 a1 a2 a3 a4 a5 a6 a7 a8 a9 a10 a11 a12 : Option Value} (hC : wd_Ok sd V ad K own cc 13 d ret) {x : Int32} (hdg : decode cc pc = .ok (.istore 6, 2)) (k : wd_G sd V ad K 13 Q (pc + 2) [a0, a1, a2, a3, a4, a5, some (.int x), a7, a8, a9, a10, a11, a12] st σ) : wd_G sd V ad K 13 Q pc [a0, a1, a2, a3, a4, a5, a6, a7, a8, a9, a10, a11, a12] (.int x :: st) σ := wd_istore hC hdg (by decide) rfl k
theorem wd_istore_13_7 {sd : wd_Side} {V : wd_V} {ad : Nat → Nat} {K : wd_K} {own : String} {cc : ByteArray} {d : Nat} {ret : Option FieldType} {Q : State → Prop} {pc : Nat} {st : List Value} {σ : wd_S} {a0 a1 a2 a3 a4 a5 a6 a7 a8 a9 a10 a11 a12 : Option Value} (hC : wd_Ok sd V ad K own cc 13 d ret) {x : Int32} (hdg : decode cc pc = .ok (.istore 7, 2)) (k : wd_G sd V ad K 13 Q (pc + 2) [a0, a1, a2, a3, a4, a5, a6, some (.int x), a8, a9, a10, a11, a12] st σ) : wd_G sd V ad K 13 Q pc [a0, a1, a2, a3, a4, a5, a6, a7, a8, a9, a10, a11, a12] (.int x :: st) σ := wd_istore hC hdg (by decide) rfl k
theorem wd_istore_13_8 {sd : wd_Side} {V : wd_V} {ad : Nat → Nat} {K : wd_K} {own : String} {cc : ByteArray} {d : Nat} {ret : Option FieldType} {Q : State → Prop} {pc : Nat} {st : List Value} {σ : wd_S} {a0 a1 a2 a3 a4 a5 a6 a7 a8 a9 a10 a11 a12 : Option Value} (hC : wd_Ok sd V ad K own cc 13 d ret) {x : Int32} (hdg : decode cc pc = .ok (.istore 8, 2)) (k : wd_G sd V ad K 13 Q (pc + 2) [a0, a1, a2, a3, a4, a5, a6, a7, some (.int x), a9, a10, a11, a12] st σ) : wd_G sd V ad K 13 Q pc [a0, a1, a2, a3, a4, a5, a6, a7, a8, a9, a10, a11, a12] (.int x :: st) σ := wd_istore hC hdg (by decide) rfl k
theorem wd_istore_13_9 {sd : wd_Side} {V : wd_V} {ad : Nat → Nat} {K : wd_K} {own : String} {cc : ByteArray} {d : Nat} {ret : Option FieldType} {Q : State → Prop} {pc : Nat} {st : List Value} {σ : wd_S} {a0 a1 a2 a3 a4 a5 a6 a7 a8 a9 a10 a11 a12 : Option Value} (hC : wd_Ok sd V ad K own cc 13 d ret) {x : Int32} (hdg : decode cc pc = .ok (.istore 9, 2)) (k : wd_G sd V ad K 13 Q (pc + 2) [a0, a1, a2, a3, a4, a5, a6, a7, a8, some (.int x), a10, a11, a12] st σ) : wd_G sd V ad K 13 Q pc [a0, a1, a2, a3, a4, a5, a6, a7, a8, a9, a10, a11, a12] (.int x :: st) σ := wd_istore hC hdg (by decide) rfl k
theorem wd_istore_13_10 {sd : wd_Side} {V : wd_V} {ad : Nat → Nat} {K : wd_K} {own : String} {cc : ByteArray} {d : Nat} {ret : Option FieldType} {Q : State → Prop} {pc : Nat} {st : List Value} {σ : wd_S} {a0 a1 a2 a3 a4 a5 a6 a7 a8 a9 a10 a11 a12 : Option Value} (hC : wd_Ok sd V ad K own cc 13 d ret) {x : Int32} (hdg : decode cc pc = .ok (.istore 10, 2)) (k : wd_G sd V ad K 13 Q (pc + 2) [a0, a1, a2, a3, a4, a5, a6, a7, a8, a9, some (.int x), a11, a12] st σ) : wd_G sd V ad K 13 Q pc [a0, a1, a2, a3, a4, a5, a6, a7, a8, a9, a10, a11, a12] (.int x :: st) σ := wd_istore hC hdg (by decide) rfl k
theorem wd_istore_13_11 {sd : wd_Side} {V : wd_V} {ad : Nat → Nat} {K : wd_K} {own : String} {cc : ByteArray} {d : Nat} {ret : Option FieldType} {Q : State → Prop} {pc : Nat} {st : List Value} {σ : wd_S} {a0 a1 a2 a3 a4 a5 a6 a7 a8 a9 a10 a11 a12 : Option Value} (hC : wd_Ok sd V ad K own cc 13 d ret) {x : Int32} (hdg : decode cc pc = .ok (.istore 11, 2)) (k : wd_G sd V ad K 13 Q (pc + 2) [a0, a1, a2, a3, a4, a5, a6, a7, a8, a9, a10, some (.int x), a12] st σ) : wd_G sd V ad K 13 Q pc [a0, a1, a2, a3, a4, a5, a6, a7, a8, a9, a10, a11, a12] (.int x :: st) σ := wd_istore hC hdg (by decide) rfl k
theorem wd_istore_13_12 {sd : wd_Side} {V : wd_V} {ad : Nat → Nat} {K : wd_K} {own : String} {cc : ByteArray} {d : Nat} {ret : Option FieldType} {Q : State → Prop} {pc : Nat} {st : List Value} {σ : wd_S} {a0 a1 a2 a3 a4 a5 a6 a7 a8 a9 a10 a11 a12 : Option Value} (hC : wd_Ok sd V ad K own cc 13 d ret) {x : Int32} (hdg : decode cc pc = .ok (.istore 12, 2)) (k : wd_G sd V ad K 13 Q (pc + 2) [a0, a1, a2, a3, a4, a5, a6, a7, a8, a9, a10, a11, some (.int x)] st σ) : wd_G sd V ad K 13 Q pc [a0, a1, a2, a3, a4, a5, a6, a7, a8, a9, a10, a11, a12] (.int x :: st) σ := wd_istore hC hdg (by decide) rfl k
theorem wd_istore_n_2_1 {sd : wd_Side} {V : wd_V} {ad : Nat → Nat} {K : wd_K} {own : String} {cc : ByteArray} {d : Nat} {ret : Option FieldType} {Q : State → Prop} {pc : Nat} {st : List Value} {σ : wd_S} {a0 a1 : Option Value} (hC : wd_Ok sd V ad K own cc 2 d ret) {x : Int32} (hdg : decode cc pc = .ok (.istore_n 1, 1)) (k : wd_G sd V ad K 2 Q (pc + 1) [a0, some (.int x)] st σ) : wd_G sd V ad K 2 Q pc [a0, a1] (.int x :: st) σ := wd_istore_n hC hdg rfl (by decide) rfl k
theorem wd_istore_n_3_1 {sd : wd_Side} {V : wd_V} {ad : Nat → Nat} {K : wd_K} {own : String} {cc : ByteArray} {d : Nat} {ret : Option FieldType} {Q : State → Prop} {pc : Nat} {st : List Value} {σ : wd_S} {a0 a1 a2 : Option Value} (hC : wd_Ok sd V ad K own cc 3 d ret) {x : Int32} (hdg : decode cc pc = .ok (.istore_n 1, 1)) (k : wd_G sd V ad K 3 Q (pc + 1) [a0, some (.int x), a2] st σ) : wd_G sd V ad K 3 Q pc [a0, a1, a2] (.int x :: st) σ := wd_istore_n hC hdg rfl (by decide) rfl k
theorem wd_istore_n_3_2 {sd : wd_Side} {V : wd_V} {ad : Nat → Nat} {K : wd_K} {own : String} {cc : ByteArray} {d : Nat} {ret : Option FieldType} {Q : State → Prop} {pc : Nat} {st : List Value} {σ : wd_S} {a0 a1 a2 : Option Value} (hC : wd_Ok sd V ad K own cc 3 d ret) {x : Int32} (hdg : decode cc pc = .ok (.istore_n 2, 1)) (k : wd_G sd V ad K 3 Q (pc + 1) [a0, a1, some (.int x)] st σ) : wd_G sd V ad K 3 Q pc [a0, a1, a2] (.int x :: st) σ := wd_istore_n hC hdg rfl (by decide) rfl k
theorem wd_istore_n_4_1 {sd : wd_Side} {V : wd_V} {ad : Nat → Nat} {K : wd_K} {own : String} {cc : ByteArray} {d : Nat} {ret : Option FieldType} {Q : State → Prop} {pc : Nat} {st : List Value} {σ : wd_S} {a0 a1 a2 a3 : Option Value} (hC : wd_Ok sd V ad K own cc 4 d ret) {x : Int32} (hdg : decode cc pc = .ok (.istore_n 1, 1)) (k : wd_G sd V ad K 4 Q (pc + 1) [a0, some (.int x), a2, a3] st σ) : wd_G sd V ad K 4 Q pc [a0, a1, a2, a3] (.int x :: st) σ := wd_istore_n hC hdg rfl (by decide) rfl k
theorem wd_istore_n_4_2 {sd : wd_Side} {V : wd_V} {ad : Nat → Nat} {K : wd_K} {own : String} {cc : ByteArray} {d : Nat} {ret : Option FieldType} {Q : State → Prop} {pc : Nat} {st : List Value} {σ : wd_S} {a0 a1 a2 a3 : Option Value} (hC : wd_Ok sd V ad K own cc 4 d ret) {x : Int32} (hdg : decode cc pc = .ok (.istore_n 2, 1)) (k : wd_G sd V ad K 4 Q (pc + 1) [a0, a1, some (.int x), a3] st σ) : wd_G sd V ad K 4 Q pc [a0, a1, a2, a3] (.int x :: st) σ := wd_istore_n hC hdg rfl (by decide) rfl k
theorem wd_istore_n_4_3 {sd : wd_Side} {V : wd_V} {ad : Nat → Nat} {K : wd_K} {own : String} {cc : ByteArray} {d : Nat} {ret : Option FieldType} {Q : State → Prop} {pc : Nat} {st : List Value} {σ : wd_S} {a0 a1 a2 a3 : Option Value} (hC : wd_Ok sd V ad K own cc 4 d ret) {x : Int32} (hdg : decode cc pc = .ok (.istore_n 3, 1)) (k : wd_G sd V ad K 4 Q (pc + 1) [a0, a1, a2, some (.int x)] st σ) : wd_G sd V ad K 4 Q pc [a0, a1, a2, a3] (.int x :: st) σ := wd_istore_n hC hdg rfl (by decide) rfl k
theorem wd_istore_n_5_1 {sd : wd_Side} {V : wd_V} {ad : Nat → Nat} {K : wd_K} {own : String} {cc : ByteArray} {d : Nat} {ret : Option FieldType} {Q : State → Prop} {pc : Nat} {st : List Value} {σ : wd_S} {a0 a1 a2 a3 a4 : Option Value} (hC : wd_Ok sd V ad K own cc 5 d ret) {x : Int32} (hdg : decode cc pc = .ok (.istore_n 1, 1)) (k : wd_G sd V ad K 5 Q (pc + 1) [a0, some (.int x), a2, a3, a4] st σ) : wd_G sd V ad K 5 Q pc [a0, a1, a2, a3, a4] (.int x :: st) σ := wd_istore_n hC hdg rfl (by decide) rfl k
theorem wd_istore_n_5_2 {sd : wd_Side} {V : wd_V} {ad : Nat → Nat} {K : wd_K} {own : String} {cc : ByteArray} {d : Nat} {ret : Option FieldType} {Q : State → Prop} {pc : Nat} {st : List Value} {σ : wd_S} {a0 a1 a2 a3 a4 : Option Value} (hC : wd_Ok sd V ad K own cc 5 d ret) {x : Int32} (hdg : decode cc pc = .ok (.istore_n 2, 1)) (k : wd_G sd V ad K 5 Q (pc + 1) [a0, a1, some (.int x), a3, a4] st σ) : wd_G sd V ad K 5 Q pc [a0, a1, a2, a3, a4] (.int x :: st) σ := wd_istore_n hC hdg rfl (by decide) rfl k
theorem wd_istore_n_5_3 {sd : wd_Side} {V : wd_V} {ad : Nat → Nat} {K : wd_K} {own : String} {cc : ByteArray} {d : Nat} {ret : Option FieldType} {Q : State → Prop} {pc : Nat} {st : List Value} {σ : wd_S} {a0 a1 a2 a3 a4 : Option Value} (hC : wd_Ok sd V ad K own cc 5 d ret) {x : Int32} (hdg : decode cc pc = .ok (.istore_n 3, 1)) (k : wd_G sd V ad K 5 Q (pc + 1) [a0, a1, a2, some (.int x), a4] st σ) : wd_G sd V ad K 5 Q pc [a0, a1, a2, a3, a4] (.int x :: st) σ := wd_istore_n hC hdg rfl (by decide) rfl k
theorem wd_istore_n_6_2 {sd : wd_Side} {V : wd_V} {ad : Nat → Nat} {K : wd_K} {own : String} {cc : ByteArray} {d : Nat} {ret : Option FieldType} {Q : State → Prop} {pc : Nat} {st : List Value} {σ : wd_S} {a0 a1 a2 a3 a4 a5 : Option Value} (hC : wd_Ok sd V ad K own cc 6 d ret) {x : Int32} (hdg : decode cc pc = .ok (.istore_n 2, 1)) (k : wd_G sd V ad K 6 Q (pc + 1) [a0, a1, some (.int x), a3, a4, a5] st σ) : wd_G sd V ad K 6 Q pc [a0, a1, a2, a3, a4, a5] (.int x :: st) σ := wd_istore_n hC hdg rfl (by decide) rfl k
theorem wd_istore_n_6_3 {sd : wd_Side} {V : wd_V} {ad : Nat → Nat} {K : wd_K} {own : String} {cc : ByteArray} {d : Nat} {ret : Option FieldType} {Q : State → Prop} {pc : Nat} {st : List Value} {σ : wd_S} {a0 a1 a2 a3 a4 a5 : Option Value} (hC : wd_Ok sd V ad K own cc 6 d ret) {x : Int32} (hdg : decode cc pc = .ok (.istore_n 3, 1)) (k : wd_G sd V ad K 6 Q (pc + 1) [a0, a1, a2, some (.int x), a4, a5] st σ) : wd_G sd V ad K 6 Q pc [a0, a1, a2, a3, a4, a5] (.int x :: st) σ := wd_istore_n hC hdg rfl (by decide) rfl k
theorem wd_istore_n_7_2 {sd : wd_Side} {V : wd_V} {ad : Nat → Nat} {K : wd_K} {own : String} {cc : ByteArray} {d : Nat} {ret : Option FieldType} {Q : State → Prop} {pc : Nat} {st : List Value} {σ : wd_S} {a0 a1 a2 a3 a4 a5 a6 : Option Value} (hC : wd_Ok sd V ad K own cc 7 d ret) {x : Int32} (hdg : decode cc pc = .ok (.istore_n 2, 1)) (k : wd_G sd V ad K 7 Q (pc + 1) [a0, a1, some (.int x), a3, a4, a5, a6] st σ) : wd_G sd V ad K 7 Q pc [a0, a1, a2, a3, a4, a5, a6] (.int x :: st) σ := wd_istore_n hC hdg rfl (by decide) rfl k
theorem wd_istore_n_7_3 {sd : wd_Side} {V : wd_V} {ad : Nat → Nat} {K : wd_K} {own : String} {cc : ByteArray} {d : Nat} {ret : Option FieldType} {Q : State → Prop} {pc : Nat} {st : List Value} {σ : wd_S} {a0 a1 a2 a3 a4 a5 a6 : Option Value} (hC : wd_Ok sd V ad K own cc 7 d ret) {x : Int32} (hdg : decode cc pc = .ok (.istore_n 3, 1)) (k : wd_G sd V ad K 7 Q (pc + 1) [a0, a1, a2, some (.int x), a4, a5, a6] st σ) : wd_G sd V ad K 7 Q pc [a0, a1, a2, a3, a4, a5, a6] (.int x :: st) σ := wd_istore_n hC hdg rfl (by decide) rfl k
theorem wd_istore_n_8_3 {sd : wd_Side} {V : wd_V} {ad : Nat → Nat} {K : wd_K} {own : String} {cc : ByteArray} {d : Nat} {ret : Option FieldType} {Q : State → Prop} {pc : Nat} {st : List Value} {σ : wd_S} {a0 a1 a2 a3 a4 a5 a6 a7 : Option Value} (hC : wd_Ok sd V ad K own cc 8 d ret) {x : Int32} (hdg : decode cc pc = .ok (.istore_n 3, 1)) (k : wd_G sd V ad K 8 Q (pc + 1) [a0, a1, a2, some (.int x), a4, a5, a6, a7] st σ) : wd_G sd V ad K 8 Q pc [a0, a1, a2, a3, a4, a5, a6, a7] (.int x :: st) σ := wd_istore_n hC hdg rfl (by decide) rfl k
/-! ===== calls, by receiver ===== -/
theorem cv4i {V : wd_V} {ad : Nat → Nat} {K : wd_K} {own : String} {cc : ByteArray} {nL d : Nat} {ret : Option FieldType} {Q : State → Prop} {pc : Nat} {lv : List (Option Value)} {st st0 : List Value} {σ σ' : wd_S} {y : MethodName} {bytes : ByteArray} {maxL n index d' : Nat} {rt : Option FieldType} {As : List Value} {r : Int32}  (hC : wd_Ok cS V ad K own cc nL d ret) (hw : wd_wV own index RX4 y bytes maxL rt n) (hM : wd_C cS V ad d' y (Cond.code y bytes maxL rt :: wsL_law) σ (.ref (ad 0) :: As) (wd_eq (some (.int r)) σ')) (hdg : decode cc pc = .ok (.invokevirtual index, 3)) (hd : d' < d) (hmx : maxL ≤ 29) (hn : As.length = n) (hst : st0 = As.reverse ++ .ref (ad 0) :: st) (hsum : (st.map fun v => v.category).sum ≤ 8) (k : wd_G cS V ad K nL Q (pc + 3) lv (.int r :: st) σ')  : wd_G cS V ad K nL Q pc lv st0 σ := wd_callV hC hw As (q := 0) (ci := 4) (by decide) rfl rfl hM hd hmx hn hst hsum hdg (fun _ _ h => by obtain ⟨rfl, rfl⟩ := h; exact k)
theorem cv4iP {V : wd_V} {ad : Nat → Nat} {K : wd_K} {own : String} {cc : ByteArray} {nL d : Nat} {ret : Option FieldType} {Q : State → Prop} {pc : Nat} {lv : List (Option Value)} {st st0 : List Value} {σ : wd_S} {y : MethodName} {bytes : ByteArray} {maxL n index d' : Nat} {rt : Option FieldType} {As : List Value} {p : Int32 → wd_S → Prop}  (hC : wd_Ok cS V ad K own cc nL d ret) (hw : wd_wV own index RX4 y bytes maxL rt n) (hM : wd_C cS V ad d' y (Cond.code y bytes maxL rt :: wsL_law) σ (.ref (ad 0) :: As) (wd_pi p)) (hdg : decode cc pc = .ok (.invokevirtual index, 3)) (hd : d' < d) (hmx : maxL ≤ 29) (hn : As.length = n) (hst : st0 = As.reverse ++ .ref (ad 0) :: st) (hsum : (st.map fun v => v.category).sum ≤ 8) (k : ∀ (r : Int32) (σ' : wd_S), p r σ' → wd_G cS V ad K nL Q (pc + 3) lv (.int r :: st) σ')  : wd_G cS V ad K nL Q pc lv st0 σ := wd_callV hC hw As (q := 0) (ci := 4) (by decide) rfl rfl hM hd hmx hn hst hsum hdg (fun _ _ h => by obtain ⟨r, rfl, h⟩ := h; exact k r _ h)
theorem cv4v {V : wd_V} {ad : Nat → Nat} {K : wd_K} {own : String} {cc : ByteArray} {nL d : Nat} {ret : Option FieldType} {Q : State → Prop} {pc : Nat} {lv : List (Option Value)} {st st0 : List Value} {σ σ' : wd_S} {y : MethodName} {bytes : ByteArray} {maxL n index d' : Nat} {rt : Option FieldType} {As : List Value}   (hC : wd_Ok cS V ad K own cc nL d ret) (hw : wd_wV own index RX4 y bytes maxL rt n) (hM : wd_C cS V ad d' y (Cond.code y bytes maxL rt :: wsL_law) σ (.ref (ad 0) :: As) (wd_eq none σ')) (hdg : decode cc pc = .ok (.invokevirtual index, 3)) (hd : d' < d) (hmx : maxL ≤ 29) (hn : As.length = n) (hst : st0 = As.reverse ++ .ref (ad 0) :: st) (hsum : (st.map fun v => v.category).sum ≤ 8) (k : wd_G cS V ad K nL Q (pc + 3) lv st σ')  : wd_G cS V ad K nL Q pc lv st0 σ := wd_callV hC hw As (q := 0) (ci := 4) (by decide) rfl rfl hM hd hmx hn hst hsum hdg (fun _ _ h => by obtain ⟨rfl, rfl⟩ := h; exact k)
theorem cv4vP {V : wd_V} {ad : Nat → Nat} {K : wd_K} {own : String} {cc : ByteArray} {nL d : Nat} {ret : Option FieldType} {Q : State → Prop} {pc : Nat} {lv : List (Option Value)} {st st0 : List Value} {σ : wd_S} {y : MethodName} {bytes : ByteArray} {maxL n index d' : Nat} {rt : Option FieldType} {As : List Value} {p : wd_S → Prop}  (hC : wd_Ok cS V ad K own cc nL d ret) (hw : wd_wV own index RX4 y bytes maxL rt n) (hM : wd_C cS V ad d' y (Cond.code y bytes maxL rt :: wsL_law) σ (.ref (ad 0) :: As) (wd_pv p)) (hdg : decode cc pc = .ok (.invokevirtual index, 3)) (hd : d' < d) (hmx : maxL ≤ 29) (hn : As.length = n) (hst : st0 = As.reverse ++ .ref (ad 0) :: st) (hsum : (st.map fun v => v.category).sum ≤ 8) (k : ∀ (σ' : wd_S), p σ' → wd_G cS V ad K nL Q (pc + 3) lv st σ')  : wd_G cS V ad K nL Q pc lv st0 σ := wd_callV hC hw As (q := 0) (ci := 4) (by decide) rfl rfl hM hd hmx hn hst hsum hdg (fun _ _ h => by obtain ⟨rfl, h⟩ := h; exact k _ h)
theorem cv4l {V : wd_V} {ad : Nat → Nat} {K : wd_K} {own : String} {cc : ByteArray} {nL d : Nat} {ret : Option FieldType} {Q : State → Prop} {pc : Nat} {lv : List (Option Value)} {st st0 : List Value} {σ σ' : wd_S} {y : MethodName} {bytes : ByteArray} {maxL n index d' : Nat} {rt : Option FieldType} {As : List Value} {r : Int64}  (hC : wd_Ok cS V ad K own cc nL d ret) (hw : wd_wV own index RX4 y bytes maxL rt n) (hM : wd_C cS V ad d' y (Cond.code y bytes maxL rt :: wsL_law) σ (.ref (ad 0) :: As) (wd_eq (some (.long r)) σ')) (hdg : decode cc pc = .ok (.invokevirtual index, 3)) (hd : d' < d) (hmx : maxL ≤ 29) (hn : As.length = n) (hst : st0 = As.reverse ++ .ref (ad 0) :: st) (hsum : (st.map fun v => v.category).sum ≤ 8) (k : wd_G cS V ad K nL Q (pc + 3) lv (.long r :: st) σ')  : wd_G cS V ad K nL Q pc lv st0 σ := wd_callV hC hw As (q := 0) (ci := 4) (by decide) rfl rfl hM hd hmx hn hst hsum hdg (fun _ _ h => by obtain ⟨rfl, rfl⟩ := h; exact k)
theorem cv2i {V : wd_V} {ad : Nat → Nat} {K : wd_K} {own : String} {cc : ByteArray} {nL d : Nat} {ret : Option FieldType} {Q : State → Prop} {pc : Nat} {lv : List (Option Value)} {st st0 : List Value} {σ σ' : wd_S} {y : MethodName} {bytes : ByteArray} {maxL n index d' : Nat} {rt : Option FieldType} {As : List Value} {r : Int32}  (hC : wd_Ok cS V ad K own cc nL d ret) (hw : wd_wV own index RX2 y bytes maxL rt n) (hM : wd_C cS V ad d' y (Cond.code y bytes maxL rt :: wsL_law) σ (.ref (ad 1) :: As) (wd_eq (some (.int r)) σ')) (hdg : decode cc pc = .ok (.invokevirtual index, 3)) (hd : d' < d) (hmx : maxL ≤ 29) (hn : As.length = n) (hst : st0 = As.reverse ++ .ref (ad 1) :: st) (hsum : (st.map fun v => v.category).sum ≤ 8) (k : wd_G cS V ad K nL Q (pc + 3) lv (.int r :: st) σ')  : wd_G cS V ad K nL Q pc lv st0 σ := wd_callV hC hw As (q := 1) (ci := 2) (by decide) rfl rfl hM hd hmx hn hst hsum hdg (fun _ _ h => by obtain ⟨rfl, rfl⟩ := h; exact k)
theorem cv2iP {V : wd_V} {ad : Nat → Nat} {K : wd_K} {own : String} {cc : ByteArray} {nL d : Nat} {ret : Option FieldType} {Q : State → Prop} {pc : Nat} {lv : List (Option Value)} {st st0 : List Value} {σ : wd_S} {y : MethodName} {bytes : ByteArray} {maxL n index d' : Nat} {rt : Option FieldType} {As : List Value} {p : Int32 → wd_S → Prop}  (hC : wd_Ok cS V ad K own cc nL d ret) (hw : wd_wV own index RX2 y bytes maxL rt n) (hM : wd_C cS V ad d' y (Cond.code y bytes maxL rt :: wsL_law) σ (.ref (ad 1) :: As) (wd_pi p)) (hdg : decode cc pc = .ok (.invokevirtual index, 3)) (hd : d' < d) (hmx : maxL ≤ 29) (hn : As.length = n) (hst : st0 = As.reverse ++ .ref (ad 1) :: st) (hsum : (st.map fun v => v.category).sum ≤ 8) (k : ∀ (r : Int32) (σ' : wd_S), p r σ' → wd_G cS V ad K nL Q (pc + 3) lv (.int r :: st) σ')  : wd_G cS V ad K nL Q pc lv st0 σ := wd_callV hC hw As (q := 1) (ci := 2) (by decide) rfl rfl hM hd hmx hn hst hsum hdg (fun _ _ h => by obtain ⟨r, rfl, h⟩ := h; exact k r _ h)
theorem cv2v {V : wd_V} {ad : Nat → Nat} {K : wd_K} {own : String} {cc : ByteArray} {nL d : Nat} {ret : Option FieldType} {Q : State → Prop} {pc : Nat} {lv : List (Option Value)} {st st0 : List Value} {σ σ' : wd_S} {y : MethodName} {bytes : ByteArray} {maxL n index d' : Nat} {rt : Option FieldType} {As : List Value}   (hC : wd_Ok cS V ad K own cc nL d ret) (hw : wd_wV own index RX2 y bytes maxL rt n) (hM : wd_C cS V ad d' y (Cond.code y bytes maxL rt :: wsL_law) σ (.ref (ad 1) :: As) (wd_eq none σ')) (hdg : decode cc pc = .ok (.invokevirtual index, 3)) (hd : d' < d) (hmx : maxL ≤ 29) (hn : As.length = n) (hst : st0 = As.reverse ++ .ref (ad 1) :: st) (hsum : (st.map fun v => v.category).sum ≤ 8) (k : wd_G cS V ad K nL Q (pc + 3) lv st σ')  : wd_G cS V ad K nL Q pc lv st0 σ := wd_callV hC hw As (q := 1) (ci := 2) (by decide) rfl rfl hM hd hmx hn hst hsum hdg (fun _ _ h => by obtain ⟨rfl, rfl⟩ := h; exact k)
theorem cv2vP {V : wd_V} {ad : Nat → Nat} {K : wd_K} {own : String} {cc : ByteArray} {nL d : Nat} {ret : Option FieldType} {Q : State → Prop} {pc : Nat} {lv : List (Option Value)} {st st0 : List Value} {σ : wd_S} {y : MethodName} {bytes : ByteArray} {maxL n index d' : Nat} {rt : Option FieldType} {As : List Value} {p : wd_S → Prop}  (hC : wd_Ok cS V ad K own cc nL d ret) (hw : wd_wV own index RX2 y bytes maxL rt n) (hM : wd_C cS V ad d' y (Cond.code y bytes maxL rt :: wsL_law) σ (.ref (ad 1) :: As) (wd_pv p)) (hdg : decode cc pc = .ok (.invokevirtual index, 3)) (hd : d' < d) (hmx : maxL ≤ 29) (hn : As.length = n) (hst : st0 = As.reverse ++ .ref (ad 1) :: st) (hsum : (st.map fun v => v.category).sum ≤ 8) (k : ∀ (σ' : wd_S), p σ' → wd_G cS V ad K nL Q (pc + 3) lv st σ')  : wd_G cS V ad K nL Q pc lv st0 σ := wd_callV hC hw As (q := 1) (ci := 2) (by decide) rfl rfl hM hd hmx hn hst hsum hdg (fun _ _ h => by obtain ⟨rfl, h⟩ := h; exact k _ h)
theorem cv0v {V : wd_V} {ad : Nat → Nat} {K : wd_K} {own : String} {cc : ByteArray} {nL d : Nat} {ret : Option FieldType} {Q : State → Prop} {pc : Nat} {lv : List (Option Value)} {st st0 : List Value} {σ σ' : wd_S} {y : MethodName} {bytes : ByteArray} {maxL n index d' : Nat} {rt : Option FieldType} {As : List Value}   (hC : wd_Ok cS V ad K own cc nL d ret) (hw : wd_wV own index RX0 y bytes maxL rt n) (hM : wd_C cS V ad d' y (Cond.code y bytes maxL rt :: wsL_law) σ (.ref (ad 3) :: As) (wd_eq none σ')) (hdg : decode cc pc = .ok (.invokevirtual index, 3)) (hd : d' < d) (hmx : maxL ≤ 29) (hn : As.length = n) (hst : st0 = As.reverse ++ .ref (ad 3) :: st) (hsum : (st.map fun v => v.category).sum ≤ 8) (k : wd_G cS V ad K nL Q (pc + 3) lv st σ')  : wd_G cS V ad K nL Q pc lv st0 σ := wd_callV hC hw As (q := 3) (ci := 0) (by decide) rfl rfl hM hd hmx hn hst hsum hdg (fun _ _ h => by obtain ⟨rfl, rfl⟩ := h; exact k)
theorem cv0vP {V : wd_V} {ad : Nat → Nat} {K : wd_K} {own : String} {cc : ByteArray} {nL d : Nat} {ret : Option FieldType} {Q : State → Prop} {pc : Nat} {lv : List (Option Value)} {st st0 : List Value} {σ : wd_S} {y : MethodName} {bytes : ByteArray} {maxL n index d' : Nat} {rt : Option FieldType} {As : List Value} {p : wd_S → Prop}  (hC : wd_Ok cS V ad K own cc nL d ret) (hw : wd_wV own index RX0 y bytes maxL rt n) (hM : wd_C cS V ad d' y (Cond.code y bytes maxL rt :: wsL_law) σ (.ref (ad 3) :: As) (wd_pv p)) (hdg : decode cc pc = .ok (.invokevirtual index, 3)) (hd : d' < d) (hmx : maxL ≤ 29) (hn : As.length = n) (hst : st0 = As.reverse ++ .ref (ad 3) :: st) (hsum : (st.map fun v => v.category).sum ≤ 8) (k : ∀ (σ' : wd_S), p σ' → wd_G cS V ad K nL Q (pc + 3) lv st σ')  : wd_G cS V ad K nL Q pc lv st0 σ := wd_callV hC hw As (q := 3) (ci := 0) (by decide) rfl rfl hM hd hmx hn hst hsum hdg (fun _ _ h => by obtain ⟨rfl, h⟩ := h; exact k _ h)
theorem cv1v {V : wd_V} {ad : Nat → Nat} {K : wd_K} {own : String} {cc : ByteArray} {nL d : Nat} {ret : Option FieldType} {Q : State → Prop} {pc : Nat} {lv : List (Option Value)} {st st0 : List Value} {σ σ' : wd_S} {y : MethodName} {bytes : ByteArray} {maxL n index d' : Nat} {rt : Option FieldType} {As : List Value}  {j : Nat} (hC : wd_Ok cS V ad K own cc nL d ret) (hw : wd_wV own index RX1 y bytes maxL rt n) (hM : wd_C cS V ad d' y (Cond.code y bytes maxL rt :: wsL_law) σ (.ref (ad (cm j)) :: As) (wd_eq none σ')) (hdg : decode cc pc = .ok (.invokevirtual index, 3)) (hd : d' < d) (hmx : maxL ≤ 29) (hn : As.length = n) (hst : st0 = As.reverse ++ .ref (ad (cm j)) :: st) (hsum : (st.map fun v => v.category).sum ≤ 8) (k : wd_G cS V ad K nL Q (pc + 3) lv st σ') (hj : j < 14 := by omega) : wd_G cS V ad K nL Q pc lv st0 σ := wd_callV hC hw As (q := (cm j)) (ci := 1) (by show cm j < 120; unfold cm; omega) (cE_m j) rfl hM hd hmx hn hst hsum hdg (fun _ _ h => by obtain ⟨rfl, rfl⟩ := h; exact k)
theorem cv1vP {V : wd_V} {ad : Nat → Nat} {K : wd_K} {own : String} {cc : ByteArray} {nL d : Nat} {ret : Option FieldType} {Q : State → Prop} {pc : Nat} {lv : List (Option Value)} {st st0 : List Value} {σ : wd_S} {y : MethodName} {bytes : ByteArray} {maxL n index d' : Nat} {rt : Option FieldType} {As : List Value} {p : wd_S → Prop} {j : Nat} (hC : wd_Ok cS V ad K own cc nL d ret) (hw : wd_wV own index RX1 y bytes maxL rt n) (hM : wd_C cS V ad d' y (Cond.code y bytes maxL rt :: wsL_law) σ (.ref (ad (cm j)) :: As) (wd_pv p)) (hdg : decode cc pc = .ok (.invokevirtual index, 3)) (hd : d' < d) (hmx : maxL ≤ 29) (hn : As.length = n) (hst : st0 = As.reverse ++ .ref (ad (cm j)) :: st) (hsum : (st.map fun v => v.category).sum ≤ 8) (k : ∀ (σ' : wd_S), p σ' → wd_G cS V ad K nL Q (pc + 3) lv st σ') (hj : j < 14 := by omega) : wd_G cS V ad K nL Q pc lv st0 σ := wd_callV hC hw As (q := (cm j)) (ci := 1) (by show cm j < 120; unfold cm; omega) (cE_m j) rfl hM hd hmx hn hst hsum hdg (fun _ _ h => by obtain ⟨rfl, h⟩ := h; exact k _ h)
theorem cvsi {side : wd_Side} {V : wd_V} {ad : Nat → Nat} {K : wd_K} {own : String} {cc : ByteArray} {nL d : Nat} {ret : Option FieldType} {Q : State → Prop} {pc : Nat} {lv : List (Option Value)} {st st0 : List Value} {σ σ' : wd_S} {y : MethodName} {bytes : ByteArray} {maxL n index d' : Nat} {rt : Option FieldType} {As : List Value} {r : Int32}  (hC : wd_Ok side V ad K own cc nL d ret) (hw : wd_wS own index y bytes maxL rt n) (hM : wd_C side V ad d' y (Cond.code y bytes maxL rt :: wsL_law) σ As (wd_eq (some (.int r)) σ')) (hdg : decode cc pc = .ok (.invokestatic index, 3)) (hd : d' < d) (hmx : maxL ≤ 29) (hn : As.length = n) (hst : st0 = As.reverse ++ st) (hsum : (st.map fun v => v.category).sum ≤ 8) (k : wd_G side V ad K nL Q (pc + 3) lv (.int r :: st) σ') : wd_G side V ad K nL Q pc lv st0 σ := wd_callS hC hw As hM hd hmx hn hst hsum hdg (fun _ _ h => by obtain ⟨rfl, rfl⟩ := h; exact k)
theorem cvsiP {side : wd_Side} {V : wd_V} {ad : Nat → Nat} {K : wd_K} {own : String} {cc : ByteArray} {nL d : Nat} {ret : Option FieldType} {Q : State → Prop} {pc : Nat} {lv : List (Option Value)} {st st0 : List Value} {σ : wd_S} {y : MethodName} {bytes : ByteArray} {maxL n index d' : Nat} {rt : Option FieldType} {As : List Value} {p : Int32 → wd_S → Prop}  (hC : wd_Ok side V ad K own cc nL d ret) (hw : wd_wS own index y bytes maxL rt n) (hM : wd_C side V ad d' y (Cond.code y bytes maxL rt :: wsL_law) σ As (wd_pi p)) (hdg : decode cc pc = .ok (.invokestatic index, 3)) (hd : d' < d) (hmx : maxL ≤ 29) (hn : As.length = n) (hst : st0 = As.reverse ++ st) (hsum : (st.map fun v => v.category).sum ≤ 8) (k : ∀ (r : Int32) (σ' : wd_S), p r σ' → wd_G side V ad K nL Q (pc + 3) lv (.int r :: st) σ') : wd_G side V ad K nL Q pc lv st0 σ := wd_callS hC hw As hM hd hmx hn hst hsum hdg (fun _ _ h => by obtain ⟨r, rfl, h⟩ := h; exact k r _ h)
theorem cvsv {side : wd_Side} {V : wd_V} {ad : Nat → Nat} {K : wd_K} {own : String} {cc : ByteArray} {nL d : Nat} {ret : Option FieldType} {Q : State → Prop} {pc : Nat} {lv : List (Option Value)} {st st0 : List Value} {σ σ' : wd_S} {y : MethodName} {bytes : ByteArray} {maxL n index d' : Nat} {rt : Option FieldType} {As : List Value}   (hC : wd_Ok side V ad K own cc nL d ret) (hw : wd_wS own index y bytes maxL rt n) (hM : wd_C side V ad d' y (Cond.code y bytes maxL rt :: wsL_law) σ As (wd_eq none σ')) (hdg : decode cc pc = .ok (.invokestatic index, 3)) (hd : d' < d) (hmx : maxL ≤ 29) (hn : As.length = n) (hst : st0 = As.reverse ++ st) (hsum : (st.map fun v => v.category).sum ≤ 8) (k : wd_G side V ad K nL Q (pc + 3) lv st σ') : wd_G side V ad K nL Q pc lv st0 σ := wd_callS hC hw As hM hd hmx hn hst hsum hdg (fun _ _ h => by obtain ⟨rfl, rfl⟩ := h; exact k)
theorem cvsvP {side : wd_Side} {V : wd_V} {ad : Nat → Nat} {K : wd_K} {own : String} {cc : ByteArray} {nL d : Nat} {ret : Option FieldType} {Q : State → Prop} {pc : Nat} {lv : List (Option Value)} {st st0 : List Value} {σ : wd_S} {y : MethodName} {bytes : ByteArray} {maxL n index d' : Nat} {rt : Option FieldType} {As : List Value} {p : wd_S → Prop}  (hC : wd_Ok side V ad K own cc nL d ret) (hw : wd_wS own index y bytes maxL rt n) (hM : wd_C side V ad d' y (Cond.code y bytes maxL rt :: wsL_law) σ As (wd_pv p)) (hdg : decode cc pc = .ok (.invokestatic index, 3)) (hd : d' < d) (hmx : maxL ≤ 29) (hn : As.length = n) (hst : st0 = As.reverse ++ st) (hsum : (st.map fun v => v.category).sum ≤ 8) (k : ∀ (σ' : wd_S), p σ' → wd_G side V ad K nL Q (pc + 3) lv st σ') : wd_G side V ad K nL Q pc lv st0 σ := wd_callS hC hw As hM hd hmx hn hst hsum hdg (fun _ _ h => by obtain ⟨rfl, h⟩ := h; exact k _ h)
end
section
/-! ===== the class's numbers ===== -/
/-- what is told, a moment: as rows -/
def tv (σ : wd_S) : Nat → Nat → Int32 := fun k i => if k < 13 then σ.1 (ct σ.2.2 + k) i else 0
def mv (σ : wd_S) (j : Nat) : Nat → Nat → Int32 := fun k i => if k < 6 then σ.1 (cm j + k) i else 0
abbrev tMen (T : Nat → Nat → Int32) : Int32 := T 0 3
abbrev tCrops (T : Nat → Nat → Int32) : Int32 := T 0 0
abbrev nSown (M : Nat → Nat → Int32) (m : Nat) : Nat := (M 1 m).toNatClampNeg
abbrev nFac (M : Nat → Nat → Int32) (m : Nat) : Nat := (M 2 m).toNatClampNeg
def imin (x y : Int32) : Int32 := if y < x then y else x
def imax (x y : Int32) : Int32 := if x < y then y else x
theorem ne0_of {x : Int32} (h : 1 ≤ x) : ¬ x = 0 := by
  rintro rfl
  exact absurd h (by decide)
theorem ix_of {x : Int32} {n : Nat} (h0 : 0 ≤ x) (h : x < nI n) (hn : n < 2 ^ 31) : x = nI x.toNatClampNeg ∧ x.toNatClampNeg < n := by
  rcases pk_ix x hn with h1 | h1 | ⟨j, hj, rfl⟩
  · exact absurd h0 (Int32.not_le.mpr h1)
  · exact absurd h (Int32.not_lt.mpr h1)
  · rw [nI_clamp (by omega)]
    exact ⟨rfl, hj⟩
theorem i_nlt {x y : Int32} (h : x < y) : ¬ y ≤ x := Int32.not_le.mpr h
theorem i_nle {x y : Int32} (h : ¬ x ≤ y) : y < x := Int32.not_le.mp h
theorem i_le {x y : Int32} (h : ¬ x < y) : y ≤ x := Int32.not_lt.mp h
abbrev pMan (T : Nat → Nat → Int32) (m : Int32) : Prop := 0 ≤ m ∧ m < tMen T
abbrev pCrop (T : Nat → Nat → Int32) (c : Int32) : Prop := 0 ≤ c ∧ c < tCrops T
abbrev pBelow (x y : Int32) : Prop := 0 ≤ x ∧ x < y
abbrev pStor (v : Int32) : Prop := (-9999) ≤ v ∧ v ≤ 9999
/-- a moment whose indices stay in their rows -/
def mOk (M : Nat → Nat → Int32) : Prop := ∀ m, m < 6 → (0 ≤ M 1 m ∧ M 1 m < nI 3) ∧ M 2 m < nI 6
theorem mOk.s {M : Nat → Nat → Int32} {m : Nat} (h : mOk M) (hm : m < 6) : M 1 m = nI (nSown M m) := (ix_of (h m hm).1.1 (h m hm).1.2 (by decide)).1
theorem mOk.s3 {M : Nat → Nat → Int32} {m : Nat} (h : mOk M) (hm : m < 6) : nSown M m < 3 := (ix_of (h m hm).1.1 (h m hm).1.2 (by decide)).2
theorem mOk.f {M : Nat → Nat → Int32} {m : Nat} (h : mOk M) (hm : m < 6) (h0 : 0 ≤ M 2 m) : M 2 m = nI (nFac M m) := (ix_of h0 (h m hm).2 (by decide)).1
theorem mOk.f6 {M : Nat → Nat → Int32} {m : Nat} (h : mOk M) (hm : m < 6) (h0 : 0 ≤ M 2 m) : nFac M m < 6 := (ix_of h0 (h m hm).2 (by decide)).2
/-- what one carries, takes, keeps, has: by what is told (T: 0 counts, 1 weight, 2 worth, 3 strong, 4 legs, 5 needs, 7 + m yields) and a moment (M: 1 sown, 2 facing, 3 ropes, 4 mules, 5 stored, 0 rain and years) -/
def wCarry (T M : Nat → Nat → Int32) (m c : Nat) : Int32 := if 1 ≤ T 1 c + M 0 5 then (if M 4 m = 1 then 2 * T 4 m else T 4 m) * ((T 3 m + 3 * M 3 m) / (T 1 c + M 0 5)) else 0
def wTakenIf (T M : Nat → Nat → Int32) (m c : Nat) : Int32 := if 0 ≤ M 2 m then imin (wCarry T M m c) (T (7 + nFac M m) c) else 0
def wTaken (T M : Nat → Nat → Int32) (m : Nat) : Int32 := if 0 ≤ M 2 m then wTakenIf T M m (nSown M (nFac M m)) else 0
def wKept (T M : Nat → Nat → Int32) (m : Nat) : Int32 := if 0 ≤ M 2 m then T (7 + m) (nSown M m) - wTakenIf T M (nFac M m) (nSown M m) else T (7 + m) (nSown M m)
def wHas (T M : Nat → Nat → Int32) (m : Nat) : Int32 := if 0 ≤ M 2 m then (T (7 + m) (nSown M m) - wTakenIf T M (nFac M m) (nSown M m)) * T 2 (nSown M m) + wTakenIf T M m (nSown M (nFac M m)) * T 2 (nSown M (nFac M m)) else T (7 + m) (nSown M m) * T 2 (nSown M m)
def wGain (T M : Nat → Nat → Int32) (m : Nat) : Int32 := wHas T M m - T 5 m
theorem tv_y (σ : wd_S) {m : Nat} (hm : m < 6) (c : Nat) : tv σ (7 + m) c = σ.1 (ct σ.2.2 + (7 + m)) c := if_pos (by omega)

set_option maxRecDepth 100000 in
set_option maxHeartbeats 4000000 in
theorem c_isBelow {V : wd_V} {ad : Nat → Nat} (hinj : wd_inj cS ad) (σ : wd_S) (x y : Int32) : wd_C cS V ad 0 yX4_isBelow (Cond.code yX4_isBelow cX4_isBelow 2 (some .boolean) :: wsL_law) σ [.int x, .int y] (wd_eq (some (.int (bI (pBelow x y)))) (σ)) := by
  refine wd_intro (lv := [some (.int x), some (.int y)]) hinj (by decide) rfl (Nat.le_of_ble_eq_true rfl) rfl (Nat.le_of_ble_eq_true rfl) (fun K hC => ?_)
  refine wd_iload_n hC dX4_isBelow_0 rfl rfl ?_
  refine wd_if_lt (tgt := 13) hC dX4_isBelow_1 (by decide) (fun c_1 => ?_) (fun c_1 => ?_)
  · refine wd_iconst (v := 0) hC dX4_isBelow_13 rfl ?_
    exact wd_zret hC rfl rfl dX4_isBelow_14 (by first | exact bI_t ⟨i_le c_1, i_nle c_6⟩ | exact bI_f (fun h => i_nlt c_1 h.1) | exact bI_f (fun h => i_nlt h.2 c_6)) rfl
  · refine wd_iload_n hC dX4_isBelow_4 rfl rfl ?_
    refine wd_iload_n hC dX4_isBelow_5 rfl rfl ?_
    refine wd_icmp_ge (tgt := 13) hC dX4_isBelow_6 (by decide) (fun c_6 => ?_) (fun c_6 => ?_)
    · refine wd_iconst (v := 0) hC dX4_isBelow_13 rfl ?_
      exact wd_zret hC rfl rfl dX4_isBelow_14 (by first | exact bI_t ⟨i_le c_1, i_nle c_6⟩ | exact bI_f (fun h => i_nlt c_1 h.1) | exact bI_f (fun h => i_nlt h.2 c_6)) rfl
    · refine wd_iconst (v := 1) hC dX4_isBelow_9 rfl ?_
      refine wd_goto (tgt := 14) hC dX4_isBelow_10 (by decide) ?_
      exact wd_zret hC rfl rfl dX4_isBelow_14 (by first | exact bI_t ⟨i_le c_1, i_nle c_6⟩ | exact bI_f (fun h => i_nlt c_1 h.1) | exact bI_f (fun h => i_nlt h.2 c_6)) rfl
set_option maxRecDepth 100000 in
set_option maxHeartbeats 4000000 in
theorem c_isMan {V : wd_V} {ad : Nat → Nat} (hinj : wd_inj cS ad) (σ : wd_S) (ht : σ.2.2 < 2) (x : Int32) : wd_C cS V ad 1 yX4_isMan (Cond.code yX4_isMan cX4_isMan 2 (some .boolean) :: wsL_law) σ [.ref (ad 0), .int x] (wd_eq (some (.int (bI (pMan (tv σ) x)))) (σ)) := by
  refine wd_intro (lv := [some (.ref (ad 0)), some (.int x)]) hinj (by decide) rfl (Nat.le_of_ble_eq_true rfl) rfl (Nat.le_of_ble_eq_true rfl) (fun K hC => ?_)
  refine wd_iload_n hC dX4_isMan_0 rfl rfl ?_
  refine wd_aload_n hC dX4_isMan_1 rfl rfl ?_
  refine gf_X4_19 hC dX4_isMan_2 ?_
  refine gf_X4_76 hC dX4_isMan_5 ?_
  refine cvsi hC cw_X4_155 (c_isBelow hinj _ _ _) dX4_isMan_8 (by decide) (by decide) rfl rfl (Nat.le_of_ble_eq_true rfl) ?_
  exact wd_zret hC rfl bI_n dX4_isMan_11 rfl rfl
set_option maxRecDepth 100000 in
set_option maxHeartbeats 4000000 in
theorem c_isCrop {V : wd_V} {ad : Nat → Nat} (hinj : wd_inj cS ad) (σ : wd_S) (ht : σ.2.2 < 2) (x : Int32) : wd_C cS V ad 1 yX4_isCrop (Cond.code yX4_isCrop cX4_isCrop 2 (some .boolean) :: wsL_law) σ [.ref (ad 0), .int x] (wd_eq (some (.int (bI (pCrop (tv σ) x)))) (σ)) := by
  refine wd_intro (lv := [some (.ref (ad 0)), some (.int x)]) hinj (by decide) rfl (Nat.le_of_ble_eq_true rfl) rfl (Nat.le_of_ble_eq_true rfl) (fun K hC => ?_)
  refine wd_iload_n hC dX4_isCrop_0 rfl rfl ?_
  refine wd_aload_n hC dX4_isCrop_1 rfl rfl ?_
  refine gf_X4_19 hC dX4_isCrop_2 ?_
  refine gf_X4_176 hC dX4_isCrop_5 ?_
  refine cvsi hC cw_X4_155 (c_isBelow hinj _ _ _) dX4_isCrop_8 (by decide) (by decide) rfl rfl (Nat.le_of_ble_eq_true rfl) ?_
  exact wd_zret hC rfl bI_n dX4_isCrop_11 rfl rfl
set_option maxRecDepth 100000 in
set_option maxHeartbeats 4000000 in
theorem c_isStorable {V : wd_V} {ad : Nat → Nat} (hinj : wd_inj cS ad) (σ : wd_S) (x : Int32) : wd_C cS V ad 0 yX4_isStorable (Cond.code yX4_isStorable cX4_isStorable 1 (some .boolean) :: wsL_law) σ [.int x] (wd_eq (some (.int (bI (pStor x)))) (σ)) := by
  refine wd_intro (lv := [some (.int x)]) hinj (by decide) rfl (Nat.le_of_ble_eq_true rfl) rfl (Nat.le_of_ble_eq_true rfl) (fun K hC => ?_)
  refine wd_iload_n hC dX4_isStorable_0 rfl rfl ?_
  refine wd_sipush (v := -9999) hC dX4_isStorable_1 rfl ?_
  refine wd_icmp_lt (tgt := 18) hC dX4_isStorable_4 (by decide) (fun c_4 => ?_) (fun c_4 => ?_)
  · refine wd_iconst (v := 0) hC dX4_isStorable_18 rfl ?_
    exact wd_zret hC rfl rfl dX4_isStorable_19 (by first | exact bI_t ⟨i_le c_4, i_le c_11⟩ | exact bI_f (fun h => i_nlt c_4 h.1) | exact bI_f (fun h => i_nlt c_11 h.2)) rfl
  · refine wd_iload_n hC dX4_isStorable_7 rfl rfl ?_
    refine wd_sipush (v := 9999) hC dX4_isStorable_8 rfl ?_
    refine wd_icmp_gt (tgt := 18) hC dX4_isStorable_11 (by decide) (fun c_11 => ?_) (fun c_11 => ?_)
    · refine wd_iconst (v := 0) hC dX4_isStorable_18 rfl ?_
      exact wd_zret hC rfl rfl dX4_isStorable_19 (by first | exact bI_t ⟨i_le c_4, i_le c_11⟩ | exact bI_f (fun h => i_nlt c_4 h.1) | exact bI_f (fun h => i_nlt c_11 h.2)) rfl
    · refine wd_iconst (v := 1) hC dX4_isStorable_14 rfl ?_
      refine wd_goto (tgt := 19) hC dX4_isStorable_15 (by decide) ?_
      exact wd_zret hC rfl rfl dX4_isStorable_19 (by first | exact bI_t ⟨i_le c_4, i_le c_11⟩ | exact bI_f (fun h => i_nlt c_4 h.1) | exact bI_f (fun h => i_nlt c_11 h.2)) rfl
set_option maxRecDepth 100000 in
set_option maxHeartbeats 4000000 in
theorem c_carriedBy {V : wd_V} {ad : Nat → Nat} (hinj : wd_inj cS ad) (σ : wd_S) (ht : σ.2.2 < 2) (j : Nat) (hj : j < 14) (x y : Int32) (m c : Nat) (hx : x = nI m) (hy : y = nI c) (hm : m < 6) (hc : c < 3) : wd_C cS V ad 0 yX4_carriedBy (Cond.code yX4_carriedBy cX4_carriedBy 7 (some .int) :: wsL_law) σ [.ref (ad 0), .ref (ad (cm j)), .int x, .int y] (wd_eq (some (.int (wCarry (tv σ) (mv σ j) m c))) (σ)) := by
  refine wd_intro (lv := [some (.ref (ad 0)), some (.ref (ad (cm j))), some (.int x), some (.int y), none, none, none]) hinj (by decide) rfl (Nat.le_of_ble_eq_true rfl) rfl (Nat.le_of_ble_eq_true rfl) (fun K hC => ?_)
  refine wd_aload_n hC dX4_carriedBy_0 rfl rfl ?_
  refine gf_X4_19 hC dX4_carriedBy_1 ?_
  refine gf_X4_245 hC dX4_carriedBy_4 ?_
  refine wd_iload_n hC dX4_carriedBy_7 rfl rfl ?_
  refine ld_w hC dX4_carriedBy_8 (c) hy (by omega) ?_
  refine wd_aload_n hC dX4_carriedBy_9 rfl rfl ?_
  refine gf_X4_138 hC dX4_carriedBy_10 ?_
  refine wd_iadd hC dX4_carriedBy_13 ?_
  refine wd_istore_7_4 hC dX4_carriedBy_14 ?_
  refine wd_iload hC dX4_carriedBy_16 rfl ?_
  refine wd_iconst (v := 1) hC dX4_carriedBy_18 rfl ?_
  refine wd_icmp_ge (tgt := 24) hC dX4_carriedBy_19 (by decide) (fun c_19 => ?_) (fun c_19 => ?_)
  · refine wd_aload_n hC dX4_carriedBy_24 rfl rfl ?_
    refine gf_X4_107 hC dX4_carriedBy_25 ?_
    refine wd_iload_n hC dX4_carriedBy_28 rfl rfl ?_
    refine ld_m hC dX4_carriedBy_29 (m) hx (by omega) ?_
    refine wd_iconst (v := 1) hC dX4_carriedBy_30 rfl ?_
    refine wd_icmp_ne (tgt := 48) hC dX4_carriedBy_31 (by decide) (fun c_31 => ?_) (fun c_31 => ?_)
    · refine wd_aload_n hC dX4_carriedBy_48 rfl rfl ?_
      refine gf_X4_19 hC dX4_carriedBy_49 ?_
      refine gf_X4_92 hC dX4_carriedBy_52 ?_
      refine wd_iload_n hC dX4_carriedBy_55 rfl rfl ?_
      refine ld_s hC dX4_carriedBy_56 (m) hx (by omega) ?_
      refine wd_istore_7_5 hC dX4_carriedBy_57 ?_
      refine wd_aload_n hC dX4_carriedBy_59 rfl rfl ?_
      refine gf_X4_19 hC dX4_carriedBy_60 ?_
      refine gf_X4_89 hC dX4_carriedBy_63 ?_
      refine wd_iload_n hC dX4_carriedBy_66 rfl rfl ?_
      refine ld_s hC dX4_carriedBy_67 (m) hx (by omega) ?_
      refine wd_iconst (v := 3) hC dX4_carriedBy_68 rfl ?_
      refine wd_aload_n hC dX4_carriedBy_69 rfl rfl ?_
      refine gf_X4_104 hC dX4_carriedBy_70 ?_
      refine wd_iload_n hC dX4_carriedBy_73 rfl rfl ?_
      refine ld_m hC dX4_carriedBy_74 (m) hx (by omega) ?_
      refine wd_imul hC dX4_carriedBy_75 ?_
      refine wd_iadd hC dX4_carriedBy_76 ?_
      refine wd_istore_7_6 hC dX4_carriedBy_77 ?_
      refine wd_iload hC dX4_carriedBy_79 rfl ?_
      refine wd_iload hC dX4_carriedBy_81 rfl ?_
      refine wd_iload hC dX4_carriedBy_83 rfl ?_
      refine wd_idiv hC dX4_carriedBy_85 (ne0_of c_19) ?_
      refine wd_imul hC dX4_carriedBy_86 ?_
      exact wd_iret hC rfl dX4_carriedBy_87 (by rw [wCarry]; refine Eq.trans ?_ (if_pos c_19).symm; first | exact congrArg (· * _) (if_pos c_31).symm | exact congrArg (· * _) (if_neg c_31).symm) rfl
    · refine wd_iconst (v := 2) hC dX4_carriedBy_34 rfl ?_
      refine wd_aload_n hC dX4_carriedBy_35 rfl rfl ?_
      refine gf_X4_19 hC dX4_carriedBy_36 ?_
      refine gf_X4_92 hC dX4_carriedBy_39 ?_
      refine wd_iload_n hC dX4_carriedBy_42 rfl rfl ?_
      refine ld_s hC dX4_carriedBy_43 (m) hx (by omega) ?_
      refine wd_imul hC dX4_carriedBy_44 ?_
      refine wd_goto (tgt := 57) hC dX4_carriedBy_45 (by decide) ?_
      refine wd_istore_7_5 hC dX4_carriedBy_57 ?_
      refine wd_aload_n hC dX4_carriedBy_59 rfl rfl ?_
      refine gf_X4_19 hC dX4_carriedBy_60 ?_
      refine gf_X4_89 hC dX4_carriedBy_63 ?_
      refine wd_iload_n hC dX4_carriedBy_66 rfl rfl ?_
      refine ld_s hC dX4_carriedBy_67 (m) hx (by omega) ?_
      refine wd_iconst (v := 3) hC dX4_carriedBy_68 rfl ?_
      refine wd_aload_n hC dX4_carriedBy_69 rfl rfl ?_
      refine gf_X4_104 hC dX4_carriedBy_70 ?_
      refine wd_iload_n hC dX4_carriedBy_73 rfl rfl ?_
      refine ld_m hC dX4_carriedBy_74 (m) hx (by omega) ?_
      refine wd_imul hC dX4_carriedBy_75 ?_
      refine wd_iadd hC dX4_carriedBy_76 ?_
      refine wd_istore_7_6 hC dX4_carriedBy_77 ?_
      refine wd_iload hC dX4_carriedBy_79 rfl ?_
      refine wd_iload hC dX4_carriedBy_81 rfl ?_
      refine wd_iload hC dX4_carriedBy_83 rfl ?_
      refine wd_idiv hC dX4_carriedBy_85 (ne0_of c_19) ?_
      refine wd_imul hC dX4_carriedBy_86 ?_
      exact wd_iret hC rfl dX4_carriedBy_87 (by rw [wCarry]; refine Eq.trans ?_ (if_pos c_19).symm; first | exact congrArg (· * _) (if_pos c_31).symm | exact congrArg (· * _) (if_neg c_31).symm) rfl
  · refine wd_iconst (v := 0) hC dX4_carriedBy_22 rfl ?_
    exact wd_iret hC rfl dX4_carriedBy_23 (if_neg c_19).symm rfl
end
section
/-! ===== the class: what one takes, keeps, has ===== -/
set_option maxRecDepth 100000 in
set_option maxHeartbeats 4000000 in
theorem c_takenIf {V : wd_V} {ad : Nat → Nat} (hinj : wd_inj cS ad) (σ : wd_S) (ht : σ.2.2 < 2) (j : Nat) (hj : j < 14) (x y : Int32) (m c : Nat) (hx : x = nI m) (hy : y = nI c) (hm : m < 6) (hc : c < 3) (hM : mOk (mv σ j)) : wd_C cS V ad 1 yX4_takenIf (Cond.code yX4_takenIf cX4_takenIf 5 (some .int) :: wsL_law) σ [.ref (ad 0), .ref (ad (cm j)), .int x, .int y] (wd_eq (some (.int (wTakenIf (tv σ) (mv σ j) m c))) (σ)) := by
  refine wd_intro (lv := [some (.ref (ad 0)), some (.ref (ad (cm j))), some (.int x), some (.int y), none]) hinj (by decide) rfl (Nat.le_of_ble_eq_true rfl) rfl (Nat.le_of_ble_eq_true rfl) (fun K hC => ?_)
  refine wd_aload_n hC dX4_takenIf_0 rfl rfl ?_
  refine gf_X4_101 hC dX4_takenIf_1 ?_
  refine wd_iload_n hC dX4_takenIf_4 rfl rfl ?_
  refine ld_m hC dX4_takenIf_5 (m) hx (by omega) ?_
  refine wd_istore_5_4 hC dX4_takenIf_6 ?_
  refine wd_iload hC dX4_takenIf_8 rfl ?_
  refine wd_if_ge (tgt := 15) hC dX4_takenIf_10 (by decide) (fun c_10 => ?_) (fun c_10 => ?_)
  · refine wd_aload_n hC dX4_takenIf_15 rfl rfl ?_
    refine wd_aload_n hC dX4_takenIf_16 rfl rfl ?_
    refine wd_iload_n hC dX4_takenIf_17 rfl rfl ?_
    refine wd_iload_n hC dX4_takenIf_18 rfl rfl ?_
    refine cv4i hC cw_X4_117 (c_carriedBy hinj _ ht j hj x y m c hx hy hm hc) dX4_takenIf_19 (by decide) (by decide) rfl rfl (Nat.le_of_ble_eq_true rfl) ?_
    refine wd_aload_n hC dX4_takenIf_22 rfl rfl ?_
    refine gf_X4_19 hC dX4_takenIf_23 ?_
    refine gf_X4_113 hC dX4_takenIf_26 ?_
    refine wd_iload hC dX4_takenIf_29 rfl ?_
    refine ld_y hC dX4_takenIf_31 (nFac (mv σ j) m) (hM.f hm c_10) (hM.f6 hm c_10) ?_
    refine wd_iload_n hC dX4_takenIf_32 rfl rfl ?_
    have h6 := hM.f6 hm c_10
    refine ld_r hC dX4_takenIf_33 (c) hy (by omega) ?_
    refine wd_mmin hC (wL_12 _ (List.mem_of_getElem? (i := 20) rfl)) (wL_7 _ (List.mem_of_getElem? (i := 0) rfl)) (wL_7 _ (List.mem_of_getElem? (i := 1) rfl)) (wL_7 _ (List.mem_of_getElem? (i := 2) rfl)) (by decide) (Nat.le_of_ble_eq_true rfl) dX4_takenIf_34 ?_
    exact wd_iret hC rfl dX4_takenIf_37 (by refine Eq.trans ?_ (if_pos c_10).symm; rw [tv_y _ (hM.f6 hm c_10)]; rfl) rfl
  · refine wd_iconst (v := 0) hC dX4_takenIf_13 rfl ?_
    exact wd_iret hC rfl dX4_takenIf_14 (if_neg c_10).symm rfl
set_option maxRecDepth 100000 in
set_option maxHeartbeats 4000000 in
theorem c_takenBy {V : wd_V} {ad : Nat → Nat} (hinj : wd_inj cS ad) (σ : wd_S) (ht : σ.2.2 < 2) (j : Nat) (hj : j < 14) (x : Int32) (m : Nat) (hx : x = nI m) (hm : m < 6) (hM : mOk (mv σ j)) : wd_C cS V ad 2 yX4_takenBy (Cond.code yX4_takenBy cX4_takenBy 4 (some .int) :: wsL_law) σ [.ref (ad 0), .ref (ad (cm j)), .int x] (wd_eq (some (.int (wTaken (tv σ) (mv σ j) m))) (σ)) := by
  refine wd_intro (lv := [some (.ref (ad 0)), some (.ref (ad (cm j))), some (.int x), none]) hinj (by decide) rfl (Nat.le_of_ble_eq_true rfl) rfl (Nat.le_of_ble_eq_true rfl) (fun K hC => ?_)
  refine wd_aload_n hC dX4_takenBy_0 rfl rfl ?_
  refine gf_X4_101 hC dX4_takenBy_1 ?_
  refine wd_iload_n hC dX4_takenBy_4 rfl rfl ?_
  refine ld_m hC dX4_takenBy_5 (m) hx (by omega) ?_
  refine wd_istore_n_4_3 hC dX4_takenBy_6 ?_
  refine wd_iload_n hC dX4_takenBy_7 rfl rfl ?_
  refine wd_if_ge (tgt := 15) hC dX4_takenBy_8 (by decide) (fun c_8 => ?_) (fun c_8 => ?_)
  · refine wd_aload_n hC dX4_takenBy_15 rfl rfl ?_
    refine wd_aload_n hC dX4_takenBy_16 rfl rfl ?_
    refine wd_iload_n hC dX4_takenBy_17 rfl rfl ?_
    refine wd_aload_n hC dX4_takenBy_18 rfl rfl ?_
    refine gf_X4_98 hC dX4_takenBy_19 ?_
    refine wd_iload_n hC dX4_takenBy_22 rfl rfl ?_
    refine ld_m hC dX4_takenBy_23 (nFac (mv σ j) m) (hM.f hm c_8) (hM.f6 hm c_8) ?_
    refine cv4i hC cw_X4_202 (c_takenIf hinj _ ht j hj x _ m _ hx (hM.s (hM.f6 hm c_8)) hm (hM.s3 (hM.f6 hm c_8)) hM) dX4_takenBy_24 (by decide) (by decide) rfl rfl (Nat.le_of_ble_eq_true rfl) ?_
    exact wd_iret hC rfl dX4_takenBy_27 (by first | exact (if_pos c_8).symm | exact (if_neg c_8).symm) rfl
  · refine wd_iconst (v := 0) hC dX4_takenBy_11 rfl ?_
    refine wd_goto (tgt := 27) hC dX4_takenBy_12 (by decide) ?_
    exact wd_iret hC rfl dX4_takenBy_27 (by first | exact (if_pos c_8).symm | exact (if_neg c_8).symm) rfl
set_option maxRecDepth 100000 in
set_option maxHeartbeats 4000000 in
theorem c_keptBy {V : wd_V} {ad : Nat → Nat} (hinj : wd_inj cS ad) (σ : wd_S) (ht : σ.2.2 < 2) (j : Nat) (hj : j < 14) (x : Int32) (m : Nat) (hx : x = nI m) (hm : m < 6) (hM : mOk (mv σ j)) : wd_C cS V ad 2 yX4_keptBy (Cond.code yX4_keptBy cX4_keptBy 5 (some .int) :: wsL_law) σ [.ref (ad 0), .ref (ad (cm j)), .int x] (wd_eq (some (.int (wKept (tv σ) (mv σ j) m))) (σ)) := by
  refine wd_intro (lv := [some (.ref (ad 0)), some (.ref (ad (cm j))), some (.int x), none, none]) hinj (by decide) rfl (Nat.le_of_ble_eq_true rfl) rfl (Nat.le_of_ble_eq_true rfl) (fun K hC => ?_)
  refine wd_aload_n hC dX4_keptBy_0 rfl rfl ?_
  refine gf_X4_101 hC dX4_keptBy_1 ?_
  refine wd_iload_n hC dX4_keptBy_4 rfl rfl ?_
  refine ld_m hC dX4_keptBy_5 (m) hx (by omega) ?_
  refine wd_istore_n_5_3 hC dX4_keptBy_6 ?_
  refine wd_aload_n hC dX4_keptBy_7 rfl rfl ?_
  refine gf_X4_19 hC dX4_keptBy_8 ?_
  refine gf_X4_113 hC dX4_keptBy_11 ?_
  refine wd_iload_n hC dX4_keptBy_14 rfl rfl ?_
  refine ld_y hC dX4_keptBy_15 (m) hx (by omega) ?_
  refine wd_aload_n hC dX4_keptBy_16 rfl rfl ?_
  refine gf_X4_98 hC dX4_keptBy_17 ?_
  refine wd_iload_n hC dX4_keptBy_20 rfl rfl ?_
  refine ld_m hC dX4_keptBy_21 (m) hx (by omega) ?_
  refine ld_r hC dX4_keptBy_22 (nSown (mv σ j) m) (hM.s hm) (hM.s3 hm) ?_
  refine wd_istore_5_4 hC dX4_keptBy_23 ?_
  refine wd_iload_n hC dX4_keptBy_25 rfl rfl ?_
  refine wd_if_ge (tgt := 34) hC dX4_keptBy_26 (by decide) (fun c_26 => ?_) (fun c_26 => ?_)
  · refine wd_iload hC dX4_keptBy_34 rfl ?_
    refine wd_aload_n hC dX4_keptBy_36 rfl rfl ?_
    refine wd_aload_n hC dX4_keptBy_37 rfl rfl ?_
    refine wd_iload_n hC dX4_keptBy_38 rfl rfl ?_
    refine wd_aload_n hC dX4_keptBy_39 rfl rfl ?_
    refine gf_X4_98 hC dX4_keptBy_40 ?_
    refine wd_iload_n hC dX4_keptBy_43 rfl rfl ?_
    refine ld_m hC dX4_keptBy_44 (m) hx (by omega) ?_
    refine cv4i hC cw_X4_202 (c_takenIf hinj _ ht j hj _ _ _ _ (hM.f hm c_26) (hM.s hm) (hM.f6 hm c_26) (hM.s3 hm) hM) dX4_keptBy_45 (by decide) (by decide) rfl rfl (Nat.le_of_ble_eq_true rfl) ?_
    refine wd_isub hC dX4_keptBy_48 ?_
    exact wd_iret hC rfl dX4_keptBy_49 (by first | (refine Eq.trans ?_ (if_pos c_26).symm; rw [tv_y _ hm]; done) | (refine Eq.trans ?_ (if_neg c_26).symm; rw [tv_y _ hm])) rfl
  · refine wd_iload hC dX4_keptBy_29 rfl ?_
    refine wd_goto (tgt := 49) hC dX4_keptBy_31 (by decide) ?_
    exact wd_iret hC rfl dX4_keptBy_49 (by first | (refine Eq.trans ?_ (if_pos c_26).symm; rw [tv_y _ hm]; done) | (refine Eq.trans ?_ (if_neg c_26).symm; rw [tv_y _ hm])) rfl
set_option maxRecDepth 100000 in
set_option maxHeartbeats 4000000 in
theorem c_wealthOf {V : wd_V} {ad : Nat → Nat} (hinj : wd_inj cS ad) (σ : wd_S) (ht : σ.2.2 < 2) (j : Nat) (hj : j < 14) (x : Int32) (m : Nat) (hx : x = nI m) (hm : m < 6) (hM : mOk (mv σ j)) : wd_C cS V ad 2 yX4_wealthOf (Cond.code yX4_wealthOf cX4_wealthOf 7 (some .int) :: wsL_law) σ [.ref (ad 0), .ref (ad (cm j)), .int x] (wd_eq (some (.int (wHas (tv σ) (mv σ j) m))) (σ)) := by
  refine wd_intro (lv := [some (.ref (ad 0)), some (.ref (ad (cm j))), some (.int x), none, none, none, none]) hinj (by decide) rfl (Nat.le_of_ble_eq_true rfl) rfl (Nat.le_of_ble_eq_true rfl) (fun K hC => ?_)
  refine wd_aload_n hC dX4_wealthOf_0 rfl rfl ?_
  refine gf_X4_101 hC dX4_wealthOf_1 ?_
  refine wd_iload_n hC dX4_wealthOf_4 rfl rfl ?_
  refine ld_m hC dX4_wealthOf_5 (m) hx (by omega) ?_
  refine wd_istore_n_7_3 hC dX4_wealthOf_6 ?_
  refine wd_aload_n hC dX4_wealthOf_7 rfl rfl ?_
  refine gf_X4_98 hC dX4_wealthOf_8 ?_
  refine wd_iload_n hC dX4_wealthOf_11 rfl rfl ?_
  refine ld_m hC dX4_wealthOf_12 (m) hx (by omega) ?_
  refine wd_istore_7_4 hC dX4_wealthOf_13 ?_
  refine wd_iload_n hC dX4_wealthOf_15 rfl rfl ?_
  refine wd_if_ge (tgt := 43) hC dX4_wealthOf_16 (by decide) (fun c_16 => ?_) (fun c_16 => ?_)
  · refine wd_aload_n hC dX4_wealthOf_43 rfl rfl ?_
    refine gf_X4_98 hC dX4_wealthOf_44 ?_
    refine wd_iload_n hC dX4_wealthOf_47 rfl rfl ?_
    refine ld_m hC dX4_wealthOf_48 (nFac (mv σ j) m) (hM.f hm c_16) (hM.f6 hm c_16) ?_
    refine wd_istore_7_5 hC dX4_wealthOf_49 ?_
    refine wd_aload_n hC dX4_wealthOf_51 rfl rfl ?_
    refine gf_X4_19 hC dX4_wealthOf_52 ?_
    refine gf_X4_113 hC dX4_wealthOf_55 ?_
    refine wd_iload_n hC dX4_wealthOf_58 rfl rfl ?_
    refine ld_y hC dX4_wealthOf_59 (m) hx (by omega) ?_
    refine wd_iload hC dX4_wealthOf_60 rfl ?_
    refine ld_r hC dX4_wealthOf_62 (nSown (mv σ j) m) (hM.s hm) (hM.s3 hm) ?_
    refine wd_aload_n hC dX4_wealthOf_63 rfl rfl ?_
    refine wd_aload_n hC dX4_wealthOf_64 rfl rfl ?_
    refine wd_iload_n hC dX4_wealthOf_65 rfl rfl ?_
    refine wd_iload hC dX4_wealthOf_66 rfl ?_
    refine cv4i hC cw_X4_202 (c_takenIf hinj _ ht j hj _ _ _ _ (hM.f hm c_16) (hM.s hm) (hM.f6 hm c_16) (hM.s3 hm) hM) dX4_wealthOf_68 (by decide) (by decide) rfl rfl (Nat.le_of_ble_eq_true rfl) ?_
    refine wd_isub hC dX4_wealthOf_71 ?_
    refine wd_istore_7_6 hC dX4_wealthOf_72 ?_
    refine wd_iload hC dX4_wealthOf_74 rfl ?_
    refine wd_aload_n hC dX4_wealthOf_76 rfl rfl ?_
    refine gf_X4_19 hC dX4_wealthOf_77 ?_
    refine gf_X4_179 hC dX4_wealthOf_80 ?_
    refine wd_iload hC dX4_wealthOf_83 rfl ?_
    refine ld_w hC dX4_wealthOf_85 (nSown (mv σ j) m) (hM.s hm) (hM.s3 hm) ?_
    refine wd_imul hC dX4_wealthOf_86 ?_
    refine wd_aload_n hC dX4_wealthOf_87 rfl rfl ?_
    refine wd_aload_n hC dX4_wealthOf_88 rfl rfl ?_
    refine wd_iload_n hC dX4_wealthOf_89 rfl rfl ?_
    refine wd_iload hC dX4_wealthOf_90 rfl ?_
    refine cv4i hC cw_X4_202 (c_takenIf hinj _ ht j hj _ _ _ _ hx (hM.s (hM.f6 hm c_16)) hm (hM.s3 (hM.f6 hm c_16)) hM) dX4_wealthOf_92 (by decide) (by decide) rfl rfl (Nat.le_of_ble_eq_true rfl) ?_
    refine wd_aload_n hC dX4_wealthOf_95 rfl rfl ?_
    refine gf_X4_19 hC dX4_wealthOf_96 ?_
    refine gf_X4_179 hC dX4_wealthOf_99 ?_
    refine wd_iload hC dX4_wealthOf_102 rfl ?_
    refine ld_w hC dX4_wealthOf_104 (nSown (mv σ j) (nFac (mv σ j) m)) (hM.s (hM.f6 hm c_16)) (hM.s3 (hM.f6 hm c_16)) ?_
    refine wd_imul hC dX4_wealthOf_105 ?_
    refine wd_iadd hC dX4_wealthOf_106 ?_
    exact wd_iret hC rfl dX4_wealthOf_107 (by refine Eq.trans ?_ (if_pos c_16).symm; rw [tv_y _ hm]; rfl) rfl
  · refine wd_aload_n hC dX4_wealthOf_19 rfl rfl ?_
    refine gf_X4_19 hC dX4_wealthOf_20 ?_
    refine gf_X4_113 hC dX4_wealthOf_23 ?_
    refine wd_iload_n hC dX4_wealthOf_26 rfl rfl ?_
    refine ld_y hC dX4_wealthOf_27 (m) hx (by omega) ?_
    refine wd_iload hC dX4_wealthOf_28 rfl ?_
    refine ld_r hC dX4_wealthOf_30 (nSown (mv σ j) m) (hM.s hm) (hM.s3 hm) ?_
    refine wd_aload_n hC dX4_wealthOf_31 rfl rfl ?_
    refine gf_X4_19 hC dX4_wealthOf_32 ?_
    refine gf_X4_179 hC dX4_wealthOf_35 ?_
    refine wd_iload hC dX4_wealthOf_38 rfl ?_
    refine ld_w hC dX4_wealthOf_40 (nSown (mv σ j) m) (hM.s hm) (hM.s3 hm) ?_
    refine wd_imul hC dX4_wealthOf_41 ?_
    exact wd_iret hC rfl dX4_wealthOf_42 (by refine Eq.trans ?_ (if_neg c_16).symm; rw [tv_y _ hm]; rfl) rfl
set_option maxRecDepth 100000 in
set_option maxHeartbeats 4000000 in
theorem c_gainOf {V : wd_V} {ad : Nat → Nat} (hinj : wd_inj cS ad) (σ : wd_S) (ht : σ.2.2 < 2) (j : Nat) (hj : j < 14) (x : Int32) (m : Nat) (hx : x = nI m) (hm : m < 6) (hM : mOk (mv σ j)) : wd_C cS V ad 3 yX4_gainOf (Cond.code yX4_gainOf cX4_gainOf 3 (some .int) :: wsL_law) σ [.ref (ad 0), .ref (ad (cm j)), .int x] (wd_eq (some (.int (wGain (tv σ) (mv σ j) m))) (σ)) := by
  refine wd_intro (lv := [some (.ref (ad 0)), some (.ref (ad (cm j))), some (.int x)]) hinj (by decide) rfl (Nat.le_of_ble_eq_true rfl) rfl (Nat.le_of_ble_eq_true rfl) (fun K hC => ?_)
  refine wd_aload_n hC dX4_gainOf_0 rfl rfl ?_
  refine wd_aload_n hC dX4_gainOf_1 rfl rfl ?_
  refine wd_iload_n hC dX4_gainOf_2 rfl rfl ?_
  refine cv4i hC cw_X4_129 (c_wealthOf hinj _ ht j hj x m hx hm hM) dX4_gainOf_3 (by decide) (by decide) rfl rfl (Nat.le_of_ble_eq_true rfl) ?_
  refine wd_aload_n hC dX4_gainOf_6 rfl rfl ?_
  refine gf_X4_19 hC dX4_gainOf_7 ?_
  refine gf_X4_95 hC dX4_gainOf_10 ?_
  refine wd_iload_n hC dX4_gainOf_13 rfl rfl ?_
  refine ld_s hC dX4_gainOf_14 (m) hx (by omega) ?_
  refine wd_isub hC dX4_gainOf_15 ?_
  exact wd_iret hC rfl dX4_gainOf_16 rfl rfl
/-! ===== loops ===== -/
def itr {α : Type} (f : Nat → α → α) (a : α) : Nat → α
  | 0 => a
  | n + 1 => f n (itr f a n)
abbrev nMen (T : Nat → Nat → Int32) : Nat := (T 0 3).toNatClampNeg
abbrev nCrops (T : Nat → Nat → Int32) : Nat := (T 0 0).toNatClampNeg
def tOk (T : Nat → Nat → Int32) : Prop := (0 ≤ T 0 3 ∧ T 0 3 < nI 7) ∧ 0 ≤ T 0 0 ∧ T 0 0 < nI 4
theorem tOk.m {T : Nat → Nat → Int32} (h : tOk T) : T 0 3 = nI (nMen T) := (ix_of h.1.1 h.1.2 (by decide)).1
theorem tOk.m6 {T : Nat → Nat → Int32} (h : tOk T) : nMen T ≤ 6 := Nat.le_of_lt_succ (ix_of h.1.1 h.1.2 (by decide)).2
theorem tOk.c {T : Nat → Nat → Int32} (h : tOk T) : T 0 0 = nI (nCrops T) := (ix_of h.2.1 h.2.2 (by decide)).1
theorem tOk.c3 {T : Nat → Nat → Int32} (h : tOk T) : nCrops T ≤ 3 := Nat.le_of_lt_succ (ix_of h.2.1 h.2.2 (by decide)).2
theorem lp_ge {x : Int32} {n i : Nat} (hx : x = nI n) (c : x ≤ nI i) (h : i ≤ n) (hn : n < 2 ^ 31) : i = n := by
  rw [hx] at c
  have := (nI_leI hn (by omega)).mp c
  omega
theorem lp_lt {x : Int32} {n i : Nat} (hx : x = nI n) (c : ¬ x ≤ nI i) (h : i ≤ n) (hn : n < 2 ^ 31) : i < n := by
  rw [hx] at c
  rcases Nat.lt_or_ge i n with h1 | h1
  · exact h1
  · exact absurd (nI_le h1 (by omega)) c
def wAll (T M : Nat → Nat → Int32) : Int32 := itr (fun m a => a + wHas T M m) 0 (nMen T)
def wRopes (T M : Nat → Nat → Int32) : Int32 := itr (fun m a => a + M 3 m) 0 (nMen T)

set_option maxRecDepth 100000 in
set_option maxHeartbeats 4000000 in
theorem c_wealthOfAll {V : wd_V} {ad : Nat → Nat} (hinj : wd_inj cS ad) (σ : wd_S) (ht : σ.2.2 < 2) (hT : tOk (tv σ)) (hM : mOk (mv σ 0)) : wd_C cS V ad 3 yX4_wealthOfAll (Cond.code yX4_wealthOfAll cX4_wealthOfAll 3 (some .int) :: wsL_law) σ [.ref (ad 0)] (wd_eq (some (.int (wAll (tv σ) (mv σ 0)))) (σ)) := by
  refine wd_intro (lv := [some (.ref (ad 0)), none, none]) hinj (by decide) rfl (Nat.le_of_ble_eq_true rfl) rfl (Nat.le_of_ble_eq_true rfl) (fun K hC => ?_)
  have h6 := hT.m6
  have loop : ∀ (k i : Nat), i ≤ (nMen (tv σ)) → (nMen (tv σ)) < i + k → wd_G cS V ad K 3 (wd_Qm cS V ad K (wd_eq (some (.int (wAll (tv σ) (mv σ 0)))) σ)) 4 [some (.ref (ad 0)), some (.int (itr (fun m a => a + wHas (tv σ) (mv σ 0) m) 0 i)), some (.int (nI i))] [] σ := by
    intro k
    induction k with
    | zero =>
      intro i  h1 h2
      exact absurd h2 (by omega)
    | succ k ih =>
      intro i  h1 h2
      refine wd_iload_n hC dX4_wealthOfAll_4 rfl rfl ?_
      refine wd_aload_n hC dX4_wealthOfAll_5 rfl rfl ?_
      refine gf_X4_19 hC dX4_wealthOfAll_6 ?_
      refine gf_X4_76 hC dX4_wealthOfAll_9 ?_
      refine wd_icmp_ge (tgt := 33) hC dX4_wealthOfAll_12 (by decide) (fun c_12 => ?_) (fun c_12 => ?_)
      · have hin := lp_ge hT.m c_12 h1 (by omega)
        subst hin
        refine wd_iload_n hC dX4_wealthOfAll_33 rfl rfl ?_
        exact wd_iret hC rfl dX4_wealthOfAll_34 rfl rfl
      · have hin := lp_lt hT.m c_12 h1 (by omega)
        refine wd_iload_n hC dX4_wealthOfAll_15 rfl rfl ?_
        refine wd_aload_n hC dX4_wealthOfAll_16 rfl rfl ?_
        refine wd_aload_n hC dX4_wealthOfAll_17 rfl rfl ?_
        refine gf_X4_29 hC dX4_wealthOfAll_18 ?_
        refine wd_iload_n hC dX4_wealthOfAll_21 rfl rfl ?_
        refine cv4i hC cw_X4_129 (c_wealthOf hinj _ ht 0 (by decide) _ i rfl (by omega) hM) dX4_wealthOfAll_22 (by decide) (by decide) rfl rfl (Nat.le_of_ble_eq_true rfl) ?_
        refine wd_iadd hC dX4_wealthOfAll_25 ?_
        refine wd_istore_n_3_1 hC dX4_wealthOfAll_26 ?_
        refine wd_iincN_3_2 hC dX4_wealthOfAll_27 ?_
        refine wd_goto (tgt := 4) hC dX4_wealthOfAll_30 (by decide) ?_
        exact ih (i + 1) (by omega) (by omega)
  refine wd_iconst (v := 0) hC dX4_wealthOfAll_0 rfl ?_
  refine wd_istore_n_3_1 hC dX4_wealthOfAll_1 ?_
  refine wd_iconst (v := 0) hC dX4_wealthOfAll_2 rfl ?_
  refine wd_istore_n_3_2 hC dX4_wealthOfAll_3 ?_
  exact loop (nMen (tv σ) + 1) 0 (Nat.zero_le _) (by omega)
set_option maxRecDepth 100000 in
set_option maxHeartbeats 4000000 in
theorem c_ropesOfAll {V : wd_V} {ad : Nat → Nat} (hinj : wd_inj cS ad) (σ : wd_S) (ht : σ.2.2 < 2) (hT : tOk (tv σ)) : wd_C cS V ad 0 yX4_ropesOfAll (Cond.code yX4_ropesOfAll cX4_ropesOfAll 3 (some .int) :: wsL_law) σ [.ref (ad 0)] (wd_eq (some (.int (wRopes (tv σ) (mv σ 0)))) (σ)) := by
  refine wd_intro (lv := [some (.ref (ad 0)), none, none]) hinj (by decide) rfl (Nat.le_of_ble_eq_true rfl) rfl (Nat.le_of_ble_eq_true rfl) (fun K hC => ?_)
  have h6 := hT.m6
  have loop : ∀ (k i : Nat), i ≤ (nMen (tv σ)) → (nMen (tv σ)) < i + k → wd_G cS V ad K 3 (wd_Qm cS V ad K (wd_eq (some (.int (wRopes (tv σ) (mv σ 0)))) σ)) 4 [some (.ref (ad 0)), some (.int (itr (fun m a => a + mv σ 0 3 m) 0 i)), some (.int (nI i))] [] σ := by
    intro k
    induction k with
    | zero =>
      intro i  h1 h2
      exact absurd h2 (by omega)
    | succ k ih =>
      intro i  h1 h2
      refine wd_iload_n hC dX4_ropesOfAll_4 rfl rfl ?_
      refine wd_aload_n hC dX4_ropesOfAll_5 rfl rfl ?_
      refine gf_X4_19 hC dX4_ropesOfAll_6 ?_
      refine gf_X4_76 hC dX4_ropesOfAll_9 ?_
      refine wd_icmp_ge (tgt := 33) hC dX4_ropesOfAll_12 (by decide) (fun c_12 => ?_) (fun c_12 => ?_)
      · have hin := lp_ge hT.m c_12 h1 (by omega)
        subst hin
        refine wd_iload_n hC dX4_ropesOfAll_33 rfl rfl ?_
        exact wd_iret hC rfl dX4_ropesOfAll_34 rfl rfl
      · have hin := lp_lt hT.m c_12 h1 (by omega)
        refine wd_iload_n hC dX4_ropesOfAll_15 rfl rfl ?_
        refine wd_aload_n hC dX4_ropesOfAll_16 rfl rfl ?_
        refine gf_X4_29 hC dX4_ropesOfAll_17 ?_
        refine gf_X4_104 hC dX4_ropesOfAll_20 ?_
        refine wd_iload_n hC dX4_ropesOfAll_23 rfl rfl ?_
        refine ld_m hC dX4_ropesOfAll_24 (i) rfl (by omega) ?_
        refine wd_iadd hC dX4_ropesOfAll_25 ?_
        refine wd_istore_n_3_1 hC dX4_ropesOfAll_26 ?_
        refine wd_iincN_3_2 hC dX4_ropesOfAll_27 ?_
        refine wd_goto (tgt := 4) hC dX4_ropesOfAll_30 (by decide) ?_
        exact ih (i + 1) (by omega) (by omega)
  refine wd_iconst (v := 0) hC dX4_ropesOfAll_0 rfl ?_
  refine wd_istore_n_3_1 hC dX4_ropesOfAll_1 ?_
  refine wd_iconst (v := 0) hC dX4_ropesOfAll_2 rfl ?_
  refine wd_istore_n_3_2 hC dX4_ropesOfAll_3 ?_
  exact loop (nMen (tv σ) + 1) 0 (Nat.zero_le _) (by omega)
end
section
/-! ===== moments as a whole ===== -/
def u2 (M : Nat → Nat → Int32) (k i : Nat) (v : Int32) : Nat → Nat → Int32 := fun a b => if a = k ∧ b = i then v else M a b
def ur (M : Nat → Nat → Int32) (c : Nat) (r : Nat → Int32) : Nat → Nat → Int32 := fun k => if k = c then r else M k
/-- moment j becomes M -/
def stM (σ : wd_S) (j : Nat) (M : Nat → Nat → Int32) : wd_S := (fun k => if cm j ≤ k ∧ k < cm j + 6 then M (k - cm j) else σ.1 k, σ.2)
theorem stM_at (σ : wd_S) (j : Nat) (M : Nat → Nat → Int32) {c : Nat} (hc : c < 6) : (stM σ j M).1 (cm j + c) = M c := by
  show (if cm j ≤ cm j + c ∧ cm j + c < cm j + 6 then M (cm j + c - cm j) else σ.1 (cm j + c)) = M c
  rw [if_pos ⟨by omega, by omega⟩, Nat.add_sub_cancel_left]
theorem stM_out (σ : wd_S) (j : Nat) (M : Nat → Nat → Int32) {k : Nat} (h : ¬ (cm j ≤ k ∧ k < cm j + 6)) : (stM σ j M).1 k = σ.1 k := if_neg h
theorem stM_lo (σ : wd_S) (j : Nat) (M : Nat → Nat → Int32) {k : Nat} (h : k < 36) : (stM σ j M).1 k = σ.1 k := stM_out σ j M (by unfold cm; omega)
theorem stM_n (σ : wd_S) {j j' : Nat} (hj : j ≠ j') (M : Nat → Nat → Int32) {c : Nat} (hc : c < 6) : (stM σ j M).1 (cm j' + c) = σ.1 (cm j' + c) := stM_out σ j M (by unfold cm; omega)
theorem stM_n0 (σ : wd_S) {j j' : Nat} (hj : j ≠ j') (M : Nat → Nat → Int32) : (stM σ j M).1 (cm j') = σ.1 (cm j') := stM_out σ j M (by unfold cm; omega)
theorem mv_at (σ : wd_S) (j : Nat) {c : Nat} (hc : c < 6) : mv σ j c = σ.1 (cm j + c) := funext fun i => if_pos hc
theorem mv_hi (σ : wd_S) (j : Nat) {c : Nat} (hc : ¬ c < 6) : mv σ j c = fun _ => 0 := funext fun i => if_neg hc
def mz (M : Nat → Nat → Int32) : Prop := ∀ k, ¬ k < 6 → M k = fun _ => 0
theorem mz_mv (σ : wd_S) (j : Nat) : mz (mv σ j) := fun _ h => mv_hi σ j h
theorem mz_u2 {M : Nat → Nat → Int32} (h : mz M) {k : Nat} (hk : k < 6) (i : Nat) (v : Int32) : mz (u2 M k i v) := fun a ha => by
  funext b
  show (if a = k ∧ b = i then v else M a b) = 0
  rw [if_neg (by omega), h a ha]
theorem wd_ext {σ σ' : wd_S} (h : ∀ k, σ.1 k = σ'.1 k) (h2 : σ.2 = σ'.2) : σ = σ' := Prod.ext (funext h) h2
theorem stM_self (σ : wd_S) (j : Nat) : stM σ j (mv σ j) = σ := by
  refine wd_ext (fun k => ?_) rfl
  by_cases h : cm j ≤ k ∧ k < cm j + 6
  · obtain ⟨c, rfl⟩ : ∃ c, k = cm j + c := ⟨k - cm j, by omega⟩
    rw [stM_at _ _ _ (by omega), mv_at _ _ (by omega)]
  · exact stM_out _ _ _ h
theorem stM_st (σ : wd_S) (j : Nat) (M M' : Nat → Nat → Int32) : stM (stM σ j M) j M' = stM σ j M' := by
  refine wd_ext (fun k => ?_) rfl
  by_cases h : cm j ≤ k ∧ k < cm j + 6
  · show (if _ then _ else _) = (if _ then _ else _)
    rw [if_pos h, if_pos h]
  · rw [stM_out _ _ _ h, stM_out _ _ _ h, stM_out _ _ _ h]
theorem stM_up (σ : wd_S) (j : Nat) (M : Nat → Nat → Int32) {c : Nat} (hc : c < 6) (i : Nat) (v : Int32) : wd_up (stM σ j M) (cm j + c) i v = stM σ j (u2 M c i v) := by
  refine wd_ext (fun k => ?_) rfl
  by_cases h : cm j ≤ k ∧ k < cm j + 6
  · obtain ⟨e, rfl⟩ : ∃ e, k = cm j + e := ⟨k - cm j, by omega⟩
    rw [stM_at _ _ _ (by omega)]
    funext b
    show (if cm j + e = cm j + c ∧ b = i then v else (stM σ j M).1 (cm j + e) b) = (if e = c ∧ b = i then v else M e b)
    rw [stM_at _ _ _ (by omega)]
    by_cases h1 : e = c ∧ b = i
    · rw [if_pos h1, if_pos ⟨by omega, h1.2⟩]
    · rw [if_neg h1, if_neg (fun h2 => h1 ⟨by omega, h2.2⟩)]
  · rw [stM_out _ _ _ h, wd_up_n _ _ _ _ (by omega), stM_out _ _ _ h]
theorem stM_up0 (σ : wd_S) (j : Nat) (M : Nat → Nat → Int32) (i : Nat) (v : Int32) : wd_up (stM σ j M) (cm j) i v = stM σ j (u2 M 0 i v) := stM_up σ j M (c := 0) (by decide) i v
theorem tv_st (σ : wd_S) (j : Nat) (M : Nat → Nat → Int32) (ht : σ.2.2 < 2) : tv (stM σ j M) = tv σ := by
  funext k i
  unfold tv
  by_cases h : k < 13
  · rw [if_pos h, if_pos h]
    show (stM σ j M).1 (ct σ.2.2 + k) i = _
    rw [stM_lo _ _ _ (by unfold ct; omega)]
  · rw [if_neg h, if_neg h]
theorem mv_st (σ : wd_S) (j : Nat) {M : Nat → Nat → Int32} (hM : mz M) : mv (stM σ j M) j = M := by
  funext k
  by_cases h : k < 6
  · rw [mv_at _ _ h, stM_at _ _ _ h]
  · rw [mv_hi _ _ h, hM k h]
theorem mv_st_n (σ : wd_S) {j j' : Nat} (hj : j ≠ j') (M : Nat → Nat → Int32) : mv (stM σ j M) j' = mv σ j' := by
  funext k
  by_cases h : k < 6
  · rw [mv_at _ _ h, mv_at _ _ h, stM_n _ hj _ h]
  · rw [mv_hi _ _ h, mv_hi _ _ h]
theorem wd_ts {sd : wd_Side} {V : wd_V} {ad : Nat → Nat} {K : wd_K} {nL : Nat} {Q : State → Prop} {pc : Nat} {lv : List (Option Value)} {st : List Value} {σ σ' : wd_S} (h : σ = σ') (k : wd_G sd V ad K nL Q pc lv st σ') : wd_G sd V ad K nL Q pc lv st σ := h ▸ k
theorem cm_lt {j c : Nat} (hj : j < 14) (hc : c < 6) : cm j + c < 120 := by unfold cm; omega
/-- behind an arraycopy: the row is the other moment's -/
theorem cp_step {V : wd_V} {ad : Nat → Nat} (σ : wd_S) {a b : Nat} (hab : b ≠ a) (M : Nat → Nat → Int32) {c : Nat} (h1 : 1 ≤ c) (h5 : c ≤ 5) : ∀ (D : va_G) (H : Heap), va_P D vwCl (wd_cells cS ad V.2.2 (wd_cp (stM σ b M) (cm a + c) (cm b + c) 6)) H → va_P D vwCl (wd_cells cS ad V.2.2 (stM σ b (ur M c (mv σ a c)))) H := by
  refine wd_eqv (fun k _ => ?_)
  by_cases hk : k = cm b + c
  · subst hk
    right
    refine ⟨_, _, _, _, cE_ma b c h1 h5, cE_ma b c h1 h5, fun i hi => ?_⟩
    show (if cm b + c = cm b + c ∧ i < 6 then (stM σ b M).1 (cm a + c) i else _) = _
    rw [if_pos ⟨rfl, hi⟩, stM_n _ hab _ (by omega), stM_at _ _ _ (by omega)]
    show _ = (if c = c then mv σ a c else M c) i
    rw [if_pos rfl, mv_at _ _ (by omega)]
  · left
    have e : (wd_cp (stM σ b M) (cm a + c) (cm b + c) 6).1 k = (stM σ b (ur M c (mv σ a c))).1 k := by
      rw [wd_cp_n _ _ _ _ hk]
      by_cases h : cm b ≤ k ∧ k < cm b + 6
      · obtain ⟨e, rfl⟩ : ∃ e, k = cm b + e := ⟨k - cm b, by omega⟩
        rw [stM_at _ _ _ (by omega), stM_at _ _ _ (by omega)]
        show _ = (if e = c then _ else M e)
        rw [if_neg (by omega)]
      · rw [stM_out _ _ _ h, stM_out _ _ _ h]
    show cS.2 ad V.2.2 σ.2 k _ = cS.2 ad V.2.2 σ.2 k _
    rw [e]
/-- a moment's own two numbers are the places 5 and 6 of its row 0 -/
theorem cp_fin {V : wd_V} {ad : Nat → Nat} (σ : wd_S) (b : Nat) (M M' : Nat → Nat → Int32) (h5 : M 0 5 = M' 0 5) (h6 : M 0 6 = M' 0 6) (h : ∀ k, 1 ≤ k → k < 6 → ∀ i, i < 6 → M k i = M' k i) : ∀ (D : va_G) (H : Heap), va_P D vwCl (wd_cells cS ad V.2.2 (stM σ b M)) H → va_P D vwCl (wd_cells cS ad V.2.2 (stM σ b M')) H := by
  refine wd_eqv (fun k _ => ?_)
  by_cases hk : cm b ≤ k ∧ k < cm b + 6
  · obtain ⟨e, rfl⟩ : ∃ e, k = cm b + e := ⟨k - cm b, by omega⟩
    by_cases he : e = 0
    · subst he
      left
      show cE ad V.2.2 σ.2 _ _ = cE ad V.2.2 σ.2 _ _
      rw [stM_at _ _ _ (by omega), stM_at _ _ _ (by omega), Nat.add_zero, cE_m, cE_m, h5, h6]
    · right
      refine ⟨_, _, _, _, cE_ma b e (by omega) (by omega), cE_ma b e (by omega) (by omega), fun i hi => ?_⟩
      rw [stM_at _ _ _ (by omega), stM_at _ _ _ (by omega)]
      exact h e (by omega) (by omega) i hi
  · left
    show cE ad V.2.2 σ.2 k _ = cE ad V.2.2 σ.2 k _
    rw [stM_out _ _ _ hk, stM_out _ _ _ hk]

set_option maxRecDepth 100000 in
set_option maxHeartbeats 4000000 in
theorem c_copyFrom {V : wd_V} {ad : Nat → Nat} (hinj : wd_inj cS ad) (σ : wd_S) (a b : Nat) (ha : a < 14) (hb : b < 14) (hab : b ≠ a) : wd_C cS V ad 1 yX1_copyFrom (Cond.code yX1_copyFrom cX1_copyFrom 2 none :: wsL_law) σ [.ref (ad (cm b)), .ref (ad (cm a))] (wd_eq none (stM σ b (mv σ a))) := by
  refine wd_intro (lv := [some (.ref (ad (cm b))), some (.ref (ad (cm a)))]) hinj (by decide) rfl (Nat.le_of_ble_eq_true rfl) rfl (Nat.le_of_ble_eq_true rfl) (fun K hC => ?_)
  refine wd_ts (stM_self σ b).symm ?_
  refine wd_aload_n hC dX1_copyFrom_0 rfl rfl ?_
  refine gf_X1_9 hC dX1_copyFrom_1 ?_
  refine wd_iconst (v := 0) hC dX1_copyFrom_4 rfl ?_
  refine wd_aload_n hC dX1_copyFrom_5 rfl rfl ?_
  refine gf_X1_9 hC dX1_copyFrom_6 ?_
  refine wd_iconst (v := 0) hC dX1_copyFrom_9 rfl ?_
  refine wd_bipush (v := 6) hC dX1_copyFrom_10 rfl ?_
  refine wd_copy hC (q0 := cm a + 1) (q1 := cm b + 1) (cm_lt ha (by decide)) (cm_lt hb (by decide)) (fun _ => cE_ma a 1 (by decide) (by decide)) (fun _ => cE_ma b 1 (by decide) (by decide)) 6 rfl (by decide) (Nat.le_refl 6) (Nat.le_refl 6) (wL_15 _ (List.mem_of_getElem? (i := 0) rfl)) (wL_15 _ (List.mem_of_getElem? (i := 1) rfl)) (wL_15 _ (List.mem_of_getElem? (i := 2) rfl)) (wL_15 _ (List.mem_of_getElem? (i := 3) rfl)) (by decide) (by decide) dX1_copyFrom_12 ?_
  refine wd_to (cp_step σ hab _ (c := 1) (by decide) (by decide)) ?_
  refine wd_aload_n hC dX1_copyFrom_15 rfl rfl ?_
  refine gf_X1_15 hC dX1_copyFrom_16 ?_
  refine wd_iconst (v := 0) hC dX1_copyFrom_19 rfl ?_
  refine wd_aload_n hC dX1_copyFrom_20 rfl rfl ?_
  refine gf_X1_15 hC dX1_copyFrom_21 ?_
  refine wd_iconst (v := 0) hC dX1_copyFrom_24 rfl ?_
  refine wd_bipush (v := 6) hC dX1_copyFrom_25 rfl ?_
  refine wd_copy hC (q0 := cm a + 2) (q1 := cm b + 2) (cm_lt ha (by decide)) (cm_lt hb (by decide)) (fun _ => cE_ma a 2 (by decide) (by decide)) (fun _ => cE_ma b 2 (by decide) (by decide)) 6 rfl (by decide) (Nat.le_refl 6) (Nat.le_refl 6) (wL_15 _ (List.mem_of_getElem? (i := 0) rfl)) (wL_15 _ (List.mem_of_getElem? (i := 1) rfl)) (wL_15 _ (List.mem_of_getElem? (i := 2) rfl)) (wL_15 _ (List.mem_of_getElem? (i := 3) rfl)) (by decide) (by decide) dX1_copyFrom_27 ?_
  refine wd_to (cp_step σ hab _ (c := 2) (by decide) (by decide)) ?_
  refine wd_aload_n hC dX1_copyFrom_30 rfl rfl ?_
  refine gf_X1_18 hC dX1_copyFrom_31 ?_
  refine wd_iconst (v := 0) hC dX1_copyFrom_34 rfl ?_
  refine wd_aload_n hC dX1_copyFrom_35 rfl rfl ?_
  refine gf_X1_18 hC dX1_copyFrom_36 ?_
  refine wd_iconst (v := 0) hC dX1_copyFrom_39 rfl ?_
  refine wd_bipush (v := 6) hC dX1_copyFrom_40 rfl ?_
  refine wd_copy hC (q0 := cm a + 3) (q1 := cm b + 3) (cm_lt ha (by decide)) (cm_lt hb (by decide)) (fun _ => cE_ma a 3 (by decide) (by decide)) (fun _ => cE_ma b 3 (by decide) (by decide)) 6 rfl (by decide) (Nat.le_refl 6) (Nat.le_refl 6) (wL_15 _ (List.mem_of_getElem? (i := 0) rfl)) (wL_15 _ (List.mem_of_getElem? (i := 1) rfl)) (wL_15 _ (List.mem_of_getElem? (i := 2) rfl)) (wL_15 _ (List.mem_of_getElem? (i := 3) rfl)) (by decide) (by decide) dX1_copyFrom_42 ?_
  refine wd_to (cp_step σ hab _ (c := 3) (by decide) (by decide)) ?_
  refine wd_aload_n hC dX1_copyFrom_45 rfl rfl ?_
  refine gf_X1_21 hC dX1_copyFrom_46 ?_
  refine wd_iconst (v := 0) hC dX1_copyFrom_49 rfl ?_
  refine wd_aload_n hC dX1_copyFrom_50 rfl rfl ?_
  refine gf_X1_21 hC dX1_copyFrom_51 ?_
  refine wd_iconst (v := 0) hC dX1_copyFrom_54 rfl ?_
  refine wd_bipush (v := 6) hC dX1_copyFrom_55 rfl ?_
  refine wd_copy hC (q0 := cm a + 4) (q1 := cm b + 4) (cm_lt ha (by decide)) (cm_lt hb (by decide)) (fun _ => cE_ma a 4 (by decide) (by decide)) (fun _ => cE_ma b 4 (by decide) (by decide)) 6 rfl (by decide) (Nat.le_refl 6) (Nat.le_refl 6) (wL_15 _ (List.mem_of_getElem? (i := 0) rfl)) (wL_15 _ (List.mem_of_getElem? (i := 1) rfl)) (wL_15 _ (List.mem_of_getElem? (i := 2) rfl)) (wL_15 _ (List.mem_of_getElem? (i := 3) rfl)) (by decide) (by decide) dX1_copyFrom_57 ?_
  refine wd_to (cp_step σ hab _ (c := 4) (by decide) (by decide)) ?_
  refine wd_aload_n hC dX1_copyFrom_60 rfl rfl ?_
  refine gf_X1_24 hC dX1_copyFrom_61 ?_
  refine wd_iconst (v := 0) hC dX1_copyFrom_64 rfl ?_
  refine wd_aload_n hC dX1_copyFrom_65 rfl rfl ?_
  refine gf_X1_24 hC dX1_copyFrom_66 ?_
  refine wd_iconst (v := 0) hC dX1_copyFrom_69 rfl ?_
  refine wd_bipush (v := 6) hC dX1_copyFrom_70 rfl ?_
  refine wd_copy hC (q0 := cm a + 5) (q1 := cm b + 5) (cm_lt ha (by decide)) (cm_lt hb (by decide)) (fun _ => cE_ma a 5 (by decide) (by decide)) (fun _ => cE_ma b 5 (by decide) (by decide)) 6 rfl (by decide) (Nat.le_refl 6) (Nat.le_refl 6) (wL_15 _ (List.mem_of_getElem? (i := 0) rfl)) (wL_15 _ (List.mem_of_getElem? (i := 1) rfl)) (wL_15 _ (List.mem_of_getElem? (i := 2) rfl)) (wL_15 _ (List.mem_of_getElem? (i := 3) rfl)) (by decide) (by decide) dX1_copyFrom_72 ?_
  refine wd_to (cp_step σ hab _ (c := 5) (by decide) (by decide)) ?_
  refine wd_aload_n hC dX1_copyFrom_75 rfl rfl ?_
  refine wd_aload_n hC dX1_copyFrom_76 rfl rfl ?_
  refine gf_X1_27 hC dX1_copyFrom_77 ?_
  refine pf_X1_27 hC dX1_copyFrom_80 ?_
  refine wd_ts (stM_up0 _ _ _ _ _) ?_
  refine wd_aload_n hC dX1_copyFrom_83 rfl rfl ?_
  refine wd_aload_n hC dX1_copyFrom_84 rfl rfl ?_
  refine gf_X1_31 hC dX1_copyFrom_85 ?_
  refine pf_X1_31 hC dX1_copyFrom_88 ?_
  refine wd_ts (stM_up0 _ _ _ _ _) ?_
  refine wd_to (cp_fin σ b _ (mv σ a) (by simp only [stM_n0 _ hab]; rfl) (by simp only [stM_n0 _ hab]; rfl) (fun k h1 h2 i _ => ?_)) ?_
  · rcases (show k = 1 ∨ k = 2 ∨ k = 3 ∨ k = 4 ∨ k = 5 by omega) with rfl | rfl | rfl | rfl | rfl <;> rfl
  exact wd_vret hC rfl dX1_copyFrom_91 rfl
/-! ===== begin ===== -/
def oth (y : Int32) : Int32 := if y - y / 2 * 2 = 0 then y + 1 else y - 1
def begV (x y : Int32) : Int32 := if x ≤ y then -9 else if x ≤ oth y then -9 else oth y
def begM (x : Int32) : Nat → Nat → Int32 := fun k i => if k = 2 then begV x (nI i) else 0
def bgI (x : Int32) (M : Nat → Nat → Int32) (n : Nat) : Nat → Nat → Int32 := fun k i => if 1 ≤ k ∧ k < 6 ∧ i < n then begM x k i else M k i
theorem bg_step (σ : wd_S) (j : Nat) (x v : Int32) (M : Nat → Nat → Int32) (i : Nat) (hv : v = begV x (nI i)) : wd_up (wd_up (wd_up (wd_up (wd_up (stM σ j (bgI x M i)) (cm j + 2) i v) (cm j + 1) i 0) (cm j + 3) i 0) (cm j + 4) i 0) (cm j + 5) i 0 = stM σ j (bgI x M (i + 1)) := by
  rw [stM_up _ _ _ (by decide), stM_up _ _ _ (by decide), stM_up _ _ _ (by decide), stM_up _ _ _ (by decide), stM_up _ _ _ (by decide)]
  congr 1
  funext k a
  subst hv
  by_cases ha : a = i
  · subst ha
    by_cases hk : 1 ≤ k ∧ k < 6
    · rcases (show k = 1 ∨ k = 2 ∨ k = 3 ∨ k = 4 ∨ k = 5 by omega) with rfl | rfl | rfl | rfl | rfl <;> simp [u2, bgI, begM]
    · have h1 : ¬ (1 ≤ k ∧ k < 6 ∧ a < a) := fun h => hk ⟨h.1, h.2.1⟩
      have h2 : ¬ (1 ≤ k ∧ k < 6 ∧ a < a + 1) := fun h => hk ⟨h.1, h.2.1⟩
      have e1 : ¬ k = 5 := by omega
      have e2 : ¬ k = 4 := by omega
      have e3 : ¬ k = 3 := by omega
      have e4 : ¬ k = 1 := by omega
      have e5 : ¬ k = 2 := by omega
      simp only [u2, bgI, if_neg h1, if_neg h2, e1, e2, e3, e4, e5, false_and, if_false]
  · have h : (1 ≤ k ∧ k < 6 ∧ a < i) ↔ (1 ≤ k ∧ k < 6 ∧ a < i + 1) := by omega
    simp only [u2, ha, and_false, if_false]
    unfold bgI
    simp only [h]

theorem mz_out {M : Nat → Nat → Int32} {k i : Nat} {v : Int32} (h : ¬ k = 0) : u2 M 0 i v k = M k := funext fun b => if_neg (fun h2 => h h2.1)

set_option maxRecDepth 100000 in
set_option maxHeartbeats 4000000 in
theorem c_begin {V : wd_V} {ad : Nat → Nat} (hinj : wd_inj cS ad) (σ : wd_S) (j : Nat) (hj : j < 14) (x : Int32) : wd_C cS V ad 0 yX1_begin (Cond.code yX1_begin cX1_begin 4 none :: wsL_law) σ [.ref (ad (cm j)), .int x] (wd_eq none (stM σ j (begM x))) := by
  refine wd_intro (lv := [some (.ref (ad (cm j))), some (.int x), none, none]) hinj (by decide) rfl (Nat.le_of_ble_eq_true rfl) rfl (Nat.le_of_ble_eq_true rfl) (fun K hC => ?_)
  have loop : ∀ (k i : Nat) (o : Option Value), i ≤ 6 → 6 < i + k → wd_G cS V ad K 4 (wd_Qm cS V ad K (wd_eq none (stM σ j (begM x)))) 2 [some (.ref (ad (cm j))), some (.int x), some (.int (nI i)), o] [] (stM σ j (bgI x (mv σ j) i)) := by
    intro k
    induction k with
    | zero =>
      intro i o h1 h2
      exact absurd h2 (by omega)
    | succ k ih =>
      intro i o h1 h2
      refine wd_iload_n hC dX1_begin_2 rfl rfl ?_
      refine wd_bipush (v := 6) hC dX1_begin_3 rfl ?_
      refine wd_icmp_ge (tgt := 80) hC dX1_begin_5 (by decide) (fun c_5 => ?_) (fun c_5 => ?_)
      · have hin : i = 6 := lp_ge (x := 6) (n := 6) rfl c_5 h1 (by decide)
        subst hin
        refine wd_aload_n hC dX1_begin_80 rfl rfl ?_
        refine wd_iconst (v := 0) hC dX1_begin_81 rfl ?_
        refine pf_X1_27 hC dX1_begin_82 ?_
        refine wd_ts (stM_up0 _ _ _ _ _) ?_
        refine wd_aload_n hC dX1_begin_85 rfl rfl ?_
        refine wd_iconst (v := 0) hC dX1_begin_86 rfl ?_
        refine pf_X1_31 hC dX1_begin_87 ?_
        refine wd_ts (stM_up0 _ _ _ _ _) ?_
        refine wd_to (cp_fin σ j _ (begM x) rfl rfl (fun k h1 h2 i hi => ?_)) ?_
        · rw [mz_out (show ¬ k = 0 by omega), mz_out (show ¬ k = 0 by omega)]
          exact if_pos ⟨h1, h2, hi⟩
        exact wd_vret hC rfl dX1_begin_90 rfl
      · have hin : i < 6 := lp_lt (x := 6) (n := 6) rfl c_5 h1 (by decide)
        refine wd_iload_n hC dX1_begin_8 rfl rfl ?_
        refine wd_iconst (v := 2) hC dX1_begin_9 rfl ?_
        refine wd_irem hC dX1_begin_10 (by decide) ?_
        refine wd_if_ne (tgt := 20) hC dX1_begin_11 (by decide) (fun c_11 => ?_) (fun c_11 => ?_)
        · refine wd_iload_n hC dX1_begin_20 rfl rfl ?_
          refine wd_iconst (v := 1) hC dX1_begin_21 rfl ?_
          refine wd_isub hC dX1_begin_22 ?_
          refine wd_istore_n_4_3 hC dX1_begin_23 ?_
          refine wd_aload_n hC dX1_begin_24 rfl rfl ?_
          refine gf_X1_15 hC dX1_begin_25 ?_
          refine wd_iload_n hC dX1_begin_28 rfl rfl ?_
          refine wd_iload_n hC dX1_begin_29 rfl rfl ?_
          refine wd_iload_n hC dX1_begin_30 rfl rfl ?_
          refine wd_icmp_ge (tgt := 43) hC dX1_begin_31 (by decide) (fun c_31 => ?_) (fun c_31 => ?_)
          · refine wd_bipush (v := -9) hC dX1_begin_43 rfl ?_
            refine st_m hC dX1_begin_45 (i) rfl (by omega) ?_
            refine wd_aload_n hC dX1_begin_46 rfl rfl ?_
            refine gf_X1_9 hC dX1_begin_47 ?_
            refine wd_iload_n hC dX1_begin_50 rfl rfl ?_
            refine wd_iconst (v := 0) hC dX1_begin_51 rfl ?_
            refine st_m hC dX1_begin_52 (i) rfl (by omega) ?_
            refine wd_aload_n hC dX1_begin_53 rfl rfl ?_
            refine gf_X1_18 hC dX1_begin_54 ?_
            refine wd_iload_n hC dX1_begin_57 rfl rfl ?_
            refine wd_iconst (v := 0) hC dX1_begin_58 rfl ?_
            refine st_m hC dX1_begin_59 (i) rfl (by omega) ?_
            refine wd_aload_n hC dX1_begin_60 rfl rfl ?_
            refine gf_X1_21 hC dX1_begin_61 ?_
            refine wd_iload_n hC dX1_begin_64 rfl rfl ?_
            refine wd_iconst (v := 0) hC dX1_begin_65 rfl ?_
            refine st_m hC dX1_begin_66 (i) rfl (by omega) ?_
            refine wd_aload_n hC dX1_begin_67 rfl rfl ?_
            refine gf_X1_24 hC dX1_begin_68 ?_
            refine wd_iload_n hC dX1_begin_71 rfl rfl ?_
            refine wd_iconst (v := 0) hC dX1_begin_72 rfl ?_
            refine st_m hC dX1_begin_73 (i) rfl (by omega) ?_
            refine wd_iincN_4_2 hC dX1_begin_74 ?_
            refine wd_goto (tgt := 2) hC dX1_begin_77 (by decide) ?_
            exact wd_ts (bg_step σ j x _ (mv σ j) i (by unfold begV oth; first | (rw [if_pos c_31]; done) | (rw [if_neg c_31, if_pos c_11]; first | (rw [if_pos c_36]; done) | (rw [if_neg c_36]; done)) | (rw [if_neg c_31, if_neg c_11]; first | (rw [if_pos c_36]; done) | (rw [if_neg c_36]; done)))) (ih (i + 1) _ (by omega) (by omega))
          · refine wd_iload_n hC dX1_begin_34 rfl rfl ?_
            refine wd_iload_n hC dX1_begin_35 rfl rfl ?_
            refine wd_icmp_ge (tgt := 43) hC dX1_begin_36 (by decide) (fun c_36 => ?_) (fun c_36 => ?_)
            · refine wd_bipush (v := -9) hC dX1_begin_43 rfl ?_
              refine st_m hC dX1_begin_45 (i) rfl (by omega) ?_
              refine wd_aload_n hC dX1_begin_46 rfl rfl ?_
              refine gf_X1_9 hC dX1_begin_47 ?_
              refine wd_iload_n hC dX1_begin_50 rfl rfl ?_
              refine wd_iconst (v := 0) hC dX1_begin_51 rfl ?_
              refine st_m hC dX1_begin_52 (i) rfl (by omega) ?_
              refine wd_aload_n hC dX1_begin_53 rfl rfl ?_
              refine gf_X1_18 hC dX1_begin_54 ?_
              refine wd_iload_n hC dX1_begin_57 rfl rfl ?_
              refine wd_iconst (v := 0) hC dX1_begin_58 rfl ?_
              refine st_m hC dX1_begin_59 (i) rfl (by omega) ?_
              refine wd_aload_n hC dX1_begin_60 rfl rfl ?_
              refine gf_X1_21 hC dX1_begin_61 ?_
              refine wd_iload_n hC dX1_begin_64 rfl rfl ?_
              refine wd_iconst (v := 0) hC dX1_begin_65 rfl ?_
              refine st_m hC dX1_begin_66 (i) rfl (by omega) ?_
              refine wd_aload_n hC dX1_begin_67 rfl rfl ?_
              refine gf_X1_24 hC dX1_begin_68 ?_
              refine wd_iload_n hC dX1_begin_71 rfl rfl ?_
              refine wd_iconst (v := 0) hC dX1_begin_72 rfl ?_
              refine st_m hC dX1_begin_73 (i) rfl (by omega) ?_
              refine wd_iincN_4_2 hC dX1_begin_74 ?_
              refine wd_goto (tgt := 2) hC dX1_begin_77 (by decide) ?_
              exact wd_ts (bg_step σ j x _ (mv σ j) i (by unfold begV oth; first | (rw [if_pos c_31]; done) | (rw [if_neg c_31, if_pos c_11]; first | (rw [if_pos c_36]; done) | (rw [if_neg c_36]; done)) | (rw [if_neg c_31, if_neg c_11]; first | (rw [if_pos c_36]; done) | (rw [if_neg c_36]; done)))) (ih (i + 1) _ (by omega) (by omega))
            · refine wd_iload_n hC dX1_begin_39 rfl rfl ?_
              refine wd_goto (tgt := 45) hC dX1_begin_40 (by decide) ?_
              refine st_m hC dX1_begin_45 (i) rfl (by omega) ?_
              refine wd_aload_n hC dX1_begin_46 rfl rfl ?_
              refine gf_X1_9 hC dX1_begin_47 ?_
              refine wd_iload_n hC dX1_begin_50 rfl rfl ?_
              refine wd_iconst (v := 0) hC dX1_begin_51 rfl ?_
              refine st_m hC dX1_begin_52 (i) rfl (by omega) ?_
              refine wd_aload_n hC dX1_begin_53 rfl rfl ?_
              refine gf_X1_18 hC dX1_begin_54 ?_
              refine wd_iload_n hC dX1_begin_57 rfl rfl ?_
              refine wd_iconst (v := 0) hC dX1_begin_58 rfl ?_
              refine st_m hC dX1_begin_59 (i) rfl (by omega) ?_
              refine wd_aload_n hC dX1_begin_60 rfl rfl ?_
              refine gf_X1_21 hC dX1_begin_61 ?_
              refine wd_iload_n hC dX1_begin_64 rfl rfl ?_
              refine wd_iconst (v := 0) hC dX1_begin_65 rfl ?_
              refine st_m hC dX1_begin_66 (i) rfl (by omega) ?_
              refine wd_aload_n hC dX1_begin_67 rfl rfl ?_
              refine gf_X1_24 hC dX1_begin_68 ?_
              refine wd_iload_n hC dX1_begin_71 rfl rfl ?_
              refine wd_iconst (v := 0) hC dX1_begin_72 rfl ?_
              refine st_m hC dX1_begin_73 (i) rfl (by omega) ?_
              refine wd_iincN_4_2 hC dX1_begin_74 ?_
              refine wd_goto (tgt := 2) hC dX1_begin_77 (by decide) ?_
              exact wd_ts (bg_step σ j x _ (mv σ j) i (by unfold begV oth; first | (rw [if_pos c_31]; done) | (rw [if_neg c_31, if_pos c_11]; first | (rw [if_pos c_36]; done) | (rw [if_neg c_36]; done)) | (rw [if_neg c_31, if_neg c_11]; first | (rw [if_pos c_36]; done) | (rw [if_neg c_36]; done)))) (ih (i + 1) _ (by omega) (by omega))
        · refine wd_iload_n hC dX1_begin_14 rfl rfl ?_
          refine wd_iconst (v := 1) hC dX1_begin_15 rfl ?_
          refine wd_iadd hC dX1_begin_16 ?_
          refine wd_goto (tgt := 23) hC dX1_begin_17 (by decide) ?_
          refine wd_istore_n_4_3 hC dX1_begin_23 ?_
          refine wd_aload_n hC dX1_begin_24 rfl rfl ?_
          refine gf_X1_15 hC dX1_begin_25 ?_
          refine wd_iload_n hC dX1_begin_28 rfl rfl ?_
          refine wd_iload_n hC dX1_begin_29 rfl rfl ?_
          refine wd_iload_n hC dX1_begin_30 rfl rfl ?_
          refine wd_icmp_ge (tgt := 43) hC dX1_begin_31 (by decide) (fun c_31 => ?_) (fun c_31 => ?_)
          · refine wd_bipush (v := -9) hC dX1_begin_43 rfl ?_
            refine st_m hC dX1_begin_45 (i) rfl (by omega) ?_
            refine wd_aload_n hC dX1_begin_46 rfl rfl ?_
            refine gf_X1_9 hC dX1_begin_47 ?_
            refine wd_iload_n hC dX1_begin_50 rfl rfl ?_
            refine wd_iconst (v := 0) hC dX1_begin_51 rfl ?_
            refine st_m hC dX1_begin_52 (i) rfl (by omega) ?_
            refine wd_aload_n hC dX1_begin_53 rfl rfl ?_
            refine gf_X1_18 hC dX1_begin_54 ?_
            refine wd_iload_n hC dX1_begin_57 rfl rfl ?_
            refine wd_iconst (v := 0) hC dX1_begin_58 rfl ?_
            refine st_m hC dX1_begin_59 (i) rfl (by omega) ?_
            refine wd_aload_n hC dX1_begin_60 rfl rfl ?_
            refine gf_X1_21 hC dX1_begin_61 ?_
            refine wd_iload_n hC dX1_begin_64 rfl rfl ?_
            refine wd_iconst (v := 0) hC dX1_begin_65 rfl ?_
            refine st_m hC dX1_begin_66 (i) rfl (by omega) ?_
            refine wd_aload_n hC dX1_begin_67 rfl rfl ?_
            refine gf_X1_24 hC dX1_begin_68 ?_
            refine wd_iload_n hC dX1_begin_71 rfl rfl ?_
            refine wd_iconst (v := 0) hC dX1_begin_72 rfl ?_
            refine st_m hC dX1_begin_73 (i) rfl (by omega) ?_
            refine wd_iincN_4_2 hC dX1_begin_74 ?_
            refine wd_goto (tgt := 2) hC dX1_begin_77 (by decide) ?_
            exact wd_ts (bg_step σ j x _ (mv σ j) i (by unfold begV oth; first | (rw [if_pos c_31]; done) | (rw [if_neg c_31, if_pos c_11]; first | (rw [if_pos c_36]; done) | (rw [if_neg c_36]; done)) | (rw [if_neg c_31, if_neg c_11]; first | (rw [if_pos c_36]; done) | (rw [if_neg c_36]; done)))) (ih (i + 1) _ (by omega) (by omega))
          · refine wd_iload_n hC dX1_begin_34 rfl rfl ?_
            refine wd_iload_n hC dX1_begin_35 rfl rfl ?_
            refine wd_icmp_ge (tgt := 43) hC dX1_begin_36 (by decide) (fun c_36 => ?_) (fun c_36 => ?_)
            · refine wd_bipush (v := -9) hC dX1_begin_43 rfl ?_
              refine st_m hC dX1_begin_45 (i) rfl (by omega) ?_
              refine wd_aload_n hC dX1_begin_46 rfl rfl ?_
              refine gf_X1_9 hC dX1_begin_47 ?_
              refine wd_iload_n hC dX1_begin_50 rfl rfl ?_
              refine wd_iconst (v := 0) hC dX1_begin_51 rfl ?_
              refine st_m hC dX1_begin_52 (i) rfl (by omega) ?_
              refine wd_aload_n hC dX1_begin_53 rfl rfl ?_
              refine gf_X1_18 hC dX1_begin_54 ?_
              refine wd_iload_n hC dX1_begin_57 rfl rfl ?_
              refine wd_iconst (v := 0) hC dX1_begin_58 rfl ?_
              refine st_m hC dX1_begin_59 (i) rfl (by omega) ?_
              refine wd_aload_n hC dX1_begin_60 rfl rfl ?_
              refine gf_X1_21 hC dX1_begin_61 ?_
              refine wd_iload_n hC dX1_begin_64 rfl rfl ?_
              refine wd_iconst (v := 0) hC dX1_begin_65 rfl ?_
              refine st_m hC dX1_begin_66 (i) rfl (by omega) ?_
              refine wd_aload_n hC dX1_begin_67 rfl rfl ?_
              refine gf_X1_24 hC dX1_begin_68 ?_
              refine wd_iload_n hC dX1_begin_71 rfl rfl ?_
              refine wd_iconst (v := 0) hC dX1_begin_72 rfl ?_
              refine st_m hC dX1_begin_73 (i) rfl (by omega) ?_
              refine wd_iincN_4_2 hC dX1_begin_74 ?_
              refine wd_goto (tgt := 2) hC dX1_begin_77 (by decide) ?_
              exact wd_ts (bg_step σ j x _ (mv σ j) i (by unfold begV oth; first | (rw [if_pos c_31]; done) | (rw [if_neg c_31, if_pos c_11]; first | (rw [if_pos c_36]; done) | (rw [if_neg c_36]; done)) | (rw [if_neg c_31, if_neg c_11]; first | (rw [if_pos c_36]; done) | (rw [if_neg c_36]; done)))) (ih (i + 1) _ (by omega) (by omega))
            · refine wd_iload_n hC dX1_begin_39 rfl rfl ?_
              refine wd_goto (tgt := 45) hC dX1_begin_40 (by decide) ?_
              refine st_m hC dX1_begin_45 (i) rfl (by omega) ?_
              refine wd_aload_n hC dX1_begin_46 rfl rfl ?_
              refine gf_X1_9 hC dX1_begin_47 ?_
              refine wd_iload_n hC dX1_begin_50 rfl rfl ?_
              refine wd_iconst (v := 0) hC dX1_begin_51 rfl ?_
              refine st_m hC dX1_begin_52 (i) rfl (by omega) ?_
              refine wd_aload_n hC dX1_begin_53 rfl rfl ?_
              refine gf_X1_18 hC dX1_begin_54 ?_
              refine wd_iload_n hC dX1_begin_57 rfl rfl ?_
              refine wd_iconst (v := 0) hC dX1_begin_58 rfl ?_
              refine st_m hC dX1_begin_59 (i) rfl (by omega) ?_
              refine wd_aload_n hC dX1_begin_60 rfl rfl ?_
              refine gf_X1_21 hC dX1_begin_61 ?_
              refine wd_iload_n hC dX1_begin_64 rfl rfl ?_
              refine wd_iconst (v := 0) hC dX1_begin_65 rfl ?_
              refine st_m hC dX1_begin_66 (i) rfl (by omega) ?_
              refine wd_aload_n hC dX1_begin_67 rfl rfl ?_
              refine gf_X1_24 hC dX1_begin_68 ?_
              refine wd_iload_n hC dX1_begin_71 rfl rfl ?_
              refine wd_iconst (v := 0) hC dX1_begin_72 rfl ?_
              refine st_m hC dX1_begin_73 (i) rfl (by omega) ?_
              refine wd_iincN_4_2 hC dX1_begin_74 ?_
              refine wd_goto (tgt := 2) hC dX1_begin_77 (by decide) ?_
              exact wd_ts (bg_step σ j x _ (mv σ j) i (by unfold begV oth; first | (rw [if_pos c_31]; done) | (rw [if_neg c_31, if_pos c_11]; first | (rw [if_pos c_36]; done) | (rw [if_neg c_36]; done)) | (rw [if_neg c_31, if_neg c_11]; first | (rw [if_pos c_36]; done) | (rw [if_neg c_36]; done)))) (ih (i + 1) _ (by omega) (by omega))
  refine wd_ts (show σ = stM σ j (bgI x (mv σ j) 0) from (by rw [show bgI x (mv σ j) 0 = mv σ j from (funext fun k => funext fun i => if_neg (by omega)), stM_self])) ?_
  refine wd_iconst (v := 0) hC dX1_begin_0 rfl ?_
  refine wd_istore_n_4_2 hC dX1_begin_1 ?_
  exact loop 7 0 _ (by decide) (by decide)
/-! ===== the log ===== -/
abbrev lNext (σ : wd_S) : Int32 := σ.1 3 1
abbrev lHeld (σ : wd_S) : Int32 := σ.1 3 2
def lOk (σ : wd_S) : Prop := 0 ≤ lNext σ ∧ lNext σ < nI 10
theorem lOk.n {σ : wd_S} (h : lOk σ) : lNext σ = nI (lNext σ).toNatClampNeg := (ix_of h.1 h.2 (by decide)).1
theorem lOk.n10 {σ : wd_S} (h : lOk σ) : (lNext σ).toNatClampNeg < 10 := (ix_of h.1 h.2 (by decide)).2
def lgAdd (σ : wd_S) : wd_S := wd_up (wd_up (stM σ (4 + (lNext σ).toNatClampNeg) (mv σ 0)) 3 1 (lNext σ + 1 - (lNext σ + 1) / 10 * 10)) 3 2 (imin (lHeld σ + 1) 10)
abbrev lPrev (σ : wd_S) : Int32 := lNext σ + 10 - 1 - (lNext σ + 10 - 1) / 10 * 10
def lgTake (σ : wd_S) : wd_S := stM (wd_up (wd_up σ 3 1 (lPrev σ)) 3 2 (lHeld σ - 1)) 0 (mv σ (4 + (lPrev σ).toNatClampNeg))
theorem wd_up_o {τ : wd_S} {k i a b : Nat} {v : Int32} (h : ¬ (a = k ∧ b = i)) : (wd_up τ k i v).1 a b = τ.1 a b := if_neg h
theorem mv_up_lo (σ : wd_S) (j : Nat) {k : Nat} (hk : k < 36) (i : Nat) (v : Int32) : mv (wd_up σ k i v) j = mv σ j := by
  funext c b
  unfold mv
  by_cases h : c < 6
  · rw [if_pos h, if_pos h, wd_up_n _ _ _ _ (by unfold cm; omega)]
  · rw [if_neg h, if_neg h]
theorem lPrev_ok {σ : wd_S} (h : lOk σ) : lPrev σ = nI (lPrev σ).toNatClampNeg ∧ (lPrev σ).toNatClampNeg < 10 := by
  obtain ⟨n, hn, e⟩ : ∃ n, n < 10 ∧ lNext σ = nI n := ⟨_, h.n10, h.n⟩
  have e2 : lPrev σ = nI ((n + 9) % 10) := by
    unfold lPrev
    rw [e, show (10 : Int32) = nI 10 from rfl, show (1 : Int32) = nI 1 from rfl, nI_add, pk_sub (by omega), pk_rem (by omega) (by decide) (by decide)]
    rfl
  rw [e2, nI_clamp (by omega)]
  exact ⟨rfl, by omega⟩

set_option maxRecDepth 100000 in
set_option maxHeartbeats 4000000 in
theorem c_add {V : wd_V} {ad : Nat → Nat} (hinj : wd_inj cS ad) (σ : wd_S) (hL : lOk σ) : wd_C cS V ad 2 yX0_add (Cond.code yX0_add cX0_add 2 none :: wsL_law) σ [.ref (ad 3), .ref (ad (cm 0))] (wd_eq none (lgAdd σ)) := by
  refine wd_intro (lv := [some (.ref (ad 3)), some (.ref (ad (cm 0)))]) hinj (by decide) rfl (Nat.le_of_ble_eq_true rfl) rfl (Nat.le_of_ble_eq_true rfl) (fun K hC => ?_)
  refine wd_aload_n hC dX0_add_0 rfl rfl ?_
  refine gf_X0_11 hC dX0_add_1 ?_
  refine wd_aload_n hC dX0_add_4 rfl rfl ?_
  refine gf_X0_18 hC dX0_add_5 ?_
  refine ld_g hC dX0_add_8 ((lNext σ).toNatClampNeg) hL.n hL.n10 ?_
  refine wd_aload_n hC dX0_add_9 rfl rfl ?_
  have h10 := hL.n10
  refine cv1v hC cw_X0_22 (c_copyFrom hinj _ 0 (4 + (lNext σ).toNatClampNeg) (by decide) (by omega) (by omega)) dX0_add_10 (by decide) (by decide) rfl rfl (Nat.le_of_ble_eq_true rfl) ?_
  refine wd_aload_n hC dX0_add_13 rfl rfl ?_
  refine wd_aload_n hC dX0_add_14 rfl rfl ?_
  refine gf_X0_18 hC dX0_add_15 ?_
  refine wd_iconst (v := 1) hC dX0_add_18 rfl ?_
  refine wd_iadd hC dX0_add_19 ?_
  refine wd_bipush (v := 10) hC dX0_add_20 rfl ?_
  refine wd_irem hC dX0_add_22 (by decide) ?_
  refine pf_X0_18 hC dX0_add_23 ?_
  refine wd_aload_n hC dX0_add_26 rfl rfl ?_
  refine wd_aload_n hC dX0_add_27 rfl rfl ?_
  refine gf_X0_26 hC dX0_add_28 ?_
  refine wd_iconst (v := 1) hC dX0_add_31 rfl ?_
  refine wd_iadd hC dX0_add_32 ?_
  refine wd_bipush (v := 10) hC dX0_add_33 rfl ?_
  refine wd_mmin hC (wL_16 _ (List.mem_of_getElem? (i := 21) rfl)) (wL_7 _ (List.mem_of_getElem? (i := 0) rfl)) (wL_7 _ (List.mem_of_getElem? (i := 1) rfl)) (wL_7 _ (List.mem_of_getElem? (i := 2) rfl)) (by decide) (Nat.le_of_ble_eq_true rfl) dX0_add_35 ?_
  refine pf_X0_26 hC dX0_add_38 ?_
  exact wd_vret hC rfl dX0_add_41 (by simp only [wd_up_o (show ¬ (3 = 3 ∧ 2 = 1) by decide), stM_lo _ _ _ (show 3 < 36 by decide)]; rfl)
set_option maxRecDepth 100000 in
set_option maxHeartbeats 4000000 in
theorem c_takeLatest {V : wd_V} {ad : Nat → Nat} (hinj : wd_inj cS ad) (σ : wd_S) (hL : lOk σ) (hh : ¬ lHeld σ = 0) : wd_C cS V ad 2 yX0_takeLatest (Cond.code yX0_takeLatest cX0_takeLatest 2 none :: wsL_law) σ [.ref (ad 3), .ref (ad (cm 0))] (wd_eq none (lgTake σ)) := by
  refine wd_intro (lv := [some (.ref (ad 3)), some (.ref (ad (cm 0)))]) hinj (by decide) rfl (Nat.le_of_ble_eq_true rfl) rfl (Nat.le_of_ble_eq_true rfl) (fun K hC => ?_)
  refine wd_aload_n hC dX0_takeLatest_0 rfl rfl ?_
  refine gf_X0_26 hC dX0_takeLatest_1 ?_
  refine wd_if_ne (tgt := 8) hC dX0_takeLatest_4 (by decide) (fun c_4 => ?_) (fun c_4 => absurd c_4 hh)
  refine wd_aload_n hC dX0_takeLatest_8 rfl rfl ?_
  refine wd_aload_n hC dX0_takeLatest_9 rfl rfl ?_
  refine gf_X0_18 hC dX0_takeLatest_10 ?_
  refine wd_bipush (v := 10) hC dX0_takeLatest_13 rfl ?_
  refine wd_iadd hC dX0_takeLatest_15 ?_
  refine wd_iconst (v := 1) hC dX0_takeLatest_16 rfl ?_
  refine wd_isub hC dX0_takeLatest_17 ?_
  refine wd_bipush (v := 10) hC dX0_takeLatest_18 rfl ?_
  refine wd_irem hC dX0_takeLatest_20 (by decide) ?_
  refine pf_X0_18 hC dX0_takeLatest_21 ?_
  refine wd_aload_n hC dX0_takeLatest_24 rfl rfl ?_
  refine wd_dup hC dX0_takeLatest_25 rfl ?_
  refine gf_X0_26 hC dX0_takeLatest_26 ?_
  refine wd_iconst (v := 1) hC dX0_takeLatest_29 rfl ?_
  refine wd_isub hC dX0_takeLatest_30 ?_
  refine pf_X0_26 hC dX0_takeLatest_31 ?_
  refine wd_aload_n hC dX0_takeLatest_34 rfl rfl ?_
  refine wd_aload_n hC dX0_takeLatest_35 rfl rfl ?_
  refine gf_X0_11 hC dX0_takeLatest_36 ?_
  refine wd_aload_n hC dX0_takeLatest_39 rfl rfl ?_
  refine gf_X0_18 hC dX0_takeLatest_40 ?_
  refine ld_g hC dX0_takeLatest_43 ((lPrev σ).toNatClampNeg) (lPrev_ok hL).1 (lPrev_ok hL).2 ?_
  have h10 := (lPrev_ok hL).2
  refine cv1v hC cw_X0_22 (c_copyFrom hinj _ (4 + (lPrev σ).toNatClampNeg) 0 (by omega) (by decide) (by omega)) dX0_takeLatest_44 (by decide) (by decide) rfl rfl (Nat.le_of_ble_eq_true rfl) ?_
  exact wd_vret hC rfl dX0_takeLatest_47 (by rw [mv_up_lo _ _ (by decide), mv_up_lo _ _ (by decide)]; rfl)
end
