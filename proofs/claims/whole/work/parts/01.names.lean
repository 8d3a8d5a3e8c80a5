-- ===== PART A: goes FIRST, ahead of the names: the tables' words, and 'selects' of the private methods out of them =====
/-- a private method of a class that the tables say can be made, by its rows of tables_1 -/
def lw_okq (q : MethodName × Nat) : Prop := (q.1.cls ≠ "java/lang/invoke/MethodHandle" ∧ q.1.cls ≠ "java/lang/invoke/VarHandle") ∧ Cond.instantiable q.1.cls q.2 ∈ tables_1 ∧ Cond.privateMethod q.1 ∈ tables_1 ∧ Cond.instanceMethod q.1 ∈ tables_1
theorem lw_p0 : lw_okq (⟨"LeasedReferences", "acts", "(I)Z"⟩, 5) := ⟨⟨by decide +kernel, by decide +kernel⟩, List.mem_of_getElem? (i := 11) (by decide +kernel), List.mem_of_getElem? (i := 255) (by decide +kernel), List.mem_of_getElem? (i := 256) (by decide +kernel)⟩
theorem lw_p1 : lw_okq (⟨"LeasedReferences$Node", "pinDown", "(II)V"⟩, 10) := ⟨⟨by decide +kernel, by decide +kernel⟩, List.mem_of_getElem? (i := 80) (by decide +kernel), List.mem_of_getElem? (i := 316) (by decide +kernel), List.mem_of_getElem? (i := 317) (by decide +kernel)⟩
theorem lw_p2 : lw_okq (⟨"LeasedReferences$Node", "sendRequest", "()V"⟩, 10) := ⟨⟨by decide +kernel, by decide +kernel⟩, List.mem_of_getElem? (i := 80) (by decide +kernel), List.mem_of_getElem? (i := 336) (by decide +kernel), List.mem_of_getElem? (i := 337) (by decide +kernel)⟩
theorem lw_p3 : lw_okq (⟨"LeasedReferences$Node", "receivePass", "(LLeasedReferences$Message;)Z"⟩, 10) := ⟨⟨by decide +kernel, by decide +kernel⟩, List.mem_of_getElem? (i := 80) (by decide +kernel), List.mem_of_getElem? (i := 361) (by decide +kernel), List.mem_of_getElem? (i := 362) (by decide +kernel)⟩
theorem lw_p4 : lw_okq (⟨"LeasedReferences$Node", "becomePending", "(LLeasedReferences$Slot;LLeasedReferences$Message;)V"⟩, 10) := ⟨⟨by decide +kernel, by decide +kernel⟩, List.mem_of_getElem? (i := 80) (by decide +kernel), List.mem_of_getElem? (i := 378) (by decide +kernel), List.mem_of_getElem? (i := 379) (by decide +kernel)⟩
theorem lw_p5 : lw_okq (⟨"LeasedReferences$Node", "sendDirty", "(LLeasedReferences$Slot;)V"⟩, 10) := ⟨⟨by decide +kernel, by decide +kernel⟩, List.mem_of_getElem? (i := 80) (by decide +kernel), List.mem_of_getElem? (i := 382) (by decide +kernel), List.mem_of_getElem? (i := 383) (by decide +kernel)⟩
theorem lw_p6 : lw_okq (⟨"LeasedReferences$Node", "receiveTaken", "(LLeasedReferences$Message;)Z"⟩, 10) := ⟨⟨by decide +kernel, by decide +kernel⟩, List.mem_of_getElem? (i := 80) (by decide +kernel), List.mem_of_getElem? (i := 386) (by decide +kernel), List.mem_of_getElem? (i := 387) (by decide +kernel)⟩
theorem lw_p7 : lw_okq (⟨"LeasedReferences$Node", "receiveDirty", "(LLeasedReferences$Message;)Z"⟩, 10) := ⟨⟨by decide +kernel, by decide +kernel⟩, List.mem_of_getElem? (i := 80) (by decide +kernel), List.mem_of_getElem? (i := 390) (by decide +kernel), List.mem_of_getElem? (i := 391) (by decide +kernel)⟩
theorem lw_p8 : lw_okq (⟨"LeasedReferences$Node", "receiveListed", "(LLeasedReferences$Message;)Z"⟩, 10) := ⟨⟨by decide +kernel, by decide +kernel⟩, List.mem_of_getElem? (i := 80) (by decide +kernel), List.mem_of_getElem? (i := 394) (by decide +kernel), List.mem_of_getElem? (i := 395) (by decide +kernel)⟩
theorem lw_p9 : lw_okq (⟨"LeasedReferences$Node", "concerns", "(LLeasedReferences$Message;I)Z"⟩, 10) := ⟨⟨by decide +kernel, by decide +kernel⟩, List.mem_of_getElem? (i := 80) (by decide +kernel), List.mem_of_getElem? (i := 398) (by decide +kernel), List.mem_of_getElem? (i := 399) (by decide +kernel)⟩
theorem lw_p10 : lw_okq (⟨"LeasedReferences$Node", "receiveGone", "(LLeasedReferences$Message;)Z"⟩, 10) := ⟨⟨by decide +kernel, by decide +kernel⟩, List.mem_of_getElem? (i := 80) (by decide +kernel), List.mem_of_getElem? (i := 410) (by decide +kernel), List.mem_of_getElem? (i := 411) (by decide +kernel)⟩
theorem lw_p11 : lw_okq (⟨"LeasedReferences$Node", "receiveClean", "(LLeasedReferences$Message;)Z"⟩, 10) := ⟨⟨by decide +kernel, by decide +kernel⟩, List.mem_of_getElem? (i := 80) (by decide +kernel), List.mem_of_getElem? (i := 414) (by decide +kernel), List.mem_of_getElem? (i := 415) (by decide +kernel)⟩
theorem lw_p12 : lw_okq (⟨"LeasedReferences$Node", "receiveCall", "(LLeasedReferences$Message;)Z"⟩, 10) := ⟨⟨by decide +kernel, by decide +kernel⟩, List.mem_of_getElem? (i := 80) (by decide +kernel), List.mem_of_getElem? (i := 418) (by decide +kernel), List.mem_of_getElem? (i := 419) (by decide +kernel)⟩
theorem lw_p13 : lw_okq (⟨"LeasedReferences$Node", "carryOut", "(LLeasedReferences$Message;LLeasedReferences$Message;)V"⟩, 10) := ⟨⟨by decide +kernel, by decide +kernel⟩, List.mem_of_getElem? (i := 80) (by decide +kernel), List.mem_of_getElem? (i := 422) (by decide +kernel), List.mem_of_getElem? (i := 423) (by decide +kernel)⟩
theorem lw_p14 : lw_okq (⟨"LeasedReferences$Node", "receiveReply", "(LLeasedReferences$Message;)Z"⟩, 10) := ⟨⟨by decide +kernel, by decide +kernel⟩, List.mem_of_getElem? (i := 80) (by decide +kernel), List.mem_of_getElem? (i := 432) (by decide +kernel), List.mem_of_getElem? (i := 433) (by decide +kernel)⟩
theorem lw_p15 : lw_okq (⟨"LeasedReferences$Node", "repeatRequest", "()V"⟩, 10) := ⟨⟨by decide +kernel, by decide +kernel⟩, List.mem_of_getElem? (i := 80) (by decide +kernel), List.mem_of_getElem? (i := 453) (by decide +kernel), List.mem_of_getElem? (i := 454) (by decide +kernel)⟩
def lw_privs_1 : List (MethodName × Nat) := [(⟨"LeasedReferences", "acts", "(I)Z"⟩, 5), (⟨"LeasedReferences$Node", "pinDown", "(II)V"⟩, 10), (⟨"LeasedReferences$Node", "sendRequest", "()V"⟩, 10), (⟨"LeasedReferences$Node", "receivePass", "(LLeasedReferences$Message;)Z"⟩, 10), (⟨"LeasedReferences$Node", "becomePending", "(LLeasedReferences$Slot;LLeasedReferences$Message;)V"⟩, 10), (⟨"LeasedReferences$Node", "sendDirty", "(LLeasedReferences$Slot;)V"⟩, 10), (⟨"LeasedReferences$Node", "receiveTaken", "(LLeasedReferences$Message;)Z"⟩, 10), (⟨"LeasedReferences$Node", "receiveDirty", "(LLeasedReferences$Message;)Z"⟩, 10), (⟨"LeasedReferences$Node", "receiveListed", "(LLeasedReferences$Message;)Z"⟩, 10), (⟨"LeasedReferences$Node", "concerns", "(LLeasedReferences$Message;I)Z"⟩, 10), (⟨"LeasedReferences$Node", "receiveGone", "(LLeasedReferences$Message;)Z"⟩, 10), (⟨"LeasedReferences$Node", "receiveClean", "(LLeasedReferences$Message;)Z"⟩, 10), (⟨"LeasedReferences$Node", "receiveCall", "(LLeasedReferences$Message;)Z"⟩, 10), (⟨"LeasedReferences$Node", "carryOut", "(LLeasedReferences$Message;LLeasedReferences$Message;)V"⟩, 10), (⟨"LeasedReferences$Node", "receiveReply", "(LLeasedReferences$Message;)Z"⟩, 10), (⟨"LeasedReferences$Node", "repeatRequest", "()V"⟩, 10)]
theorem lw_r1 : ∀ q ∈ lw_privs_1, lw_okq q := List.forall_mem_cons.mpr ⟨lw_p0, List.forall_mem_cons.mpr ⟨lw_p1, List.forall_mem_cons.mpr ⟨lw_p2, List.forall_mem_cons.mpr ⟨lw_p3, List.forall_mem_cons.mpr ⟨lw_p4, List.forall_mem_cons.mpr ⟨lw_p5, List.forall_mem_cons.mpr ⟨lw_p6, List.forall_mem_cons.mpr ⟨lw_p7, List.forall_mem_cons.mpr ⟨lw_p8, List.forall_mem_cons.mpr ⟨lw_p9, List.forall_mem_cons.mpr ⟨lw_p10, List.forall_mem_cons.mpr ⟨lw_p11, List.forall_mem_cons.mpr ⟨lw_p12, List.forall_mem_cons.mpr ⟨lw_p13, List.forall_mem_cons.mpr ⟨lw_p14, List.forall_mem_cons.mpr ⟨lw_p15, fun _ h => absurd h List.not_mem_nil⟩⟩⟩⟩⟩⟩⟩⟩⟩⟩⟩⟩⟩⟩⟩⟩
theorem lw_p16 : lw_okq (⟨"LeasedReferences$Node", "markKeptSlots", "()V"⟩, 10) := ⟨⟨by decide +kernel, by decide +kernel⟩, List.mem_of_getElem? (i := 80) (by decide +kernel), List.mem_of_getElem? (i := 465) (by decide +kernel), List.mem_of_getElem? (i := 466) (by decide +kernel)⟩
theorem lw_p17 : lw_okq (⟨"LeasedReferences$Node", "keep", "(I)V"⟩, 10) := ⟨⟨by decide +kernel, by decide +kernel⟩, List.mem_of_getElem? (i := 80) (by decide +kernel), List.mem_of_getElem? (i := 473) (by decide +kernel), List.mem_of_getElem? (i := 474) (by decide +kernel)⟩
theorem lw_p18 : lw_okq (⟨"LeasedReferences$Node", "keepWhatFieldsReferTo", "()V"⟩, 10) := ⟨⟨by decide +kernel, by decide +kernel⟩, List.mem_of_getElem? (i := 80) (by decide +kernel), List.mem_of_getElem? (i := 477) (by decide +kernel), List.mem_of_getElem? (i := 478) (by decide +kernel)⟩
theorem lw_p19 : lw_okq (⟨"LeasedReferences$Node", "sendClean", "(LLeasedReferences$Slot;)V"⟩, 10) := ⟨⟨by decide +kernel, by decide +kernel⟩, List.mem_of_getElem? (i := 80) (by decide +kernel), List.mem_of_getElem? (i := 481) (by decide +kernel), List.mem_of_getElem? (i := 482) (by decide +kernel)⟩
theorem lw_p20 : lw_okq (⟨"LeasedReferencesModel", "lives", "(I)Z"⟩, 36) := ⟨⟨by decide +kernel, by decide +kernel⟩, List.mem_of_getElem? (i := 533) (by decide +kernel), List.mem_of_getElem? (i := 652) (by decide +kernel), List.mem_of_getElem? (i := 653) (by decide +kernel)⟩
theorem lw_p21 : lw_okq (⟨"LeasedReferencesModel", "emptySlot", "(I)I"⟩, 36) := ⟨⟨by decide +kernel, by decide +kernel⟩, List.mem_of_getElem? (i := 533) (by decide +kernel), List.mem_of_getElem? (i := 659) (by decide +kernel), List.mem_of_getElem? (i := 660) (by decide +kernel)⟩
theorem lw_p22 : lw_okq (⟨"LeasedReferencesModel", "at", "(II)I"⟩, 36) := ⟨⟨by decide +kernel, by decide +kernel⟩, List.mem_of_getElem? (i := 533) (by decide +kernel), List.mem_of_getElem? (i := 667) (by decide +kernel), List.mem_of_getElem? (i := 668) (by decide +kernel)⟩
theorem lw_p23 : lw_okq (⟨"LeasedReferencesModel", "pinsOf", "(I)I"⟩, 36) := ⟨⟨by decide +kernel, by decide +kernel⟩, List.mem_of_getElem? (i := 533) (by decide +kernel), List.mem_of_getElem? (i := 683) (by decide +kernel), List.mem_of_getElem? (i := 684) (by decide +kernel)⟩
theorem lw_p24 : lw_okq (⟨"LeasedReferencesModel", "pinned", "(I)Z"⟩, 36) := ⟨⟨by decide +kernel, by decide +kernel⟩, List.mem_of_getElem? (i := 533) (by decide +kernel), List.mem_of_getElem? (i := 687) (by decide +kernel), List.mem_of_getElem? (i := 688) (by decide +kernel)⟩
theorem lw_p25 : lw_okq (⟨"LeasedReferencesModel", "stale", "(I)Z"⟩, 36) := ⟨⟨by decide +kernel, by decide +kernel⟩, List.mem_of_getElem? (i := 533) (by decide +kernel), List.mem_of_getElem? (i := 691) (by decide +kernel), List.mem_of_getElem? (i := 692) (by decide +kernel)⟩
theorem lw_p26 : lw_okq (⟨"LeasedReferencesModel", "send", "(IIIIII)V"⟩, 36) := ⟨⟨by decide +kernel, by decide +kernel⟩, List.mem_of_getElem? (i := 533) (by decide +kernel), List.mem_of_getElem? (i := 695) (by decide +kernel), List.mem_of_getElem? (i := 696) (by decide +kernel)⟩
theorem lw_p27 : lw_okq (⟨"LeasedReferencesModel", "sendCall", "(I)V"⟩, 36) := ⟨⟨by decide +kernel, by decide +kernel⟩, List.mem_of_getElem? (i := 533) (by decide +kernel), List.mem_of_getElem? (i := 703) (by decide +kernel), List.mem_of_getElem? (i := 704) (by decide +kernel)⟩
theorem lw_p28 : lw_okq (⟨"LeasedReferencesModel", "renew", "(I)V"⟩, 36) := ⟨⟨by decide +kernel, by decide +kernel⟩, List.mem_of_getElem? (i := 533) (by decide +kernel), List.mem_of_getElem? (i := 711) (by decide +kernel), List.mem_of_getElem? (i := 712) (by decide +kernel)⟩
theorem lw_p29 : lw_okq (⟨"LeasedReferencesModel", "sendDirty", "(I)I"⟩, 36) := ⟨⟨by decide +kernel, by decide +kernel⟩, List.mem_of_getElem? (i := 533) (by decide +kernel), List.mem_of_getElem? (i := 715) (by decide +kernel), List.mem_of_getElem? (i := 716) (by decide +kernel)⟩
theorem lw_p30 : lw_okq (⟨"LeasedReferencesModel", "nextNumber", "(I)I"⟩, 36) := ⟨⟨by decide +kernel, by decide +kernel⟩, List.mem_of_getElem? (i := 533) (by decide +kernel), List.mem_of_getElem? (i := 719) (by decide +kernel), List.mem_of_getElem? (i := 720) (by decide +kernel)⟩
theorem lw_p31 : lw_okq (⟨"LeasedReferencesModel", "mark", "(I)V"⟩, 36) := ⟨⟨by decide +kernel, by decide +kernel⟩, List.mem_of_getElem? (i := 533) (by decide +kernel), List.mem_of_getElem? (i := 727) (by decide +kernel), List.mem_of_getElem? (i := 728) (by decide +kernel)⟩
def lw_privs_2 : List (MethodName × Nat) := [(⟨"LeasedReferences$Node", "markKeptSlots", "()V"⟩, 10), (⟨"LeasedReferences$Node", "keep", "(I)V"⟩, 10), (⟨"LeasedReferences$Node", "keepWhatFieldsReferTo", "()V"⟩, 10), (⟨"LeasedReferences$Node", "sendClean", "(LLeasedReferences$Slot;)V"⟩, 10), (⟨"LeasedReferencesModel", "lives", "(I)Z"⟩, 36), (⟨"LeasedReferencesModel", "emptySlot", "(I)I"⟩, 36), (⟨"LeasedReferencesModel", "at", "(II)I"⟩, 36), (⟨"LeasedReferencesModel", "pinsOf", "(I)I"⟩, 36), (⟨"LeasedReferencesModel", "pinned", "(I)Z"⟩, 36), (⟨"LeasedReferencesModel", "stale", "(I)Z"⟩, 36), (⟨"LeasedReferencesModel", "send", "(IIIIII)V"⟩, 36), (⟨"LeasedReferencesModel", "sendCall", "(I)V"⟩, 36), (⟨"LeasedReferencesModel", "renew", "(I)V"⟩, 36), (⟨"LeasedReferencesModel", "sendDirty", "(I)I"⟩, 36), (⟨"LeasedReferencesModel", "nextNumber", "(I)I"⟩, 36), (⟨"LeasedReferencesModel", "mark", "(I)V"⟩, 36)]
theorem lw_r2 : ∀ q ∈ lw_privs_2, lw_okq q := List.forall_mem_cons.mpr ⟨lw_p16, List.forall_mem_cons.mpr ⟨lw_p17, List.forall_mem_cons.mpr ⟨lw_p18, List.forall_mem_cons.mpr ⟨lw_p19, List.forall_mem_cons.mpr ⟨lw_p20, List.forall_mem_cons.mpr ⟨lw_p21, List.forall_mem_cons.mpr ⟨lw_p22, List.forall_mem_cons.mpr ⟨lw_p23, List.forall_mem_cons.mpr ⟨lw_p24, List.forall_mem_cons.mpr ⟨lw_p25, List.forall_mem_cons.mpr ⟨lw_p26, List.forall_mem_cons.mpr ⟨lw_p27, List.forall_mem_cons.mpr ⟨lw_p28, List.forall_mem_cons.mpr ⟨lw_p29, List.forall_mem_cons.mpr ⟨lw_p30, List.forall_mem_cons.mpr ⟨lw_p31, fun _ h => absurd h List.not_mem_nil⟩⟩⟩⟩⟩⟩⟩⟩⟩⟩⟩⟩⟩⟩⟩⟩
theorem lw_p32 : lw_okq (⟨"LeasedReferencesModel", "listed", "(I)Z"⟩, 36) := ⟨⟨by decide +kernel, by decide +kernel⟩, List.mem_of_getElem? (i := 533) (by decide +kernel), List.mem_of_getElem? (i := 731) (by decide +kernel), List.mem_of_getElem? (i := 732) (by decide +kernel)⟩
theorem lw_p33 : lw_okq (⟨"LeasedReferencesModel", "keep", "(I)V"⟩, 36) := ⟨⟨by decide +kernel, by decide +kernel⟩, List.mem_of_getElem? (i := 533) (by decide +kernel), List.mem_of_getElem? (i := 735) (by decide +kernel), List.mem_of_getElem? (i := 736) (by decide +kernel)⟩
theorem lw_p34 : lw_okq (⟨"LeasedReferencesModel", "takeOut", "(I)V"⟩, 36) := ⟨⟨by decide +kernel, by decide +kernel⟩, List.mem_of_getElem? (i := 533) (by decide +kernel), List.mem_of_getElem? (i := 747) (by decide +kernel), List.mem_of_getElem? (i := 748) (by decide +kernel)⟩
theorem lw_p35 : lw_okq (⟨"LeasedReferencesModel", "comes", "(III)Z"⟩, 36) := ⟨⟨by decide +kernel, by decide +kernel⟩, List.mem_of_getElem? (i := 533) (by decide +kernel), List.mem_of_getElem? (i := 751) (by decide +kernel), List.mem_of_getElem? (i := 752) (by decide +kernel)⟩
theorem lw_p36 : lw_okq (⟨"LeasedReferencesModel", "passComes", "(II)Z"⟩, 36) := ⟨⟨by decide +kernel, by decide +kernel⟩, List.mem_of_getElem? (i := 533) (by decide +kernel), List.mem_of_getElem? (i := 755) (by decide +kernel), List.mem_of_getElem? (i := 756) (by decide +kernel)⟩
theorem lw_p37 : lw_okq (⟨"LeasedReferencesModel", "find", "(III)I"⟩, 36) := ⟨⟨by decide +kernel, by decide +kernel⟩, List.mem_of_getElem? (i := 533) (by decide +kernel), List.mem_of_getElem? (i := 759) (by decide +kernel), List.mem_of_getElem? (i := 760) (by decide +kernel)⟩
theorem lw_p38 : lw_okq (⟨"LeasedReferencesModel", "takenComes", "(I)Z"⟩, 36) := ⟨⟨by decide +kernel, by decide +kernel⟩, List.mem_of_getElem? (i := 533) (by decide +kernel), List.mem_of_getElem? (i := 763) (by decide +kernel), List.mem_of_getElem? (i := 764) (by decide +kernel)⟩
theorem lw_p39 : lw_okq (⟨"LeasedReferencesModel", "dirtyComes", "(II)Z"⟩, 36) := ⟨⟨by decide +kernel, by decide +kernel⟩, List.mem_of_getElem? (i := 533) (by decide +kernel), List.mem_of_getElem? (i := 767) (by decide +kernel), List.mem_of_getElem? (i := 768) (by decide +kernel)⟩
theorem lw_p40 : lw_okq (⟨"LeasedReferencesModel", "listedComes", "(II)Z"⟩, 36) := ⟨⟨by decide +kernel, by decide +kernel⟩, List.mem_of_getElem? (i := 533) (by decide +kernel), List.mem_of_getElem? (i := 771) (by decide +kernel), List.mem_of_getElem? (i := 772) (by decide +kernel)⟩
theorem lw_p41 : lw_okq (⟨"LeasedReferencesModel", "cleanComes", "(II)Z"⟩, 36) := ⟨⟨by decide +kernel, by decide +kernel⟩, List.mem_of_getElem? (i := 533) (by decide +kernel), List.mem_of_getElem? (i := 775) (by decide +kernel), List.mem_of_getElem? (i := 776) (by decide +kernel)⟩
theorem lw_p42 : lw_okq (⟨"LeasedReferencesModel", "callComes", "(II)Z"⟩, 36) := ⟨⟨by decide +kernel, by decide +kernel⟩, List.mem_of_getElem? (i := 533) (by decide +kernel), List.mem_of_getElem? (i := 779) (by decide +kernel), List.mem_of_getElem? (i := 780) (by decide +kernel)⟩
theorem lw_p43 : lw_okq (⟨"LeasedReferencesModel", "answerComes", "(II)Z"⟩, 36) := ⟨⟨by decide +kernel, by decide +kernel⟩, List.mem_of_getElem? (i := 533) (by decide +kernel), List.mem_of_getElem? (i := 783) (by decide +kernel), List.mem_of_getElem? (i := 784) (by decide +kernel)⟩
def lw_privs_3 : List (MethodName × Nat) := [(⟨"LeasedReferencesModel", "listed", "(I)Z"⟩, 36), (⟨"LeasedReferencesModel", "keep", "(I)V"⟩, 36), (⟨"LeasedReferencesModel", "takeOut", "(I)V"⟩, 36), (⟨"LeasedReferencesModel", "comes", "(III)Z"⟩, 36), (⟨"LeasedReferencesModel", "passComes", "(II)Z"⟩, 36), (⟨"LeasedReferencesModel", "find", "(III)I"⟩, 36), (⟨"LeasedReferencesModel", "takenComes", "(I)Z"⟩, 36), (⟨"LeasedReferencesModel", "dirtyComes", "(II)Z"⟩, 36), (⟨"LeasedReferencesModel", "listedComes", "(II)Z"⟩, 36), (⟨"LeasedReferencesModel", "cleanComes", "(II)Z"⟩, 36), (⟨"LeasedReferencesModel", "callComes", "(II)Z"⟩, 36), (⟨"LeasedReferencesModel", "answerComes", "(II)Z"⟩, 36)]
theorem lw_r3 : ∀ q ∈ lw_privs_3, lw_okq q := List.forall_mem_cons.mpr ⟨lw_p32, List.forall_mem_cons.mpr ⟨lw_p33, List.forall_mem_cons.mpr ⟨lw_p34, List.forall_mem_cons.mpr ⟨lw_p35, List.forall_mem_cons.mpr ⟨lw_p36, List.forall_mem_cons.mpr ⟨lw_p37, List.forall_mem_cons.mpr ⟨lw_p38, List.forall_mem_cons.mpr ⟨lw_p39, List.forall_mem_cons.mpr ⟨lw_p40, List.forall_mem_cons.mpr ⟨lw_p41, List.forall_mem_cons.mpr ⟨lw_p42, List.forall_mem_cons.mpr ⟨lw_p43, fun _ h => absurd h List.not_mem_nil⟩⟩⟩⟩⟩⟩⟩⟩⟩⟩⟩⟩
def lw_privs : List (MethodName × Nat) := lw_privs_1 ++ (lw_privs_2 ++ (lw_privs_3))
def lw_tbl : List Cond := k2_sels lw_privs ++ tables_1
theorem lw_privs_ok : ∀ q ∈ lw_privs, lw_okq q := by
  show ∀ q ∈ lw_privs_1 ++ (lw_privs_2 ++ (lw_privs_3)), lw_okq q
  exact List.forall_mem_append.mpr ⟨lw_r1, List.forall_mem_append.mpr ⟨lw_r2, lw_r3⟩⟩

def lr_tb : List Cond := lw_tbl.filter goodWord
theorem lr_mem (i : Nat) {w : Cond} (h : lw_tbl[i]? = some w) (g : goodWord w = true) : w ∈ lr_tb := List.mem_filter.mpr ⟨List.mem_of_getElem? h, g⟩
theorem lr_gd1 {w : Cond} (h : w ∈ lr_tb) : (w.onTables && w.keeps) = true ∨ ∃ ty, w = .arrayClass ty := good_of_word (List.mem_filter.mp h).2
def lr_R0 : String := "LeasedReferences$Message"
def lr_F0 : u_T := fun k => match k with
  | 0 => ("LeasedReferences$Message", "kind", "I", false)
  | 1 => ("LeasedReferences$Message", "sender", "I", false)
  | 2 => ("LeasedReferences$Message", "receiver", "I", false)
  | 3 => ("LeasedReferences$Message", "serial", "I", false)
  | 4 => ("LeasedReferences$Message", "number", "I", false)
  | _ => ("LeasedReferences$Message", "extra", "I", false)
def lr_t0 : Nat → FieldType := fun k => match k with
  | 0 => .int
  | 1 => .int
  | 2 => .int
  | 3 => .int
  | 4 => .int
  | _ => .int
theorem lr_nm0 : ∀ a, a < 6 → ∀ b, b < 6 → a ≠ b → (lr_F0 a).2.1 ≠ (lr_F0 b).2.1 := by decide +kernel
theorem lr_ty0 : ∀ k, k < 6 → parseFieldDescriptor (lr_F0 k).2.2.1 = some (lr_t0 k) := by decide +kernel
theorem lr_in0 : ∀ w ∈ u_ws lr_R0 lr_F0 6, w ∈ lr_tb := by decide +kernel
def lr_R1 : String := "LeasedReferences$Network"
def lr_F1 : u_T := fun k => match k with
  | 0 => ("LeasedReferences$Network", "clock", "I", false)
  | 1 => ("LeasedReferences$Network", "count", "I", false)
  | _ => ("LeasedReferences$Network", "messages", "[LLeasedReferences$Message;", true)
def lr_t1 : Nat → FieldType := fun k => match k with
  | 0 => .int
  | 1 => .int
  | _ => .array (.object "LeasedReferences$Message")
theorem lr_nm1 : ∀ a, a < 3 → ∀ b, b < 3 → a ≠ b → (lr_F1 a).2.1 ≠ (lr_F1 b).2.1 := by decide +kernel
theorem lr_ty1 : ∀ k, k < 3 → parseFieldDescriptor (lr_F1 k).2.2.1 = some (lr_t1 k) := by decide +kernel
theorem lr_in1 : ∀ w ∈ u_ws lr_R1 lr_F1 3, w ∈ lr_tb := by decide +kernel
def lr_R2 : String := "LeasedReferences$Node"
def lr_F2 : u_T := fun k => match k with
  | 0 => ("LeasedReferences$Node", "id", "I", true)
  | 1 => ("LeasedReferences$Node", "network", "LLeasedReferences$Network;", true)
  | 2 => ("LeasedReferences$Node", "slots", "[LLeasedReferences$Slot;", true)
  | 3 => ("LeasedReferences$Node", "roots", "[I", true)
  | 4 => ("LeasedReferences$Node", "pins", "[LLeasedReferences$Pin;", true)
  | 5 => ("LeasedReferences$Node", "request", "LLeasedReferences$Request;", true)
  | 6 => ("LeasedReferences$Node", "replies", "[LLeasedReferences$Message;", true)
  | 7 => ("LeasedReferences$Node", "kept", "[Z", true)
  | 8 => ("LeasedReferences$Node", "latestNumber", "I", false)
  | _ => ("LeasedReferences$Node", "crashed", "Z", false)
def lr_t2 : Nat → FieldType := fun k => match k with
  | 0 => .int
  | 1 => .object "LeasedReferences$Network"
  | 2 => .array (.object "LeasedReferences$Slot")
  | 3 => .array .int
  | 4 => .array (.object "LeasedReferences$Pin")
  | 5 => .object "LeasedReferences$Request"
  | 6 => .array (.object "LeasedReferences$Message")
  | 7 => .array .boolean
  | 8 => .int
  | _ => .boolean
theorem lr_nm2 : ∀ a, a < 10 → ∀ b, b < 10 → a ≠ b → (lr_F2 a).2.1 ≠ (lr_F2 b).2.1 := by decide +kernel
theorem lr_ty2 : ∀ k, k < 10 → parseFieldDescriptor (lr_F2 k).2.2.1 = some (lr_t2 k) := by decide +kernel
theorem lr_in2 : ∀ w ∈ u_ws lr_R2 lr_F2 10, w ∈ lr_tb := by decide +kernel
def lr_R3 : String := "LeasedReferences$Pin"
def lr_F3 : u_T := fun k => match k with
  | 0 => ("LeasedReferences$Pin", "id", "I", false)
  | 1 => ("LeasedReferences$Pin", "slot", "I", false)
  | _ => ("LeasedReferences$Pin", "end", "I", false)
def lr_t3 : Nat → FieldType := fun k => match k with
  | 0 => .int
  | 1 => .int
  | _ => .int
theorem lr_nm3 : ∀ a, a < 3 → ∀ b, b < 3 → a ≠ b → (lr_F3 a).2.1 ≠ (lr_F3 b).2.1 := by decide +kernel
theorem lr_ty3 : ∀ k, k < 3 → parseFieldDescriptor (lr_F3 k).2.2.1 = some (lr_t3 k) := by decide +kernel
theorem lr_in3 : ∀ w ∈ u_ws lr_R3 lr_F3 3, w ∈ lr_tb := by decide +kernel
def lr_R4 : String := "LeasedReferences$Request"
def lr_F4 : u_T := fun k => match k with
  | 0 => ("LeasedReferences$Request", "state", "I", false)
  | 1 => ("LeasedReferences$Request", "number", "I", false)
  | 2 => ("LeasedReferences$Request", "slot", "I", false)
  | 3 => ("LeasedReferences$Request", "amount", "I", false)
  | 4 => ("LeasedReferences$Request", "sent", "I", false)
  | _ => ("LeasedReferences$Request", "result", "I", false)
def lr_t4 : Nat → FieldType := fun k => match k with
  | 0 => .int
  | 1 => .int
  | 2 => .int
  | 3 => .int
  | 4 => .int
  | _ => .int
theorem lr_nm4 : ∀ a, a < 6 → ∀ b, b < 6 → a ≠ b → (lr_F4 a).2.1 ≠ (lr_F4 b).2.1 := by decide +kernel
theorem lr_ty4 : ∀ k, k < 6 → parseFieldDescriptor (lr_F4 k).2.2.1 = some (lr_t4 k) := by decide +kernel
theorem lr_in4 : ∀ w ∈ u_ws lr_R4 lr_F4 6, w ∈ lr_tb := by decide +kernel
def lr_R5 : String := "LeasedReferences$Slot"
def lr_F5 : u_T := fun k => match k with
  | 0 => ("LeasedReferences$Slot", "holds", "I", false)
  | 1 => ("LeasedReferences$Slot", "serial", "I", false)
  | 2 => ("LeasedReferences$Slot", "value", "I", false)
  | 3 => ("LeasedReferences$Slot", "fields", "[I", true)
  | 4 => ("LeasedReferences$Slot", "last", "[I", true)
  | 5 => ("LeasedReferences$Slot", "listedUntil", "[I", true)
  | 6 => ("LeasedReferences$Slot", "owner", "I", false)
  | 7 => ("LeasedReferences$Slot", "first", "I", false)
  | 8 => ("LeasedReferences$Slot", "sent", "I", false)
  | 9 => ("LeasedReferences$Slot", "expiry", "I", false)
  | 10 => ("LeasedReferences$Slot", "confirmed", "Z", false)
  | 11 => ("LeasedReferences$Slot", "owedSender", "I", false)
  | _ => ("LeasedReferences$Slot", "owedId", "I", false)
def lr_t5 : Nat → FieldType := fun k => match k with
  | 0 => .int
  | 1 => .int
  | 2 => .int
  | 3 => .array .int
  | 4 => .array .int
  | 5 => .array .int
  | 6 => .int
  | 7 => .int
  | 8 => .int
  | 9 => .int
  | 10 => .boolean
  | 11 => .int
  | _ => .int
theorem lr_nm5 : ∀ a, a < 13 → ∀ b, b < 13 → a ≠ b → (lr_F5 a).2.1 ≠ (lr_F5 b).2.1 := by decide +kernel
theorem lr_ty5 : ∀ k, k < 13 → parseFieldDescriptor (lr_F5 k).2.2.1 = some (lr_t5 k) := by decide +kernel
theorem lr_in5 : ∀ w ∈ u_ws lr_R5 lr_F5 13, w ∈ lr_tb := by decide +kernel
def lr_R6 : String := "LeasedReferences"
def lr_F6 : u_T := fun k => match k with
  | 0 => ("LeasedReferences", "network", "LLeasedReferences$Network;", true)
  | 1 => ("LeasedReferences", "nodes", "[LLeasedReferences$Node;", true)
  | 2 => ("LeasedReferences", "taken", "LLeasedReferences$Message;", true)
  | 3 => ("LeasedReferences", "nextSerial", "I", false)
  | _ => ("LeasedReferences", "nextPass", "I", false)
def lr_t6 : Nat → FieldType := fun k => match k with
  | 0 => .object "LeasedReferences$Network"
  | 1 => .array (.object "LeasedReferences$Node")
  | 2 => .object "LeasedReferences$Message"
  | 3 => .int
  | _ => .int
theorem lr_nm6 : ∀ a, a < 5 → ∀ b, b < 5 → a ≠ b → (lr_F6 a).2.1 ≠ (lr_F6 b).2.1 := by decide +kernel
theorem lr_ty6 : ∀ k, k < 5 → parseFieldDescriptor (lr_F6 k).2.2.1 = some (lr_t6 k) := by decide +kernel
theorem lr_in6 : ∀ w ∈ u_ws lr_R6 lr_F6 5, w ∈ lr_tb := by decide +kernel
def lr_R7 : String := "LeasedReferencesModel"
def lr_F7 : u_T := fun k => match k with
  | 0 => ("LeasedReferencesModel", "clock", "I", false)
  | 1 => ("LeasedReferencesModel", "dead", "[Z", true)
  | 2 => ("LeasedReferencesModel", "roots", "[I", true)
  | 3 => ("LeasedReferencesModel", "numbers", "[I", true)
  | 4 => ("LeasedReferencesModel", "holds", "[I", true)
  | 5 => ("LeasedReferencesModel", "serials", "[I", true)
  | 6 => ("LeasedReferencesModel", "values", "[I", true)
  | 7 => ("LeasedReferencesModel", "fields", "[I", true)
  | 8 => ("LeasedReferencesModel", "lasts", "[I", true)
  | 9 => ("LeasedReferencesModel", "until", "[I", true)
  | 10 => ("LeasedReferencesModel", "owners", "[I", true)
  | 11 => ("LeasedReferencesModel", "firsts", "[I", true)
  | 12 => ("LeasedReferencesModel", "sents", "[I", true)
  | 13 => ("LeasedReferencesModel", "expiry", "[I", true)
  | 14 => ("LeasedReferencesModel", "good", "[Z", true)
  | 15 => ("LeasedReferencesModel", "debt", "[I", true)
  | 16 => ("LeasedReferencesModel", "creditor", "[I", true)
  | 17 => ("LeasedReferencesModel", "made", "I", false)
  | 18 => ("LeasedReferencesModel", "air", "[I", true)
  | 19 => ("LeasedReferencesModel", "inAir", "I", false)
  | 20 => ("LeasedReferencesModel", "got", "[I", true)
  | 21 => ("LeasedReferencesModel", "pinAt", "[I", true)
  | 22 => ("LeasedReferencesModel", "pinTime", "[I", true)
  | 23 => ("LeasedReferencesModel", "pinOver", "[Z", true)
  | 24 => ("LeasedReferencesModel", "passes", "I", false)
  | 25 => ("LeasedReferencesModel", "callState", "[I", true)
  | 26 => ("LeasedReferencesModel", "callNumber", "[I", true)
  | 27 => ("LeasedReferencesModel", "callSlot", "[I", true)
  | 28 => ("LeasedReferencesModel", "callAmount", "[I", true)
  | 29 => ("LeasedReferencesModel", "callSent", "[I", true)
  | 30 => ("LeasedReferencesModel", "callResult", "[I", true)
  | 31 => ("LeasedReferencesModel", "doneNumber", "[I", true)
  | 32 => ("LeasedReferencesModel", "doneKind", "[I", true)
  | 33 => ("LeasedReferencesModel", "doneSerial", "[I", true)
  | 34 => ("LeasedReferencesModel", "doneExtra", "[I", true)
  | _ => ("LeasedReferencesModel", "kept", "[Z", true)
def lr_t7 : Nat → FieldType := fun k => match k with
  | 0 => .int
  | 1 => .array .boolean
  | 2 => .array .int
  | 3 => .array .int
  | 4 => .array .int
  | 5 => .array .int
  | 6 => .array .int
  | 7 => .array .int
  | 8 => .array .int
  | 9 => .array .int
  | 10 => .array .int
  | 11 => .array .int
  | 12 => .array .int
  | 13 => .array .int
  | 14 => .array .boolean
  | 15 => .array .int
  | 16 => .array .int
  | 17 => .int
  | 18 => .array .int
  | 19 => .int
  | 20 => .array .int
  | 21 => .array .int
  | 22 => .array .int
  | 23 => .array .boolean
  | 24 => .int
  | 25 => .array .int
  | 26 => .array .int
  | 27 => .array .int
  | 28 => .array .int
  | 29 => .array .int
  | 30 => .array .int
  | 31 => .array .int
  | 32 => .array .int
  | 33 => .array .int
  | 34 => .array .int
  | _ => .array .boolean
theorem lr_nm7 : ∀ a, a < 36 → ∀ b, b < 36 → a ≠ b → (lr_F7 a).2.1 ≠ (lr_F7 b).2.1 := by decide +kernel
theorem lr_ty7 : ∀ k, k < 36 → parseFieldDescriptor (lr_F7 k).2.2.1 = some (lr_t7 k) := by decide +kernel
theorem lr_in7 : ∀ w ∈ u_ws lr_R7 lr_F7 36, w ∈ lr_tb := by decide +kernel
abbrev lr_cl : List vw_C := [(lr_R0, lr_F0, 6), (lr_R1, lr_F1, 3), (lr_R2, lr_F2, 10), (lr_R3, lr_F3, 3), (lr_R4, lr_F4, 6), (lr_R5, lr_F5, 13), (lr_R6, lr_F6, 5), (lr_R7, lr_F7, 36)]
abbrev lr_M : Type := MethodName × ByteArray × Nat × Option FieldType × Nat × Nat
