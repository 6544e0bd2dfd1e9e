section
-- ===== PART A: goes FIRST, ahead of the names: the tables' words, and 'selects' of the private methods out of them =====
/-- a private method of a class that the tables say can be made, by its rows of tables_1 -/
def lw_okq (q : MethodName × Nat) : Prop := (q.1.cls ≠ "java/lang/invoke/MethodHandle" ∧ q.1.cls ≠ "java/lang/invoke/VarHandle") ∧ Cond.instantiable q.1.cls q.2 ∈ tables_1 ∧ Cond.privateMethod q.1 ∈ tables_1 ∧ Cond.instanceMethod q.1 ∈ tables_1
theorem lw_p0 : lw_okq (⟨"AnchoredNotes$History", "forgetOldest", "()V"⟩, 2) := ⟨⟨by decide +kernel, by decide +kernel⟩, List.mem_of_getElem? (i := 216) (by decide +kernel), List.mem_of_getElem? (i := 313) (by decide +kernel), List.mem_of_getElem? (i := 314) (by decide +kernel)⟩
theorem lw_p1 : lw_okq (⟨"AnchoredNotes$Page", "passageError", "(II)I"⟩, 6) := ⟨⟨by decide +kernel, by decide +kernel⟩, List.mem_of_getElem? (i := 23) (by decide +kernel), List.mem_of_getElem? (i := 341) (by decide +kernel), List.mem_of_getElem? (i := 342) (by decide +kernel)⟩
theorem lw_p2 : lw_okq (⟨"AnchoredNotes$Row", "exchange", "(III)V"⟩, 2) := ⟨⟨by decide +kernel, by decide +kernel⟩, List.mem_of_getElem? (i := 29) (by decide +kernel), List.mem_of_getElem? (i := 367) (by decide +kernel), List.mem_of_getElem? (i := 368) (by decide +kernel)⟩
theorem lw_p3 : lw_okq (⟨"AnchoredNotes$Row", "turn", "(II)V"⟩, 2) := ⟨⟨by decide +kernel, by decide +kernel⟩, List.mem_of_getElem? (i := 29) (by decide +kernel), List.mem_of_getElem? (i := 371) (by decide +kernel), List.mem_of_getElem? (i := 372) (by decide +kernel)⟩
theorem lw_p4 : lw_okq (⟨"AnchoredNotes$Page", "anchor", "(III)V"⟩, 6) := ⟨⟨by decide +kernel, by decide +kernel⟩, List.mem_of_getElem? (i := 23) (by decide +kernel), List.mem_of_getElem? (i := 399) (by decide +kernel), List.mem_of_getElem? (i := 400) (by decide +kernel)⟩
theorem lw_p5 : lw_okq (⟨"AnchoredNotes$Page", "remove", "(I)V"⟩, 6) := ⟨⟨by decide +kernel, by decide +kernel⟩, List.mem_of_getElem? (i := 23) (by decide +kernel), List.mem_of_getElem? (i := 443) (by decide +kernel), List.mem_of_getElem? (i := 444) (by decide +kernel)⟩
theorem lw_p6 : lw_okq (⟨"AnchoredNotes$Margin", "empty", "()V"⟩, 7) := ⟨⟨by decide +kernel, by decide +kernel⟩, List.mem_of_getElem? (i := 133) (by decide +kernel), List.mem_of_getElem? (i := 511) (by decide +kernel), List.mem_of_getElem? (i := 512) (by decide +kernel)⟩
theorem lw_p7 : lw_okq (⟨"AnchoredNotes$Margin", "print", "(III)V"⟩, 7) := ⟨⟨by decide +kernel, by decide +kernel⟩, List.mem_of_getElem? (i := 133) (by decide +kernel), List.mem_of_getElem? (i := 523) (by decide +kernel), List.mem_of_getElem? (i := 524) (by decide +kernel)⟩
theorem lw_p8 : lw_okq (⟨"AnchoredNotes$OrderReader", "readNumber", "(LAnchoredNotes$Row;)Z"⟩, 4) := ⟨⟨by decide +kernel, by decide +kernel⟩, List.mem_of_getElem? (i := 191) (by decide +kernel), List.mem_of_getElem? (i := 591) (by decide +kernel), List.mem_of_getElem? (i := 592) (by decide +kernel)⟩
theorem lw_p9 : lw_okq (⟨"AnchoredNotes$OrderReader", "readLetters", "(LAnchoredNotes$Row;)Z"⟩, 4) := ⟨⟨by decide +kernel, by decide +kernel⟩, List.mem_of_getElem? (i := 191) (by decide +kernel), List.mem_of_getElem? (i := 603) (by decide +kernel), List.mem_of_getElem? (i := 604) (by decide +kernel)⟩
theorem lw_p10 : lw_okq (⟨"AnchoredNotes", "obey", "()I"⟩, 7) := ⟨⟨by decide +kernel, by decide +kernel⟩, List.mem_of_getElem? (i := 15) (by decide +kernel), List.mem_of_getElem? (i := 616) (by decide +kernel), List.mem_of_getElem? (i := 617) (by decide +kernel)⟩
theorem lw_p11 : lw_okq (⟨"AnchoredNotes", "writeRow", "(I)I"⟩, 7) := ⟨⟨by decide +kernel, by decide +kernel⟩, List.mem_of_getElem? (i := 15) (by decide +kernel), List.mem_of_getElem? (i := 620) (by decide +kernel), List.mem_of_getElem? (i := 621) (by decide +kernel)⟩
theorem lw_p12 : lw_okq (⟨"AnchoredNotesModel", "records", "()V"⟩, 17) := ⟨⟨by decide +kernel, by decide +kernel⟩, List.mem_of_getElem? (i := 642) (by decide +kernel), List.mem_of_getElem? (i := 719) (by decide +kernel), List.mem_of_getElem? (i := 720) (by decide +kernel)⟩
theorem lw_p13 : lw_okq (⟨"AnchoredNotesModel", "mayWrite", "(II)I"⟩, 17) := ⟨⟨by decide +kernel, by decide +kernel⟩, List.mem_of_getElem? (i := 642) (by decide +kernel), List.mem_of_getElem? (i := 734) (by decide +kernel), List.mem_of_getElem? (i := 735) (by decide +kernel)⟩
theorem lw_p14 : lw_okq (⟨"AnchoredNotesModel", "comes", "(III)V"⟩, 17) := ⟨⟨by decide +kernel, by decide +kernel⟩, List.mem_of_getElem? (i := 642) (by decide +kernel), List.mem_of_getElem? (i := 738) (by decide +kernel), List.mem_of_getElem? (i := 739) (by decide +kernel)⟩
theorem lw_p15 : lw_okq (⟨"AnchoredNotesModel", "maySpan", "(II)I"⟩, 17) := ⟨⟨by decide +kernel, by decide +kernel⟩, List.mem_of_getElem? (i := 642) (by decide +kernel), List.mem_of_getElem? (i := 746) (by decide +kernel), List.mem_of_getElem? (i := 747) (by decide +kernel)⟩
def lw_privs_1 : List (MethodName × Nat) := [(⟨"AnchoredNotes$History", "forgetOldest", "()V"⟩, 2), (⟨"AnchoredNotes$Page", "passageError", "(II)I"⟩, 6), (⟨"AnchoredNotes$Row", "exchange", "(III)V"⟩, 2), (⟨"AnchoredNotes$Row", "turn", "(II)V"⟩, 2), (⟨"AnchoredNotes$Page", "anchor", "(III)V"⟩, 6), (⟨"AnchoredNotes$Page", "remove", "(I)V"⟩, 6), (⟨"AnchoredNotes$Margin", "empty", "()V"⟩, 7), (⟨"AnchoredNotes$Margin", "print", "(III)V"⟩, 7), (⟨"AnchoredNotes$OrderReader", "readNumber", "(LAnchoredNotes$Row;)Z"⟩, 4), (⟨"AnchoredNotes$OrderReader", "readLetters", "(LAnchoredNotes$Row;)Z"⟩, 4), (⟨"AnchoredNotes", "obey", "()I"⟩, 7), (⟨"AnchoredNotes", "writeRow", "(I)I"⟩, 7), (⟨"AnchoredNotesModel", "records", "()V"⟩, 17), (⟨"AnchoredNotesModel", "mayWrite", "(II)I"⟩, 17), (⟨"AnchoredNotesModel", "comes", "(III)V"⟩, 17), (⟨"AnchoredNotesModel", "maySpan", "(II)I"⟩, 17)]
theorem lw_r1 : ∀ q ∈ lw_privs_1, lw_okq q := List.forall_mem_cons.mpr ⟨lw_p0, List.forall_mem_cons.mpr ⟨lw_p1, List.forall_mem_cons.mpr ⟨lw_p2, List.forall_mem_cons.mpr ⟨lw_p3, List.forall_mem_cons.mpr ⟨lw_p4, List.forall_mem_cons.mpr ⟨lw_p5, List.forall_mem_cons.mpr ⟨lw_p6, List.forall_mem_cons.mpr ⟨lw_p7, List.forall_mem_cons.mpr ⟨lw_p8, List.forall_mem_cons.mpr ⟨lw_p9, List.forall_mem_cons.mpr ⟨lw_p10, List.forall_mem_cons.mpr ⟨lw_p11, List.forall_mem_cons.mpr ⟨lw_p12, List.forall_mem_cons.mpr ⟨lw_p13, List.forall_mem_cons.mpr ⟨lw_p14, List.forall_mem_cons.mpr ⟨lw_p15, fun _ h => absurd h List.not_mem_nil⟩⟩⟩⟩⟩⟩⟩⟩⟩⟩⟩⟩⟩⟩⟩⟩
theorem lw_p16 : lw_okq (⟨"AnchoredNotesModel", "isPlace", "(I)Z"⟩, 17) := ⟨⟨by decide +kernel, by decide +kernel⟩, List.mem_of_getElem? (i := 642) (by decide +kernel), List.mem_of_getElem? (i := 750) (by decide +kernel), List.mem_of_getElem? (i := 751) (by decide +kernel)⟩
theorem lw_p17 : lw_okq (⟨"AnchoredNotesModel", "erases", "(II)I"⟩, 17) := ⟨⟨by decide +kernel, by decide +kernel⟩, List.mem_of_getElem? (i := 642) (by decide +kernel), List.mem_of_getElem? (i := 754) (by decide +kernel), List.mem_of_getElem? (i := 755) (by decide +kernel)⟩
theorem lw_p18 : lw_okq (⟨"AnchoredNotesModel", "orphans", "()I"⟩, 17) := ⟨⟨by decide +kernel, by decide +kernel⟩, List.mem_of_getElem? (i := 642) (by decide +kernel), List.mem_of_getElem? (i := 758) (by decide +kernel), List.mem_of_getElem? (i := 759) (by decide +kernel)⟩
theorem lw_p19 : lw_okq (⟨"AnchoredNotesModel", "isOrphan", "(I)Z"⟩, 17) := ⟨⟨by decide +kernel, by decide +kernel⟩, List.mem_of_getElem? (i := 642) (by decide +kernel), List.mem_of_getElem? (i := 762) (by decide +kernel), List.mem_of_getElem? (i := 763) (by decide +kernel)⟩
theorem lw_p20 : lw_okq (⟨"AnchoredNotesModel", "isReply", "(I)Z"⟩, 17) := ⟨⟨by decide +kernel, by decide +kernel⟩, List.mem_of_getElem? (i := 642) (by decide +kernel), List.mem_of_getElem? (i := 766) (by decide +kernel), List.mem_of_getElem? (i := 767) (by decide +kernel)⟩
theorem lw_p21 : lw_okq (⟨"AnchoredNotesModel", "of0", "(II)I"⟩, 17) := ⟨⟨by decide +kernel, by decide +kernel⟩, List.mem_of_getElem? (i := 642) (by decide +kernel), List.mem_of_getElem? (i := 770) (by decide +kernel), List.mem_of_getElem? (i := 771) (by decide +kernel)⟩
theorem lw_p22 : lw_okq (⟨"AnchoredNotesModel", "present", "(I)I"⟩, 17) := ⟨⟨by decide +kernel, by decide +kernel⟩, List.mem_of_getElem? (i := 642) (by decide +kernel), List.mem_of_getElem? (i := 774) (by decide +kernel), List.mem_of_getElem? (i := 775) (by decide +kernel)⟩
theorem lw_p23 : lw_okq (⟨"AnchoredNotesModel", "isOf", "(II)Z"⟩, 17) := ⟨⟨by decide +kernel, by decide +kernel⟩, List.mem_of_getElem? (i := 642) (by decide +kernel), List.mem_of_getElem? (i := 778) (by decide +kernel), List.mem_of_getElem? (i := 779) (by decide +kernel)⟩
theorem lw_p24 : lw_okq (⟨"AnchoredNotesModel", "goes", "(II)V"⟩, 17) := ⟨⟨by decide +kernel, by decide +kernel⟩, List.mem_of_getElem? (i := 642) (by decide +kernel), List.mem_of_getElem? (i := 782) (by decide +kernel), List.mem_of_getElem? (i := 783) (by decide +kernel)⟩
theorem lw_p25 : lw_okq (⟨"AnchoredNotesModel", "mayMove", "(III)I"⟩, 17) := ⟨⟨by decide +kernel, by decide +kernel⟩, List.mem_of_getElem? (i := 642) (by decide +kernel), List.mem_of_getElem? (i := 790) (by decide +kernel), List.mem_of_getElem? (i := 791) (by decide +kernel)⟩
theorem lw_p26 : lw_okq (⟨"AnchoredNotesModel", "moves", "(III)V"⟩, 17) := ⟨⟨by decide +kernel, by decide +kernel⟩, List.mem_of_getElem? (i := 642) (by decide +kernel), List.mem_of_getElem? (i := 794) (by decide +kernel), List.mem_of_getElem? (i := 795) (by decide +kernel)⟩
theorem lw_p27 : lw_okq (⟨"AnchoredNotesModel", "torn", "()I"⟩, 17) := ⟨⟨by decide +kernel, by decide +kernel⟩, List.mem_of_getElem? (i := 642) (by decide +kernel), List.mem_of_getElem? (i := 798) (by decide +kernel), List.mem_of_getElem? (i := 799) (by decide +kernel)⟩
theorem lw_p28 : lw_okq (⟨"AnchoredNotesModel", "finds", "(I)V"⟩, 17) := ⟨⟨by decide +kernel, by decide +kernel⟩, List.mem_of_getElem? (i := 642) (by decide +kernel), List.mem_of_getElem? (i := 802) (by decide +kernel), List.mem_of_getElem? (i := 803) (by decide +kernel)⟩
theorem lw_p29 : lw_okq (⟨"AnchoredNotesModel", "mayNote", "(II)I"⟩, 17) := ⟨⟨by decide +kernel, by decide +kernel⟩, List.mem_of_getElem? (i := 642) (by decide +kernel), List.mem_of_getElem? (i := 810) (by decide +kernel), List.mem_of_getElem? (i := 811) (by decide +kernel)⟩
theorem lw_p30 : lw_okq (⟨"AnchoredNotesModel", "notes", "(II)I"⟩, 17) := ⟨⟨by decide +kernel, by decide +kernel⟩, List.mem_of_getElem? (i := 642) (by decide +kernel), List.mem_of_getElem? (i := 814) (by decide +kernel), List.mem_of_getElem? (i := 815) (by decide +kernel)⟩
theorem lw_p31 : lw_okq (⟨"AnchoredNotesModel", "takes", "(III)V"⟩, 17) := ⟨⟨by decide +kernel, by decide +kernel⟩, List.mem_of_getElem? (i := 642) (by decide +kernel), List.mem_of_getElem? (i := 818) (by decide +kernel), List.mem_of_getElem? (i := 819) (by decide +kernel)⟩
def lw_privs_2 : List (MethodName × Nat) := [(⟨"AnchoredNotesModel", "isPlace", "(I)Z"⟩, 17), (⟨"AnchoredNotesModel", "erases", "(II)I"⟩, 17), (⟨"AnchoredNotesModel", "orphans", "()I"⟩, 17), (⟨"AnchoredNotesModel", "isOrphan", "(I)Z"⟩, 17), (⟨"AnchoredNotesModel", "isReply", "(I)Z"⟩, 17), (⟨"AnchoredNotesModel", "of0", "(II)I"⟩, 17), (⟨"AnchoredNotesModel", "present", "(I)I"⟩, 17), (⟨"AnchoredNotesModel", "isOf", "(II)Z"⟩, 17), (⟨"AnchoredNotesModel", "goes", "(II)V"⟩, 17), (⟨"AnchoredNotesModel", "mayMove", "(III)I"⟩, 17), (⟨"AnchoredNotesModel", "moves", "(III)V"⟩, 17), (⟨"AnchoredNotesModel", "torn", "()I"⟩, 17), (⟨"AnchoredNotesModel", "finds", "(I)V"⟩, 17), (⟨"AnchoredNotesModel", "mayNote", "(II)I"⟩, 17), (⟨"AnchoredNotesModel", "notes", "(II)I"⟩, 17), (⟨"AnchoredNotesModel", "takes", "(III)V"⟩, 17)]
theorem lw_r2 : ∀ q ∈ lw_privs_2, lw_okq q := List.forall_mem_cons.mpr ⟨lw_p16, List.forall_mem_cons.mpr ⟨lw_p17, List.forall_mem_cons.mpr ⟨lw_p18, List.forall_mem_cons.mpr ⟨lw_p19, List.forall_mem_cons.mpr ⟨lw_p20, List.forall_mem_cons.mpr ⟨lw_p21, List.forall_mem_cons.mpr ⟨lw_p22, List.forall_mem_cons.mpr ⟨lw_p23, List.forall_mem_cons.mpr ⟨lw_p24, List.forall_mem_cons.mpr ⟨lw_p25, List.forall_mem_cons.mpr ⟨lw_p26, List.forall_mem_cons.mpr ⟨lw_p27, List.forall_mem_cons.mpr ⟨lw_p28, List.forall_mem_cons.mpr ⟨lw_p29, List.forall_mem_cons.mpr ⟨lw_p30, List.forall_mem_cons.mpr ⟨lw_p31, fun _ h => absurd h List.not_mem_nil⟩⟩⟩⟩⟩⟩⟩⟩⟩⟩⟩⟩⟩⟩⟩⟩
theorem lw_p32 : lw_okq (⟨"AnchoredNotesModel", "remembers", "(III)V"⟩, 17) := ⟨⟨by decide +kernel, by decide +kernel⟩, List.mem_of_getElem? (i := 642) (by decide +kernel), List.mem_of_getElem? (i := 822) (by decide +kernel), List.mem_of_getElem? (i := 823) (by decide +kernel)⟩
theorem lw_p33 : lw_okq (⟨"AnchoredNotesModel", "mayReply", "(I)I"⟩, 17) := ⟨⟨by decide +kernel, by decide +kernel⟩, List.mem_of_getElem? (i := 642) (by decide +kernel), List.mem_of_getElem? (i := 830) (by decide +kernel), List.mem_of_getElem? (i := 831) (by decide +kernel)⟩
theorem lw_p34 : lw_okq (⟨"AnchoredNotesModel", "isNote", "(I)Z"⟩, 17) := ⟨⟨by decide +kernel, by decide +kernel⟩, List.mem_of_getElem? (i := 642) (by decide +kernel), List.mem_of_getElem? (i := 834) (by decide +kernel), List.mem_of_getElem? (i := 835) (by decide +kernel)⟩
theorem lw_p35 : lw_okq (⟨"AnchoredNotesModel", "replies", "(I)I"⟩, 17) := ⟨⟨by decide +kernel, by decide +kernel⟩, List.mem_of_getElem? (i := 642) (by decide +kernel), List.mem_of_getElem? (i := 838) (by decide +kernel), List.mem_of_getElem? (i := 839) (by decide +kernel)⟩
theorem lw_p36 : lw_okq (⟨"AnchoredNotesModel", "drops", "(I)I"⟩, 17) := ⟨⟨by decide +kernel, by decide +kernel⟩, List.mem_of_getElem? (i := 642) (by decide +kernel), List.mem_of_getElem? (i := 846) (by decide +kernel), List.mem_of_getElem? (i := 847) (by decide +kernel)⟩
theorem lw_p37 : lw_okq (⟨"AnchoredNotesModel", "isBelow", "(II)Z"⟩, 17) := ⟨⟨by decide +kernel, by decide +kernel⟩, List.mem_of_getElem? (i := 642) (by decide +kernel), List.mem_of_getElem? (i := 850) (by decide +kernel), List.mem_of_getElem? (i := 851) (by decide +kernel)⟩
theorem lw_p38 : lw_okq (⟨"AnchoredNotesModel", "noteGoes", "(I)V"⟩, 17) := ⟨⟨by decide +kernel, by decide +kernel⟩, List.mem_of_getElem? (i := 642) (by decide +kernel), List.mem_of_getElem? (i := 854) (by decide +kernel), List.mem_of_getElem? (i := 855) (by decide +kernel)⟩
theorem lw_p39 : lw_okq (⟨"AnchoredNotesModel", "mayReclaim", "(I)I"⟩, 17) := ⟨⟨by decide +kernel, by decide +kernel⟩, List.mem_of_getElem? (i := 642) (by decide +kernel), List.mem_of_getElem? (i := 862) (by decide +kernel), List.mem_of_getElem? (i := 863) (by decide +kernel)⟩
theorem lw_p40 : lw_okq (⟨"AnchoredNotesModel", "possible", "(II)I"⟩, 17) := ⟨⟨by decide +kernel, by decide +kernel⟩, List.mem_of_getElem? (i := 642) (by decide +kernel), List.mem_of_getElem? (i := 866) (by decide +kernel), List.mem_of_getElem? (i := 867) (by decide +kernel)⟩
theorem lw_p41 : lw_okq (⟨"AnchoredNotesModel", "looksLike", "(II)Z"⟩, 17) := ⟨⟨by decide +kernel, by decide +kernel⟩, List.mem_of_getElem? (i := 642) (by decide +kernel), List.mem_of_getElem? (i := 870) (by decide +kernel), List.mem_of_getElem? (i := 871) (by decide +kernel)⟩
theorem lw_p42 : lw_okq (⟨"AnchoredNotesModel", "likeness", "(II)I"⟩, 17) := ⟨⟨by decide +kernel, by decide +kernel⟩, List.mem_of_getElem? (i := 642) (by decide +kernel), List.mem_of_getElem? (i := 874) (by decide +kernel), List.mem_of_getElem? (i := 875) (by decide +kernel)⟩
theorem lw_p43 : lw_okq (⟨"AnchoredNotesModel", "reclaims", "(I)I"⟩, 17) := ⟨⟨by decide +kernel, by decide +kernel⟩, List.mem_of_getElem? (i := 642) (by decide +kernel), List.mem_of_getElem? (i := 878) (by decide +kernel), List.mem_of_getElem? (i := 879) (by decide +kernel)⟩
theorem lw_p44 : lw_okq (⟨"AnchoredNotesModel", "ofNote", "(II)I"⟩, 17) := ⟨⟨by decide +kernel, by decide +kernel⟩, List.mem_of_getElem? (i := 642) (by decide +kernel), List.mem_of_getElem? (i := 890) (by decide +kernel), List.mem_of_getElem? (i := 891) (by decide +kernel)⟩
theorem lw_p45 : lw_okq (⟨"AnchoredNotesModel", "rootOf", "(IZ)I"⟩, 17) := ⟨⟨by decide +kernel, by decide +kernel⟩, List.mem_of_getElem? (i := 642) (by decide +kernel), List.mem_of_getElem? (i := 894) (by decide +kernel), List.mem_of_getElem? (i := 895) (by decide +kernel)⟩
theorem lw_p46 : lw_okq (⟨"AnchoredNotesModel", "below", "(I)I"⟩, 17) := ⟨⟨by decide +kernel, by decide +kernel⟩, List.mem_of_getElem? (i := 642) (by decide +kernel), List.mem_of_getElem? (i := 898) (by decide +kernel), List.mem_of_getElem? (i := 899) (by decide +kernel)⟩
theorem lw_p47 : lw_okq (⟨"AnchoredNotesModel", "prints", "(I)V"⟩, 17) := ⟨⟨by decide +kernel, by decide +kernel⟩, List.mem_of_getElem? (i := 642) (by decide +kernel), List.mem_of_getElem? (i := 914) (by decide +kernel), List.mem_of_getElem? (i := 915) (by decide +kernel)⟩
def lw_privs_3 : List (MethodName × Nat) := [(⟨"AnchoredNotesModel", "remembers", "(III)V"⟩, 17), (⟨"AnchoredNotesModel", "mayReply", "(I)I"⟩, 17), (⟨"AnchoredNotesModel", "isNote", "(I)Z"⟩, 17), (⟨"AnchoredNotesModel", "replies", "(I)I"⟩, 17), (⟨"AnchoredNotesModel", "drops", "(I)I"⟩, 17), (⟨"AnchoredNotesModel", "isBelow", "(II)Z"⟩, 17), (⟨"AnchoredNotesModel", "noteGoes", "(I)V"⟩, 17), (⟨"AnchoredNotesModel", "mayReclaim", "(I)I"⟩, 17), (⟨"AnchoredNotesModel", "possible", "(II)I"⟩, 17), (⟨"AnchoredNotesModel", "looksLike", "(II)Z"⟩, 17), (⟨"AnchoredNotesModel", "likeness", "(II)I"⟩, 17), (⟨"AnchoredNotesModel", "reclaims", "(I)I"⟩, 17), (⟨"AnchoredNotesModel", "ofNote", "(II)I"⟩, 17), (⟨"AnchoredNotesModel", "rootOf", "(IZ)I"⟩, 17), (⟨"AnchoredNotesModel", "below", "(I)I"⟩, 17), (⟨"AnchoredNotesModel", "prints", "(I)V"⟩, 17)]
theorem lw_r3 : ∀ q ∈ lw_privs_3, lw_okq q := List.forall_mem_cons.mpr ⟨lw_p32, List.forall_mem_cons.mpr ⟨lw_p33, List.forall_mem_cons.mpr ⟨lw_p34, List.forall_mem_cons.mpr ⟨lw_p35, List.forall_mem_cons.mpr ⟨lw_p36, List.forall_mem_cons.mpr ⟨lw_p37, List.forall_mem_cons.mpr ⟨lw_p38, List.forall_mem_cons.mpr ⟨lw_p39, List.forall_mem_cons.mpr ⟨lw_p40, List.forall_mem_cons.mpr ⟨lw_p41, List.forall_mem_cons.mpr ⟨lw_p42, List.forall_mem_cons.mpr ⟨lw_p43, List.forall_mem_cons.mpr ⟨lw_p44, List.forall_mem_cons.mpr ⟨lw_p45, List.forall_mem_cons.mpr ⟨lw_p46, List.forall_mem_cons.mpr ⟨lw_p47, fun _ h => absurd h List.not_mem_nil⟩⟩⟩⟩⟩⟩⟩⟩⟩⟩⟩⟩⟩⟩⟩⟩
theorem lw_p48 : lw_okq (⟨"AnchoredNotesModel", "replyCount", "()I"⟩, 17) := ⟨⟨by decide +kernel, by decide +kernel⟩, List.mem_of_getElem? (i := 642) (by decide +kernel), List.mem_of_getElem? (i := 922) (by decide +kernel), List.mem_of_getElem? (i := 923) (by decide +kernel)⟩
theorem lw_p49 : lw_okq (⟨"AnchoredNotesModel", "lastLine", "()I"⟩, 17) := ⟨⟨by decide +kernel, by decide +kernel⟩, List.mem_of_getElem? (i := 642) (by decide +kernel), List.mem_of_getElem? (i := 926) (by decide +kernel), List.mem_of_getElem? (i := 927) (by decide +kernel)⟩
theorem lw_p50 : lw_okq (⟨"AnchoredNotesModel", "leaders", "(Z)I"⟩, 17) := ⟨⟨by decide +kernel, by decide +kernel⟩, List.mem_of_getElem? (i := 642) (by decide +kernel), List.mem_of_getElem? (i := 930) (by decide +kernel), List.mem_of_getElem? (i := 931) (by decide +kernel)⟩
theorem lw_p51 : lw_okq (⟨"AnchoredNotesModel", "isText", "()Z"⟩, 17) := ⟨⟨by decide +kernel, by decide +kernel⟩, List.mem_of_getElem? (i := 642) (by decide +kernel), List.mem_of_getElem? (i := 965) (by decide +kernel), List.mem_of_getElem? (i := 966) (by decide +kernel)⟩
theorem lw_p52 : lw_okq (⟨"AnchoredNotesModel", "isOrder", "()Z"⟩, 17) := ⟨⟨by decide +kernel, by decide +kernel⟩, List.mem_of_getElem? (i := 642) (by decide +kernel), List.mem_of_getElem? (i := 969) (by decide +kernel), List.mem_of_getElem? (i := 970) (by decide +kernel)⟩
theorem lw_p53 : lw_okq (⟨"AnchoredNotesModel", "isNumber", "(I)Z"⟩, 17) := ⟨⟨by decide +kernel, by decide +kernel⟩, List.mem_of_getElem? (i := 642) (by decide +kernel), List.mem_of_getElem? (i := 973) (by decide +kernel), List.mem_of_getElem? (i := 974) (by decide +kernel)⟩
theorem lw_p54 : lw_okq (⟨"AnchoredNotesModel", "isAt", "(II)Z"⟩, 17) := ⟨⟨by decide +kernel, by decide +kernel⟩, List.mem_of_getElem? (i := 642) (by decide +kernel), List.mem_of_getElem? (i := 977) (by decide +kernel), List.mem_of_getElem? (i := 978) (by decide +kernel)⟩
theorem lw_p55 : lw_okq (⟨"AnchoredNotesModel", "isSign", "(I)Z"⟩, 17) := ⟨⟨by decide +kernel, by decide +kernel⟩, List.mem_of_getElem? (i := 642) (by decide +kernel), List.mem_of_getElem? (i := 981) (by decide +kernel), List.mem_of_getElem? (i := 982) (by decide +kernel)⟩
theorem lw_p56 : lw_okq (⟨"AnchoredNotesModel", "isWord", "()Z"⟩, 17) := ⟨⟨by decide +kernel, by decide +kernel⟩, List.mem_of_getElem? (i := 642) (by decide +kernel), List.mem_of_getElem? (i := 985) (by decide +kernel), List.mem_of_getElem? (i := 986) (by decide +kernel)⟩
theorem lw_p57 : lw_okq (⟨"AnchoredNotesModel", "isSpan", "()Z"⟩, 17) := ⟨⟨by decide +kernel, by decide +kernel⟩, List.mem_of_getElem? (i := 642) (by decide +kernel), List.mem_of_getElem? (i := 989) (by decide +kernel), List.mem_of_getElem? (i := 990) (by decide +kernel)⟩
theorem lw_p58 : lw_okq (⟨"AnchoredNotesModel", "does", "(I)Z"⟩, 17) := ⟨⟨by decide +kernel, by decide +kernel⟩, List.mem_of_getElem? (i := 642) (by decide +kernel), List.mem_of_getElem? (i := 997) (by decide +kernel), List.mem_of_getElem? (i := 998) (by decide +kernel)⟩
theorem lw_p59 : lw_okq (⟨"AnchoredNotesModel", "writes", "(III)Z"⟩, 17) := ⟨⟨by decide +kernel, by decide +kernel⟩, List.mem_of_getElem? (i := 642) (by decide +kernel), List.mem_of_getElem? (i := 1001) (by decide +kernel), List.mem_of_getElem? (i := 1002) (by decide +kernel)⟩
theorem lw_p60 : lw_okq (⟨"AnchoredNotesModel", "may", "(IIII)I"⟩, 17) := ⟨⟨by decide +kernel, by decide +kernel⟩, List.mem_of_getElem? (i := 642) (by decide +kernel), List.mem_of_getElem? (i := 1005) (by decide +kernel), List.mem_of_getElem? (i := 1006) (by decide +kernel)⟩
def lw_privs_4 : List (MethodName × Nat) := [(⟨"AnchoredNotesModel", "replyCount", "()I"⟩, 17), (⟨"AnchoredNotesModel", "lastLine", "()I"⟩, 17), (⟨"AnchoredNotesModel", "leaders", "(Z)I"⟩, 17), (⟨"AnchoredNotesModel", "isText", "()Z"⟩, 17), (⟨"AnchoredNotesModel", "isOrder", "()Z"⟩, 17), (⟨"AnchoredNotesModel", "isNumber", "(I)Z"⟩, 17), (⟨"AnchoredNotesModel", "isAt", "(II)Z"⟩, 17), (⟨"AnchoredNotesModel", "isSign", "(I)Z"⟩, 17), (⟨"AnchoredNotesModel", "isWord", "()Z"⟩, 17), (⟨"AnchoredNotesModel", "isSpan", "()Z"⟩, 17), (⟨"AnchoredNotesModel", "does", "(I)Z"⟩, 17), (⟨"AnchoredNotesModel", "writes", "(III)Z"⟩, 17), (⟨"AnchoredNotesModel", "may", "(IIII)I"⟩, 17)]
theorem lw_r4 : ∀ q ∈ lw_privs_4, lw_okq q := List.forall_mem_cons.mpr ⟨lw_p48, List.forall_mem_cons.mpr ⟨lw_p49, List.forall_mem_cons.mpr ⟨lw_p50, List.forall_mem_cons.mpr ⟨lw_p51, List.forall_mem_cons.mpr ⟨lw_p52, List.forall_mem_cons.mpr ⟨lw_p53, List.forall_mem_cons.mpr ⟨lw_p54, List.forall_mem_cons.mpr ⟨lw_p55, List.forall_mem_cons.mpr ⟨lw_p56, List.forall_mem_cons.mpr ⟨lw_p57, List.forall_mem_cons.mpr ⟨lw_p58, List.forall_mem_cons.mpr ⟨lw_p59, List.forall_mem_cons.mpr ⟨lw_p60, fun _ h => absurd h List.not_mem_nil⟩⟩⟩⟩⟩⟩⟩⟩⟩⟩⟩⟩⟩
def lw_privs : List (MethodName × Nat) := lw_privs_1 ++ (lw_privs_2 ++ (lw_privs_3 ++ (lw_privs_4)))
def lw_tbl : List Cond := k2_sels lw_privs ++ tables_1
theorem lw_privs_ok : ∀ q ∈ lw_privs, lw_okq q := by
  show ∀ q ∈ lw_privs_1 ++ (lw_privs_2 ++ (lw_privs_3 ++ (lw_privs_4))), lw_okq q
  exact List.forall_mem_append.mpr ⟨lw_r1, List.forall_mem_append.mpr ⟨lw_r2, List.forall_mem_append.mpr ⟨lw_r3, lw_r4⟩⟩⟩
-- ===== end of PART A; then your names; then what follows =====
/-! ===== BEGIN words of one list among another's, by their places ===== -/
theorem goodIn_r {big : List Cond} (ws : List Cond) (ps : List Nat) (hp : ws = ps.filterMap (fun i => big[i]?)) (h : ws.all goodWord = true) : GoodIn big ws := by
  intro w hw
  have h1 := List.all_eq_true.mp h w hw
  rw [hp] at hw
  obtain ⟨i, -, hi⟩ := List.mem_filterMap.mp hw
  have hm : w ∈ big := by first | exact List.mem_of_getElem? hi | exact List.getElem?_mem hi
  exact ⟨hm, good_of_word h1⟩
theorem goodIn_app {big a b : List Cond} (ha : GoodIn big a) (hb : GoodIn big b) : GoodIn big (a ++ b) := fun w h => (List.mem_append.mp h).elim (ha w) (hb w)
theorem goodIn_ca {big a b : List Cond} {c : Cond} (ha : GoodIn big (c :: a)) (hb : GoodIn big b) : GoodIn big (c :: (a ++ b)) := fun w h => (List.mem_cons.mp h).elim (fun e => ha w (List.mem_cons.mpr (Or.inl e))) (fun h => (List.mem_append.mp h).elim (fun h => ha w (List.mem_cons.mpr (Or.inr h))) (hb w))
theorem goodIn_sub {big ws : List Cond} (hm : ∀ w ∈ ws, w ∈ big) (h : ws.all goodWord = true) : GoodIn big ws := fun w hw => ⟨hm w hw, good_of_word (List.all_eq_true.mp h w hw)⟩
/-! ===== END ===== -/

/-! ===== BEGIN printed: names, fields, word lists, decode rows ===== -/
def RX0 : String := "AnchoredNotes$History"
def TX0 : u_T := fun k => match k with
  | 0 => ("AnchoredNotes$History", "states", "[LAnchoredNotes$Page;", true)
  | _ => ("AnchoredNotes$History", "size", "I", false)
def tyX0 : Nat → FieldType := fun k => match k with
  | 0 => .array (.object "AnchoredNotes$Page")
  | _ => .int
abbrev wsX00 : List Cond := u_ws RX0 TX0 2
theorem nmX0 : ∀ a, a < 2 → ∀ b, b < 2 → a ≠ b → (TX0 a).2.1 ≠ (TX0 b).2.1 := by decide +kernel
theorem tyX0_ok : ∀ k, k < 2 → parseFieldDescriptor (TX0 k).2.2.1 = some (tyX0 k) := by decide +kernel
abbrev cX0_init : ByteArray := prog_2_method_1_code
def yX0_init : MethodName := ⟨RX0, "<init>", "()V"⟩
abbrev cX0_keep : ByteArray := prog_2_method_2_code
def yX0_keep : MethodName := ⟨RX0, "keep", "(LAnchoredNotes$Page;)V"⟩
abbrev cX0_confirm : ByteArray := prog_2_method_3_code
def yX0_confirm : MethodName := ⟨RX0, "confirm", "(I)I"⟩
abbrev cX0_forgetOldest : ByteArray := prog_2_method_4_code
def yX0_forgetOldest : MethodName := ⟨RX0, "forgetOldest", "()V"⟩
abbrev cX0_goBack : ByteArray := prog_2_method_5_code
def yX0_goBack : MethodName := ⟨RX0, "goBack", "(LAnchoredNotes$Page;)Z"⟩
def RX1 : String := "AnchoredNotes$Margin"
def TX1 : u_T := fun k => match k with
  | 0 => ("AnchoredNotes$Margin", "lines", "LAnchoredNotes$Row;", true)
  | 1 => ("AnchoredNotes$Margin", "leaders", "LAnchoredNotes$Row;", true)
  | 2 => ("AnchoredNotes$Margin", "lastLine", "I", false)
  | 3 => ("AnchoredNotes$Margin", "allLeaders", "I", false)
  | 4 => ("AnchoredNotes$Margin", "longestLeader", "I", false)
  | 5 => ("AnchoredNotes$Margin", "firsts", "LAnchoredNotes$Row;", true)
  | _ => ("AnchoredNotes$Margin", "used", "LAnchoredNotes$Row;", true)
def tyX1 : Nat → FieldType := fun k => match k with
  | 0 => .object "AnchoredNotes$Row"
  | 1 => .object "AnchoredNotes$Row"
  | 2 => .int
  | 3 => .int
  | 4 => .int
  | 5 => .object "AnchoredNotes$Row"
  | _ => .object "AnchoredNotes$Row"
abbrev wsX10 : List Cond := u_ws RX1 TX1 7
theorem nmX1 : ∀ a, a < 7 → ∀ b, b < 7 → a ≠ b → (TX1 a).2.1 ≠ (TX1 b).2.1 := by decide +kernel
theorem tyX1_ok : ∀ k, k < 7 → parseFieldDescriptor (TX1 k).2.2.1 = some (tyX1 k) := by decide +kernel
abbrev cX1_init : ByteArray := prog_3_method_1_code
def yX1_init : MethodName := ⟨RX1, "<init>", "()V"⟩
abbrev cX1_layOut : ByteArray := prog_3_method_2_code
def yX1_layOut : MethodName := ⟨RX1, "layOut", "(LAnchoredNotes$Page;I)V"⟩
abbrev cX1_empty : ByteArray := prog_3_method_3_code
def yX1_empty : MethodName := ⟨RX1, "empty", "()V"⟩
abbrev cX1_print : ByteArray := prog_3_method_4_code
def yX1_print : MethodName := ⟨RX1, "print", "(III)V"⟩
def RX2 : String := "AnchoredNotes$Note"
def TX2 : u_T := fun k => match k with
  | 0 => ("AnchoredNotes$Note", "target", "I", false)
  | 1 => ("AnchoredNotes$Note", "words", "LAnchoredNotes$Row;", true)
  | 2 => ("AnchoredNotes$Note", "ahead", "LAnchoredNotes$Row;", true)
  | _ => ("AnchoredNotes$Note", "behind", "LAnchoredNotes$Row;", true)
def tyX2 : Nat → FieldType := fun k => match k with
  | 0 => .int
  | 1 => .object "AnchoredNotes$Row"
  | 2 => .object "AnchoredNotes$Row"
  | _ => .object "AnchoredNotes$Row"
abbrev wsX20 : List Cond := u_ws RX2 TX2 4
theorem nmX2 : ∀ a, a < 4 → ∀ b, b < 4 → a ≠ b → (TX2 a).2.1 ≠ (TX2 b).2.1 := by decide +kernel
theorem tyX2_ok : ∀ k, k < 4 → parseFieldDescriptor (TX2 k).2.2.1 = some (tyX2 k) := by decide +kernel
abbrev cX2_init : ByteArray := prog_4_method_1_code
def yX2_init : MethodName := ⟨RX2, "<init>", "()V"⟩
abbrev cX2_isReply : ByteArray := prog_4_method_2_code
def yX2_isReply : MethodName := ⟨RX2, "isReply", "()Z"⟩
abbrev cX2_becomeReply : ByteArray := prog_4_method_3_code
def yX2_becomeReply : MethodName := ⟨RX2, "becomeReply", "(I)V"⟩
abbrev cX2_remember : ByteArray := prog_4_method_4_code
def yX2_remember : MethodName := ⟨RX2, "remember", "(LAnchoredNotes$Row;III)V"⟩
abbrev cX2_copyFrom : ByteArray := prog_4_method_5_code
def yX2_copyFrom : MethodName := ⟨RX2, "copyFrom", "(LAnchoredNotes$Note;)V"⟩
def RX3 : String := "AnchoredNotes$OrderReader"
def TX3 : u_T := fun k => match k with
  | 0 => ("AnchoredNotes$OrderReader", "next", "I", false)
  | 1 => ("AnchoredNotes$OrderReader", "kind", "I", false)
  | 2 => ("AnchoredNotes$OrderReader", "lettersFrom", "I", false)
  | _ => ("AnchoredNotes$OrderReader", "numbers", "LAnchoredNotes$Row;", true)
def tyX3 : Nat → FieldType := fun k => match k with
  | 0 => .int
  | 1 => .int
  | 2 => .int
  | _ => .object "AnchoredNotes$Row"
abbrev wsX30 : List Cond := u_ws RX3 TX3 4
theorem nmX3 : ∀ a, a < 4 → ∀ b, b < 4 → a ≠ b → (TX3 a).2.1 ≠ (TX3 b).2.1 := by decide +kernel
theorem tyX3_ok : ∀ k, k < 4 → parseFieldDescriptor (TX3 k).2.2.1 = some (tyX3 k) := by decide +kernel
abbrev cX3_init : ByteArray := prog_5_method_1_code
def yX3_init : MethodName := ⟨RX3, "<init>", "()V"⟩
abbrev cX3_start : ByteArray := prog_5_method_2_code
def yX3_start : MethodName := ⟨RX3, "start", "()V"⟩
abbrev cX3_findFault : ByteArray := prog_5_method_3_code
def yX3_findFault : MethodName := ⟨RX3, "findFault", "(LAnchoredNotes$Row;)I"⟩
abbrev cX3_readOrder : ByteArray := prog_5_method_4_code
def yX3_readOrder : MethodName := ⟨RX3, "readOrder", "(LAnchoredNotes$Row;)Z"⟩
abbrev cX3_skip : ByteArray := prog_5_method_5_code
def yX3_skip : MethodName := ⟨RX3, "skip", "(LAnchoredNotes$Row;I)Z"⟩
abbrev cX3_readNumber : ByteArray := prog_5_method_6_code
def yX3_readNumber : MethodName := ⟨RX3, "readNumber", "(LAnchoredNotes$Row;)Z"⟩
abbrev cX3_readLetters : ByteArray := prog_5_method_7_code
def yX3_readLetters : MethodName := ⟨RX3, "readLetters", "(LAnchoredNotes$Row;)Z"⟩
abbrev cX3_isDigit : ByteArray := prog_5_method_8_code
def yX3_isDigit : MethodName := ⟨RX3, "isDigit", "(I)Z"⟩
abbrev cX3_isLetter : ByteArray := prog_5_method_9_code
def yX3_isLetter : MethodName := ⟨RX3, "isLetter", "(I)Z"⟩
def RX4 : String := "AnchoredNotes$Page"
def TX4 : u_T := fun k => match k with
  | 0 => ("AnchoredNotes$Page", "settings", "LAnchoredNotes$Row;", true)
  | 1 => ("AnchoredNotes$Page", "letters", "LAnchoredNotes$Row;", true)
  | 2 => ("AnchoredNotes$Page", "owners", "LAnchoredNotes$Row;", true)
  | 3 => ("AnchoredNotes$Page", "notes", "[LAnchoredNotes$Note;", true)
  | 4 => ("AnchoredNotes$Page", "noteCount", "I", false)
  | _ => ("AnchoredNotes$Page", "pieces", "LAnchoredNotes$Pieces;", true)
def tyX4 : Nat → FieldType := fun k => match k with
  | 0 => .object "AnchoredNotes$Row"
  | 1 => .object "AnchoredNotes$Row"
  | 2 => .object "AnchoredNotes$Row"
  | 3 => .array (.object "AnchoredNotes$Note")
  | 4 => .int
  | _ => .object "AnchoredNotes$Pieces"
abbrev wsX40 : List Cond := u_ws RX4 TX4 6
theorem nmX4 : ∀ a, a < 6 → ∀ b, b < 6 → a ≠ b → (TX4 a).2.1 ≠ (TX4 b).2.1 := by decide +kernel
theorem tyX4_ok : ∀ k, k < 6 → parseFieldDescriptor (TX4 k).2.2.1 = some (tyX4 k) := by decide +kernel
abbrev cX4_init : ByteArray := prog_6_method_1_code
def yX4_init : MethodName := ⟨RX4, "<init>", "()V"⟩
abbrev cX4_copyFrom : ByteArray := prog_6_method_2_code
def yX4_copyFrom : MethodName := ⟨RX4, "copyFrom", "(LAnchoredNotes$Page;)V"⟩
abbrev cX4_changeSetting : ByteArray := prog_6_method_3_code
def yX4_changeSetting : MethodName := ⟨RX4, "changeSetting", "(II)I"⟩
abbrev cX4_leastOf : ByteArray := prog_6_method_4_code
def yX4_leastOf : MethodName := ⟨RX4, "leastOf", "(I)I"⟩
abbrev cX4_mostOf : ByteArray := prog_6_method_5_code
def yX4_mostOf : MethodName := ⟨RX4, "mostOf", "(I)I"⟩
abbrev cX4_writeLetter : ByteArray := prog_6_method_6_code
def yX4_writeLetter : MethodName := ⟨RX4, "writeLetter", "(II)I"⟩
abbrev cX4_eraseLetters : ByteArray := prog_6_method_7_code
def yX4_eraseLetters : MethodName := ⟨RX4, "eraseLetters", "(II)I"⟩
abbrev cX4_orphanedBy : ByteArray := prog_6_method_8_code
def yX4_orphanedBy : MethodName := ⟨RX4, "orphanedBy", "(II)I"⟩
abbrev cX4_moveLetters : ByteArray := prog_6_method_9_code
def yX4_moveLetters : MethodName := ⟨RX4, "moveLetters", "(III)I"⟩
abbrev cX4_passageError : ByteArray := prog_6_method_10_code
def yX4_passageError : MethodName := ⟨RX4, "passageError", "(II)I"⟩
abbrev cX4_find : ByteArray := prog_6_method_11_code
def yX4_find : MethodName := ⟨RX4, "find", "(I)LAnchoredNotes$Note;"⟩
abbrev cX4_addNote : ByteArray := prog_6_method_12_code
def yX4_addNote : MethodName := ⟨RX4, "addNote", "(II)I"⟩
abbrev cX4_anchor : ByteArray := prog_6_method_13_code
def yX4_anchor : MethodName := ⟨RX4, "anchor", "(III)V"⟩
abbrev cX4_addReply : ByteArray := prog_6_method_14_code
def yX4_addReply : MethodName := ⟨RX4, "addReply", "(I)I"⟩
abbrev cX4_dropFamily : ByteArray := prog_6_method_15_code
def yX4_dropFamily : MethodName := ⟨RX4, "dropFamily", "(I)I"⟩
abbrev cX4_remove : ByteArray := prog_6_method_16_code
def yX4_remove : MethodName := ⟨RX4, "remove", "(I)V"⟩
abbrev cX4_reclaimNote : ByteArray := prog_6_method_17_code
def yX4_reclaimNote : MethodName := ⟨RX4, "reclaimNote", "(ILAnchoredNotes$Search;)I"⟩
abbrev cX4_state : ByteArray := prog_6_method_18_code
def yX4_state : MethodName := ⟨RX4, "state", "(I)I"⟩
abbrev cX4_piecesOf : ByteArray := prog_6_method_19_code
def yX4_piecesOf : MethodName := ⟨RX4, "piecesOf", "(I)LAnchoredNotes$Pieces;"⟩
abbrev cX4_depth : ByteArray := prog_6_method_20_code
def yX4_depth : MethodName := ⟨RX4, "depth", "(I)I"⟩
abbrev cX4_root : ByteArray := prog_6_method_21_code
def yX4_root : MethodName := ⟨RX4, "root", "(I)I"⟩
abbrev cX4_family : ByteArray := prog_6_method_22_code
def yX4_family : MethodName := ⟨RX4, "family", "(I)I"⟩
abbrev cX4_countState : ByteArray := prog_6_method_23_code
def yX4_countState : MethodName := ⟨RX4, "countState", "(I)I"⟩
abbrev cX4_countParted : ByteArray := prog_6_method_24_code
def yX4_countParted : MethodName := ⟨RX4, "countParted", "()I"⟩
abbrev cX4_countLines : ByteArray := prog_6_method_25_code
def yX4_countLines : MethodName := ⟨RX4, "countLines", "()I"⟩
abbrev cX4_lineOf : ByteArray := prog_6_method_26_code
def yX4_lineOf : MethodName := ⟨RX4, "lineOf", "(I)I"⟩
def RX5 : String := "AnchoredNotes$Pieces"
def TX5 : u_T := fun k => match k with
  | 0 => ("AnchoredNotes$Pieces", "pieces", "I", false)
  | 1 => ("AnchoredNotes$Pieces", "letters", "I", false)
  | 2 => ("AnchoredNotes$Pieces", "first", "I", false)
  | _ => ("AnchoredNotes$Pieces", "last", "I", false)
def tyX5 : Nat → FieldType := fun k => match k with
  | 0 => .int
  | 1 => .int
  | 2 => .int
  | _ => .int
abbrev wsX50 : List Cond := u_ws RX5 TX5 4
theorem nmX5 : ∀ a, a < 4 → ∀ b, b < 4 → a ≠ b → (TX5 a).2.1 ≠ (TX5 b).2.1 := by decide +kernel
theorem tyX5_ok : ∀ k, k < 4 → parseFieldDescriptor (TX5 k).2.2.1 = some (tyX5 k) := by decide +kernel
abbrev cX5_init : ByteArray := prog_7_method_1_code
def yX5_init : MethodName := ⟨RX5, "<init>", "()V"⟩
abbrev cX5_gather : ByteArray := prog_7_method_2_code
def yX5_gather : MethodName := ⟨RX5, "gather", "(LAnchoredNotes$Row;I)V"⟩
def RX6 : String := "AnchoredNotes$Row"
def TX6 : u_T := fun k => match k with
  | 0 => ("AnchoredNotes$Row", "items", "[I", true)
  | _ => ("AnchoredNotes$Row", "length", "I", false)
def tyX6 : Nat → FieldType := fun k => match k with
  | 0 => .array .int
  | _ => .int
abbrev wsX60 : List Cond := u_ws RX6 TX6 2
theorem nmX6 : ∀ a, a < 2 → ∀ b, b < 2 → a ≠ b → (TX6 a).2.1 ≠ (TX6 b).2.1 := by decide +kernel
theorem tyX6_ok : ∀ k, k < 2 → parseFieldDescriptor (TX6 k).2.2.1 = some (tyX6 k) := by decide +kernel
abbrev cX6_init : ByteArray := prog_8_method_1_code
def yX6_init : MethodName := ⟨RX6, "<init>", "(I)V"⟩
abbrev cX6_has : ByteArray := prog_8_method_2_code
def yX6_has : MethodName := ⟨RX6, "has", "(I)Z"⟩
abbrev cX6_item : ByteArray := prog_8_method_3_code
def yX6_item : MethodName := ⟨RX6, "item", "(I)I"⟩
abbrev cX6_replace : ByteArray := prog_8_method_4_code
def yX6_replace : MethodName := ⟨RX6, "replace", "(II)V"⟩
abbrev cX6_insert : ByteArray := prog_8_method_5_code
def yX6_insert : MethodName := ⟨RX6, "insert", "(II)V"⟩
abbrev cX6_add : ByteArray := prog_8_method_6_code
def yX6_add : MethodName := ⟨RX6, "add", "(I)V"⟩
abbrev cX6_cut : ByteArray := prog_8_method_7_code
def yX6_cut : MethodName := ⟨RX6, "cut", "(II)V"⟩
abbrev cX6_clear : ByteArray := prog_8_method_8_code
def yX6_clear : MethodName := ⟨RX6, "clear", "()V"⟩
abbrev cX6_shift : ByteArray := prog_8_method_9_code
def yX6_shift : MethodName := ⟨RX6, "shift", "(III)V"⟩
abbrev cX6_exchange : ByteArray := prog_8_method_10_code
def yX6_exchange : MethodName := ⟨RX6, "exchange", "(III)V"⟩
abbrev cX6_turn : ByteArray := prog_8_method_11_code
def yX6_turn : MethodName := ⟨RX6, "turn", "(II)V"⟩
abbrev cX6_copyFrom : ByteArray := prog_8_method_12_code
def yX6_copyFrom : MethodName := ⟨RX6, "copyFrom", "(LAnchoredNotes$Row;)V"⟩
abbrev cX6_copyPart : ByteArray := prog_8_method_13_code
def yX6_copyPart : MethodName := ⟨RX6, "copyPart", "(LAnchoredNotes$Row;III)V"⟩
abbrev cX6_countAlike : ByteArray := prog_8_method_14_code
def yX6_countAlike : MethodName := ⟨RX6, "countAlike", "(LAnchoredNotes$Row;II)I"⟩
def RX7 : String := "AnchoredNotes$Search"
def TX7 : u_T := fun k => match k with
  | 0 => ("AnchoredNotes$Search", "place", "I", false)
  | 1 => ("AnchoredNotes$Search", "likeness", "I", false)
  | _ => ("AnchoredNotes$Search", "places", "I", false)
def tyX7 : Nat → FieldType := fun k => match k with
  | 0 => .int
  | 1 => .int
  | _ => .int
abbrev wsX70 : List Cond := u_ws RX7 TX7 3
theorem nmX7 : ∀ a, a < 3 → ∀ b, b < 3 → a ≠ b → (TX7 a).2.1 ≠ (TX7 b).2.1 := by decide +kernel
theorem tyX7_ok : ∀ k, k < 3 → parseFieldDescriptor (TX7 k).2.2.1 = some (tyX7 k) := by decide +kernel
abbrev cX7_init : ByteArray := prog_9_method_1_code
def yX7_init : MethodName := ⟨RX7, "<init>", "()V"⟩
abbrev cX7_look : ByteArray := prog_9_method_2_code
def yX7_look : MethodName := ⟨RX7, "look", "(LAnchoredNotes$Row;LAnchoredNotes$Note;)V"⟩
def RX8 : String := "AnchoredNotes"
def TX8 : u_T := fun k => match k with
  | 0 => ("AnchoredNotes", "page", "LAnchoredNotes$Page;", true)
  | 1 => ("AnchoredNotes", "margin", "LAnchoredNotes$Margin;", true)
  | 2 => ("AnchoredNotes", "search", "LAnchoredNotes$Search;", true)
  | 3 => ("AnchoredNotes", "pad", "LAnchoredNotes$Row;", true)
  | 4 => ("AnchoredNotes", "reader", "LAnchoredNotes$OrderReader;", true)
  | 5 => ("AnchoredNotes", "history", "LAnchoredNotes$History;", true)
  | _ => ("AnchoredNotes", "slots", "[LAnchoredNotes$Page;", true)
def tyX8 : Nat → FieldType := fun k => match k with
  | 0 => .object "AnchoredNotes$Page"
  | 1 => .object "AnchoredNotes$Margin"
  | 2 => .object "AnchoredNotes$Search"
  | 3 => .object "AnchoredNotes$Row"
  | 4 => .object "AnchoredNotes$OrderReader"
  | 5 => .object "AnchoredNotes$History"
  | _ => .array (.object "AnchoredNotes$Page")
abbrev wsX80 : List Cond := u_ws RX8 TX8 7
theorem nmX8 : ∀ a, a < 7 → ∀ b, b < 7 → a ≠ b → (TX8 a).2.1 ≠ (TX8 b).2.1 := by decide +kernel
theorem tyX8_ok : ∀ k, k < 7 → parseFieldDescriptor (TX8 k).2.2.1 = some (tyX8 k) := by decide +kernel
abbrev cX8_init : ByteArray := prog_1_method_1_code
def yX8_init : MethodName := ⟨RX8, "<init>", "()V"⟩
abbrev cX8_set : ByteArray := prog_1_method_2_code
def yX8_set : MethodName := ⟨RX8, "set", "(II)I"⟩
abbrev cX8_write : ByteArray := prog_1_method_3_code
def yX8_write : MethodName := ⟨RX8, "write", "(II)I"⟩
abbrev cX8_erase : ByteArray := prog_1_method_4_code
def yX8_erase : MethodName := ⟨RX8, "erase", "(II)I"⟩
abbrev cX8_move : ByteArray := prog_1_method_5_code
def yX8_move : MethodName := ⟨RX8, "move", "(III)I"⟩
abbrev cX8_note : ByteArray := prog_1_method_6_code
def yX8_note : MethodName := ⟨RX8, "note", "(II)I"⟩
abbrev cX8_reply : ByteArray := prog_1_method_7_code
def yX8_reply : MethodName := ⟨RX8, "reply", "(I)I"⟩
abbrev cX8_drop : ByteArray := prog_1_method_8_code
def yX8_drop : MethodName := ⟨RX8, "drop", "(I)I"⟩
abbrev cX8_reclaim : ByteArray := prog_1_method_9_code
def yX8_reclaim : MethodName := ⟨RX8, "reclaim", "(I)I"⟩
abbrev cX8_letter : ByteArray := prog_1_method_10_code
def yX8_letter : MethodName := ⟨RX8, "letter", "(I)I"⟩
abbrev cX8_of : ByteArray := prog_1_method_11_code
def yX8_of : MethodName := ⟨RX8, "of", "(II)I"⟩
abbrev cX8_word : ByteArray := prog_1_method_12_code
def yX8_word : MethodName := ⟨RX8, "word", "(II)I"⟩
abbrev cX8_at : ByteArray := prog_1_method_13_code
def yX8_at : MethodName := ⟨RX8, "at", "(I)I"⟩
abbrev cX8_printed : ByteArray := prog_1_method_14_code
def yX8_printed : MethodName := ⟨RX8, "printed", "(II)I"⟩
abbrev cX8_count : ByteArray := prog_1_method_15_code
def yX8_count : MethodName := ⟨RX8, "count", "(I)I"⟩
abbrev cX8_orphansIf : ByteArray := prog_1_method_16_code
def yX8_orphansIf : MethodName := ⟨RX8, "orphansIf", "(II)I"⟩
abbrev cX8_could : ByteArray := prog_1_method_17_code
def yX8_could : MethodName := ⟨RX8, "could", "(II)I"⟩
abbrev cX8_leastRoom : ByteArray := prog_1_method_18_code
def yX8_leastRoom : MethodName := ⟨RX8, "leastRoom", "(I)I"⟩
abbrev cX8_put : ByteArray := prog_1_method_19_code
def yX8_put : MethodName := ⟨RX8, "put", "(J)I"⟩
abbrev cX8_wipe : ByteArray := prog_1_method_20_code
def yX8_wipe : MethodName := ⟨RX8, "wipe", "()I"⟩
abbrev cX8_fault : ByteArray := prog_1_method_21_code
def yX8_fault : MethodName := ⟨RX8, "fault", "()I"⟩
abbrev cX8_carryOut : ByteArray := prog_1_method_22_code
def yX8_carryOut : MethodName := ⟨RX8, "carryOut", "()I"⟩
abbrev cX8_undo : ByteArray := prog_1_method_23_code
def yX8_undo : MethodName := ⟨RX8, "undo", "()I"⟩
abbrev cX8_save : ByteArray := prog_1_method_24_code
def yX8_save : MethodName := ⟨RX8, "save", "(I)I"⟩
abbrev cX8_restore : ByteArray := prog_1_method_25_code
def yX8_restore : MethodName := ⟨RX8, "restore", "(I)I"⟩
abbrev cX8_obey : ByteArray := prog_1_method_26_code
def yX8_obey : MethodName := ⟨RX8, "obey", "()I"⟩
abbrev cX8_writeRow : ByteArray := prog_1_method_27_code
def yX8_writeRow : MethodName := ⟨RX8, "writeRow", "(I)I"⟩
abbrev cX8_countCharacters : ByteArray := prog_1_method_28_code
def yX8_countCharacters : MethodName := ⟨RX8, "countCharacters", "(J)I"⟩
abbrev cX8_isIn : ByteArray := prog_1_method_29_code
def yX8_isIn : MethodName := ⟨RX8, "isIn", "(II)Z"⟩
def RX9 : String := "AnchoredNotesModel"
def TX9 : u_T := fun k => match k with
  | 0 => ("AnchoredNotesModel", "now", "[I", true)
  | 1 => ("AnchoredNotesModel", "past", "[I", true)
  | 2 => ("AnchoredNotesModel", "kept", "I", false)
  | 3 => ("AnchoredNotesModel", "slots", "[I", true)
  | 4 => ("AnchoredNotesModel", "held", "[Z", true)
  | 5 => ("AnchoredNotesModel", "pad", "[I", true)
  | 6 => ("AnchoredNotesModel", "padded", "I", false)
  | 7 => ("AnchoredNotesModel", "at", "I", false)
  | 8 => ("AnchoredNotesModel", "orders", "[I", true)
  | 9 => ("AnchoredNotesModel", "ordered", "I", false)
  | 10 => ("AnchoredNotesModel", "first", "I", false)
  | 11 => ("AnchoredNotesModel", "last", "I", false)
  | 12 => ("AnchoredNotesModel", "pieces", "I", false)
  | 13 => ("AnchoredNotesModel", "lines", "[I", true)
  | 14 => ("AnchoredNotesModel", "own", "[I", true)
  | 15 => ("AnchoredNotesModel", "full", "[I", true)
  | _ => ("AnchoredNotesModel", "taken", "[I", true)
def tyX9 : Nat → FieldType := fun k => match k with
  | 0 => .array .int
  | 1 => .array .int
  | 2 => .int
  | 3 => .array .int
  | 4 => .array .boolean
  | 5 => .array .int
  | 6 => .int
  | 7 => .int
  | 8 => .array .int
  | 9 => .int
  | 10 => .int
  | 11 => .int
  | 12 => .int
  | 13 => .array .int
  | 14 => .array .int
  | 15 => .array .int
  | _ => .array .int
abbrev wsX90 : List Cond := u_ws RX9 TX9 17
theorem nmX9 : ∀ a, a < 17 → ∀ b, b < 17 → a ≠ b → (TX9 a).2.1 ≠ (TX9 b).2.1 := by decide +kernel
theorem tyX9_ok : ∀ k, k < 17 → parseFieldDescriptor (TX9 k).2.2.1 = some (tyX9 k) := by decide +kernel
abbrev cX9_init : ByteArray := prog_11_method_1_code
def yX9_init : MethodName := ⟨RX9, "<init>", "()V"⟩
abbrev cX9_in : ByteArray := prog_11_method_3_code
def yX9_in : MethodName := ⟨RX9, "in", "(III)Z"⟩
abbrev cX9_of0 : ByteArray := prog_11_method_4_code
def yX9_of0 : MethodName := ⟨RX9, "of0", "(II)I"⟩
abbrev cX9_isNote : ByteArray := prog_11_method_5_code
def yX9_isNote : MethodName := ⟨RX9, "isNote", "(I)Z"⟩
abbrev cX9_isReply : ByteArray := prog_11_method_6_code
def yX9_isReply : MethodName := ⟨RX9, "isReply", "(I)Z"⟩
abbrev cX9_isPlace : ByteArray := prog_11_method_7_code
def yX9_isPlace : MethodName := ⟨RX9, "isPlace", "(I)Z"⟩
abbrev cX9_isOf : ByteArray := prog_11_method_8_code
def yX9_isOf : MethodName := ⟨RX9, "isOf", "(II)Z"⟩
abbrev cX9_lays : ByteArray := prog_11_method_9_code
def yX9_lays : MethodName := ⟨RX9, "lays", "([II[II)V"⟩
abbrev cX9_records : ByteArray := prog_11_method_10_code
def yX9_records : MethodName := ⟨RX9, "records", "()V"⟩
abbrev cX9_undo : ByteArray := prog_11_method_11_code
def yX9_undo : MethodName := ⟨RX9, "undo", "()I"⟩
abbrev cX9_save : ByteArray := prog_11_method_12_code
def yX9_save : MethodName := ⟨RX9, "save", "(I)I"⟩
abbrev cX9_restore : ByteArray := prog_11_method_13_code
def yX9_restore : MethodName := ⟨RX9, "restore", "(I)I"⟩
abbrev cX9_present : ByteArray := prog_11_method_14_code
def yX9_present : MethodName := ⟨RX9, "present", "(I)I"⟩
abbrev cX9_isOrphan : ByteArray := prog_11_method_15_code
def yX9_isOrphan : MethodName := ⟨RX9, "isOrphan", "(I)Z"⟩
abbrev cX9_finds : ByteArray := prog_11_method_16_code
def yX9_finds : MethodName := ⟨RX9, "finds", "(I)V"⟩
abbrev cX9_torn : ByteArray := prog_11_method_17_code
def yX9_torn : MethodName := ⟨RX9, "torn", "()I"⟩
abbrev cX9_orphans : ByteArray := prog_11_method_18_code
def yX9_orphans : MethodName := ⟨RX9, "orphans", "()I"⟩
abbrev cX9_rootOf : ByteArray := prog_11_method_19_code
def yX9_rootOf : MethodName := ⟨RX9, "rootOf", "(IZ)I"⟩
abbrev cX9_isBelow : ByteArray := prog_11_method_20_code
def yX9_isBelow : MethodName := ⟨RX9, "isBelow", "(II)Z"⟩
abbrev cX9_below : ByteArray := prog_11_method_21_code
def yX9_below : MethodName := ⟨RX9, "below", "(I)I"⟩
abbrev cX9_isFor : ByteArray := prog_11_method_22_code
def yX9_isFor : MethodName := ⟨RX9, "isFor", "(II)Z"⟩
abbrev cX9_set : ByteArray := prog_11_method_23_code
def yX9_set : MethodName := ⟨RX9, "set", "(II)I"⟩
abbrev cX9_mayWrite : ByteArray := prog_11_method_24_code
def yX9_mayWrite : MethodName := ⟨RX9, "mayWrite", "(II)I"⟩
abbrev cX9_comes : ByteArray := prog_11_method_25_code
def yX9_comes : MethodName := ⟨RX9, "comes", "(III)V"⟩
abbrev cX9_write : ByteArray := prog_11_method_26_code
def yX9_write : MethodName := ⟨RX9, "write", "(II)I"⟩
abbrev cX9_maySpan : ByteArray := prog_11_method_27_code
def yX9_maySpan : MethodName := ⟨RX9, "maySpan", "(II)I"⟩
abbrev cX9_goes : ByteArray := prog_11_method_28_code
def yX9_goes : MethodName := ⟨RX9, "goes", "(II)V"⟩
abbrev cX9_erases : ByteArray := prog_11_method_29_code
def yX9_erases : MethodName := ⟨RX9, "erases", "(II)I"⟩
abbrev cX9_erase : ByteArray := prog_11_method_30_code
def yX9_erase : MethodName := ⟨RX9, "erase", "(II)I"⟩
abbrev cX9_mayMove : ByteArray := prog_11_method_31_code
def yX9_mayMove : MethodName := ⟨RX9, "mayMove", "(III)I"⟩
abbrev cX9_moves : ByteArray := prog_11_method_32_code
def yX9_moves : MethodName := ⟨RX9, "moves", "(III)V"⟩
abbrev cX9_move : ByteArray := prog_11_method_33_code
def yX9_move : MethodName := ⟨RX9, "move", "(III)I"⟩
abbrev cX9_mayNote : ByteArray := prog_11_method_34_code
def yX9_mayNote : MethodName := ⟨RX9, "mayNote", "(II)I"⟩
abbrev cX9_remembers : ByteArray := prog_11_method_35_code
def yX9_remembers : MethodName := ⟨RX9, "remembers", "(III)V"⟩
abbrev cX9_takes : ByteArray := prog_11_method_36_code
def yX9_takes : MethodName := ⟨RX9, "takes", "(III)V"⟩
abbrev cX9_notes : ByteArray := prog_11_method_37_code
def yX9_notes : MethodName := ⟨RX9, "notes", "(II)I"⟩
abbrev cX9_note : ByteArray := prog_11_method_38_code
def yX9_note : MethodName := ⟨RX9, "note", "(II)I"⟩
abbrev cX9_mayReply : ByteArray := prog_11_method_39_code
def yX9_mayReply : MethodName := ⟨RX9, "mayReply", "(I)I"⟩
abbrev cX9_replies : ByteArray := prog_11_method_40_code
def yX9_replies : MethodName := ⟨RX9, "replies", "(I)I"⟩
abbrev cX9_reply : ByteArray := prog_11_method_41_code
def yX9_reply : MethodName := ⟨RX9, "reply", "(I)I"⟩
abbrev cX9_noteGoes : ByteArray := prog_11_method_42_code
def yX9_noteGoes : MethodName := ⟨RX9, "noteGoes", "(I)V"⟩
abbrev cX9_drops : ByteArray := prog_11_method_43_code
def yX9_drops : MethodName := ⟨RX9, "drops", "(I)I"⟩
abbrev cX9_drop : ByteArray := prog_11_method_44_code
def yX9_drop : MethodName := ⟨RX9, "drop", "(I)I"⟩
abbrev cX9_looksLike : ByteArray := prog_11_method_45_code
def yX9_looksLike : MethodName := ⟨RX9, "looksLike", "(II)Z"⟩
abbrev cX9_likeness : ByteArray := prog_11_method_46_code
def yX9_likeness : MethodName := ⟨RX9, "likeness", "(II)I"⟩
abbrev cX9_possible : ByteArray := prog_11_method_47_code
def yX9_possible : MethodName := ⟨RX9, "possible", "(II)I"⟩
abbrev cX9_mayReclaim : ByteArray := prog_11_method_48_code
def yX9_mayReclaim : MethodName := ⟨RX9, "mayReclaim", "(I)I"⟩
abbrev cX9_reclaims : ByteArray := prog_11_method_49_code
def yX9_reclaims : MethodName := ⟨RX9, "reclaims", "(I)I"⟩
abbrev cX9_reclaim : ByteArray := prog_11_method_50_code
def yX9_reclaim : MethodName := ⟨RX9, "reclaim", "(I)I"⟩
abbrev cX9_prints : ByteArray := prog_11_method_51_code
def yX9_prints : MethodName := ⟨RX9, "prints", "(I)V"⟩
abbrev cX9_leaders : ByteArray := prog_11_method_52_code
def yX9_leaders : MethodName := ⟨RX9, "leaders", "(Z)I"⟩
abbrev cX9_lastLine : ByteArray := prog_11_method_53_code
def yX9_lastLine : MethodName := ⟨RX9, "lastLine", "()I"⟩
abbrev cX9_letter : ByteArray := prog_11_method_54_code
def yX9_letter : MethodName := ⟨RX9, "letter", "(I)I"⟩
abbrev cX9_ofNote : ByteArray := prog_11_method_55_code
def yX9_ofNote : MethodName := ⟨RX9, "ofNote", "(II)I"⟩
abbrev cX9_of : ByteArray := prog_11_method_56_code
def yX9_of : MethodName := ⟨RX9, "of", "(II)I"⟩
abbrev cX9_word : ByteArray := prog_11_method_57_code
def yX9_word : MethodName := ⟨RX9, "word", "(II)I"⟩
abbrev cX9_at : ByteArray := prog_11_method_58_code
def yX9_at : MethodName := ⟨RX9, "at", "(I)I"⟩
abbrev cX9_printed : ByteArray := prog_11_method_59_code
def yX9_printed : MethodName := ⟨RX9, "printed", "(II)I"⟩
abbrev cX9_replyCount : ByteArray := prog_11_method_60_code
def yX9_replyCount : MethodName := ⟨RX9, "replyCount", "()I"⟩
abbrev cX9_count : ByteArray := prog_11_method_61_code
def yX9_count : MethodName := ⟨RX9, "count", "(I)I"⟩
abbrev cX9_orphansIf : ByteArray := prog_11_method_62_code
def yX9_orphansIf : MethodName := ⟨RX9, "orphansIf", "(II)I"⟩
abbrev cX9_could : ByteArray := prog_11_method_63_code
def yX9_could : MethodName := ⟨RX9, "could", "(II)I"⟩
abbrev cX9_leastRoom : ByteArray := prog_11_method_64_code
def yX9_leastRoom : MethodName := ⟨RX9, "leastRoom", "(I)I"⟩
abbrev cX9_byteOf : ByteArray := prog_11_method_65_code
def yX9_byteOf : MethodName := ⟨RX9, "byteOf", "(JI)I"⟩
abbrev cX9_toldBy : ByteArray := prog_11_method_66_code
def yX9_toldBy : MethodName := ⟨RX9, "toldBy", "(J)I"⟩
abbrev cX9_put : ByteArray := prog_11_method_67_code
def yX9_put : MethodName := ⟨RX9, "put", "(J)I"⟩
abbrev cX9_wipe : ByteArray := prog_11_method_68_code
def yX9_wipe : MethodName := ⟨RX9, "wipe", "()I"⟩
abbrev cX9_isAt : ByteArray := prog_11_method_69_code
def yX9_isAt : MethodName := ⟨RX9, "isAt", "(II)Z"⟩
abbrev cX9_isSign : ByteArray := prog_11_method_70_code
def yX9_isSign : MethodName := ⟨RX9, "isSign", "(I)Z"⟩
abbrev cX9_isNumber : ByteArray := prog_11_method_71_code
def yX9_isNumber : MethodName := ⟨RX9, "isNumber", "(I)Z"⟩
abbrev cX9_isWord : ByteArray := prog_11_method_72_code
def yX9_isWord : MethodName := ⟨RX9, "isWord", "()Z"⟩
abbrev cX9_isSpan : ByteArray := prog_11_method_73_code
def yX9_isSpan : MethodName := ⟨RX9, "isSpan", "()Z"⟩
abbrev cX9_isOrder : ByteArray := prog_11_method_74_code
def yX9_isOrder : MethodName := ⟨RX9, "isOrder", "()Z"⟩
abbrev cX9_isText : ByteArray := prog_11_method_75_code
def yX9_isText : MethodName := ⟨RX9, "isText", "()Z"⟩
abbrev cX9_fault : ByteArray := prog_11_method_76_code
def yX9_fault : MethodName := ⟨RX9, "fault", "()I"⟩
abbrev cX9_writes : ByteArray := prog_11_method_77_code
def yX9_writes : MethodName := ⟨RX9, "writes", "(III)Z"⟩
abbrev cX9_may : ByteArray := prog_11_method_78_code
def yX9_may : MethodName := ⟨RX9, "may", "(IIII)I"⟩
abbrev cX9_does : ByteArray := prog_11_method_79_code
def yX9_does : MethodName := ⟨RX9, "does", "(I)Z"⟩
abbrev cX9_carryOut : ByteArray := prog_11_method_80_code
def yX9_carryOut : MethodName := ⟨RX9, "carryOut", "()I"⟩
def RJ6 : String := "java/lang/Integer"
def TJ6 : u_T := fun k => match k with
  | _ => ("", "", "", false)
def tyJ6 : Nat → FieldType := fun k => match k with
  | _ => .int
abbrev wsJ60 : List Cond := u_ws RJ6 TJ6 0
theorem nmJ6 : ∀ a, a < 0 → ∀ b, b < 0 → a ≠ b → (TJ6 a).2.1 ≠ (TJ6 b).2.1 := by decide +kernel
theorem tyJ6_ok : ∀ k, k < 0 → parseFieldDescriptor (TJ6 k).2.2.1 = some (tyJ6 k) := by decide +kernel
abbrev cJ6_bitCount_0f7a4 : ByteArray := prog_12_method_49_code
def yJ6_bitCount_0f7a4 : MethodName := ⟨RJ6, "bitCount", "(I)I"⟩
def RJ9 : String := "java/lang/Math"
def TJ9 : u_T := fun k => match k with
  | _ => ("", "", "", false)
def tyJ9 : Nat → FieldType := fun k => match k with
  | _ => .int
abbrev wsJ90 : List Cond := u_ws RJ9 TJ9 0
theorem nmJ9 : ∀ a, a < 0 → ∀ b, b < 0 → a ≠ b → (TJ9 a).2.1 ≠ (TJ9 b).2.1 := by decide +kernel
theorem tyJ9_ok : ∀ k, k < 0 → parseFieldDescriptor (TJ9 k).2.2.1 = some (tyJ9 k) := by decide +kernel
abbrev cJ9_max_7cf53 : ByteArray := prog_13_method_65_code
def yJ9_max_7cf53 : MethodName := ⟨RJ9, "max", "(II)I"⟩
abbrev cJ9_min_7cf53 : ByteArray := prog_13_method_69_code
def yJ9_min_7cf53 : MethodName := ⟨RJ9, "min", "(II)I"⟩
def RJ10 : String := "java/lang/System"
def TJ10 : u_T := fun k => match k with
  | _ => ("", "", "", false)
def tyJ10 : Nat → FieldType := fun k => match k with
  | _ => .int
abbrev wsJ100 : List Cond := u_ws RJ10 TJ10 0
theorem nmJ10 : ∀ a, a < 0 → ∀ b, b < 0 → a ≠ b → (TJ10 a).2.1 ≠ (TJ10 b).2.1 := by decide +kernel
theorem tyJ10_ok : ∀ k, k < 0 → parseFieldDescriptor (TJ10 k).2.2.1 = some (tyJ10 k) := by decide +kernel
def RL : String := "AnchoredNotesLaw"
abbrev cL_law : ByteArray := code
def yL_law : MethodName := ⟨RL, "law", "([I)Z"⟩
def wsX0_init : List Cond := .code yX0_init cX0_init 1 none :: ([.methodLink RX0 3 objectInit, .instanceMethod objectInit, .code objectInit ⟨#[0xb1]⟩ 1 none, .classLink RX0 9 RX4, .fieldLink RX0 11 "AnchoredNotes$History" "states" "[LAnchoredNotes$Page;"] ++ wsX00)
def wsX6_init : List Cond := .code yX6_init cX6_init 2 none :: ([.methodLink RX6 3 objectInit, .instanceMethod objectInit, .code objectInit ⟨#[0xb1]⟩ 1 none, .arrayClass .int, .fieldLink RX6 9 "AnchoredNotes$Row" "items" "[I"] ++ wsX60)
def wsX5_init : List Cond := .code yX5_init cX5_init 1 none :: ([.methodLink RX5 3 objectInit, .instanceMethod objectInit, .code objectInit ⟨#[0xb1]⟩ 1 none])
def wsX6_add : List Cond := .code yX6_add cX6_add 2 none :: ([.fieldLink RX6 15 "AnchoredNotes$Row" "length" "I", .fieldLink RX6 9 "AnchoredNotes$Row" "items" "[I"] ++ wsX60)
def wsX2_init : List Cond := .code yX2_init cX2_init 1 none :: ([.methodLink RX2 3 objectInit, .instanceMethod objectInit, .code objectInit ⟨#[0xb1]⟩ 1 none, .fieldLink RX2 9 "AnchoredNotes$Note" "target" "I", .classLink RX2 15 RX6, .instantiable RX6 2, .initialized RX6, .fieldLink RX2 20 "AnchoredNotes$Note" "words" "LAnchoredNotes$Row;", .fieldLink RX2 24 "AnchoredNotes$Note" "ahead" "LAnchoredNotes$Row;", .fieldLink RX2 27 "AnchoredNotes$Note" "behind" "LAnchoredNotes$Row;", .methodLink RX2 17 yX6_init, .instanceMethod yX6_init, .code yX6_init cX6_init 2 none, .methodLink RX6 3 objectInit, .arrayClass .int, .fieldLink RX6 9 "AnchoredNotes$Row" "items" "[I"] ++ wsX20 ++ wsX60)
def wsX4_init_r1 : List Cond := [Cond.methodLink RX4 3 objectInit, Cond.instanceMethod objectInit, Cond.code objectInit ⟨#[0xb1]⟩ 1 none, Cond.classLink RX4 9 RX6, Cond.instantiable RX6 2, Cond.initialized RX6, Cond.fieldLink RX4 14 "AnchoredNotes$Page" "settings" "LAnchoredNotes$Row;", Cond.fieldLink RX4 20 "AnchoredNotes$Page" "letters" "LAnchoredNotes$Row;", Cond.fieldLink RX4 23 "AnchoredNotes$Page" "owners" "LAnchoredNotes$Row;", Cond.classLink RX4 26 RX2, Cond.fieldLink RX4 28 "AnchoredNotes$Page" "notes" "[LAnchoredNotes$Note;", Cond.classLink RX4 32 RX5, Cond.instantiable RX5 4, Cond.initialized RX5, Cond.fieldLink RX4 35 "AnchoredNotes$Page" "pieces" "LAnchoredNotes$Pieces;", Cond.instantiable RX2 4, Cond.initialized RX2, Cond.methodLink RX4 11 yX6_init, Cond.instanceMethod yX6_init, Cond.code yX6_init cX6_init 2 none, Cond.methodLink RX6 3 objectInit, Cond.arrayClass .int, Cond.fieldLink RX6 9 "AnchoredNotes$Row" "items" "[I", Cond.instanceMethod yX5_init]
def wsX4_init_r2 : List Cond := [Cond.code yX5_init cX5_init 1 none, Cond.methodLink RX5 3 objectInit, Cond.methodLink RX4 39 yX6_add, Cond.instanceMethod yX6_add, Cond.selects RX6 yX6_add yX6_add, Cond.code yX6_add cX6_add 2 none, Cond.fieldLink RX6 15 "AnchoredNotes$Row" "length" "I", Cond.instanceMethod yX2_init, Cond.code yX2_init cX2_init 1 none, Cond.methodLink RX2 3 objectInit, Cond.fieldLink RX2 9 "AnchoredNotes$Note" "target" "I", Cond.classLink RX2 15 RX6, Cond.fieldLink RX2 20 "AnchoredNotes$Note" "words" "LAnchoredNotes$Row;", Cond.fieldLink RX2 24 "AnchoredNotes$Note" "ahead" "LAnchoredNotes$Row;", Cond.fieldLink RX2 27 "AnchoredNotes$Note" "behind" "LAnchoredNotes$Row;", Cond.methodLink RX2 17 yX6_init]
def wsX4_init : List Cond := .code yX4_init cX4_init 2 none :: ((wsX4_init_r1 ++ wsX4_init_r2) ++ wsX60 ++ wsX40 ++ wsX50 ++ wsX20)
def wsX6_copyFrom : List Cond := .code yX6_copyFrom cX6_copyFrom 2 none :: ([.fieldLink RX6 15 "AnchoredNotes$Row" "length" "I", .fieldLink RX6 9 "AnchoredNotes$Row" "items" "[I", .methodLink RX6 37 Lib.Math.min.name, .static Lib.Math.min.name, .initialized "java/lang/Math", .code Lib.Math.min.name Lib.Math.min.code 2 (some .int), .methodLink RX6 23 arraycopyName, .native arraycopyName, .static arraycopyName, .initialized "java/lang/System"] ++ wsX60)
def wsX4_find : List Cond := .code yX4_find cX4_find 2 (some (.object "AnchoredNotes$Note")) :: ([.fieldLink RX4 47 "AnchoredNotes$Page" "noteCount" "I", .fieldLink RX4 28 "AnchoredNotes$Page" "notes" "[LAnchoredNotes$Note;"] ++ wsX40)
def wsX2_copyFrom : List Cond := .code yX2_copyFrom cX2_copyFrom 2 none :: ([.fieldLink RX2 9 "AnchoredNotes$Note" "target" "I", .fieldLink RX2 20 "AnchoredNotes$Note" "words" "LAnchoredNotes$Row;", .fieldLink RX2 24 "AnchoredNotes$Note" "ahead" "LAnchoredNotes$Row;", .fieldLink RX2 27 "AnchoredNotes$Note" "behind" "LAnchoredNotes$Row;", .methodLink RX2 37 yX6_copyFrom, .instanceMethod yX6_copyFrom, .selects RX6 yX6_copyFrom yX6_copyFrom, .initialized RX6, .code yX6_copyFrom cX6_copyFrom 2 none, .fieldLink RX6 15 "AnchoredNotes$Row" "length" "I", .fieldLink RX6 9 "AnchoredNotes$Row" "items" "[I", .methodLink RX6 37 Lib.Math.min.name, .static Lib.Math.min.name, .initialized "java/lang/Math", .code Lib.Math.min.name Lib.Math.min.code 2 (some .int), .methodLink RX6 23 arraycopyName, .native arraycopyName, .static arraycopyName, .initialized "java/lang/System"] ++ wsX20 ++ wsX60)
def wsX4_copyFrom_r1 : List Cond := [Cond.fieldLink RX4 14 "AnchoredNotes$Page" "settings" "LAnchoredNotes$Row;", Cond.fieldLink RX4 20 "AnchoredNotes$Page" "letters" "LAnchoredNotes$Row;", Cond.fieldLink RX4 23 "AnchoredNotes$Page" "owners" "LAnchoredNotes$Row;", Cond.fieldLink RX4 47 "AnchoredNotes$Page" "noteCount" "I", Cond.methodLink RX4 43 yX6_copyFrom, Cond.instanceMethod yX6_copyFrom, Cond.selects RX6 yX6_copyFrom yX6_copyFrom, Cond.initialized RX6, Cond.code yX6_copyFrom cX6_copyFrom 2 none, Cond.fieldLink RX6 15 "AnchoredNotes$Row" "length" "I", Cond.fieldLink RX6 9 "AnchoredNotes$Row" "items" "[I", Cond.methodLink RX6 37 Lib.Math.min.name, Cond.static Lib.Math.min.name, Cond.initialized "java/lang/Math", Cond.code Lib.Math.min.name Lib.Math.min.code 2 (some .int), Cond.methodLink RX6 23 arraycopyName, Cond.native arraycopyName, Cond.static arraycopyName, Cond.initialized "java/lang/System", Cond.methodLink RX4 51 yX4_find, Cond.instanceMethod yX4_find, Cond.selects RX4 yX4_find yX4_find, Cond.initialized RX4, Cond.code yX4_find cX4_find 2 (some (.object "AnchoredNotes$Note"))]
def wsX4_copyFrom_r2 : List Cond := [Cond.fieldLink RX4 28 "AnchoredNotes$Page" "notes" "[LAnchoredNotes$Note;", Cond.methodLink RX4 55 yX2_copyFrom, Cond.instanceMethod yX2_copyFrom, Cond.selects RX2 yX2_copyFrom yX2_copyFrom, Cond.initialized RX2, Cond.code yX2_copyFrom cX2_copyFrom 2 none, Cond.fieldLink RX2 9 "AnchoredNotes$Note" "target" "I", Cond.fieldLink RX2 20 "AnchoredNotes$Note" "words" "LAnchoredNotes$Row;", Cond.fieldLink RX2 24 "AnchoredNotes$Note" "ahead" "LAnchoredNotes$Row;", Cond.fieldLink RX2 27 "AnchoredNotes$Note" "behind" "LAnchoredNotes$Row;", Cond.methodLink RX2 37 yX6_copyFrom]
def wsX4_copyFrom : List Cond := .code yX4_copyFrom cX4_copyFrom 5 none :: ((wsX4_copyFrom_r1 ++ wsX4_copyFrom_r2) ++ wsX40 ++ wsX60 ++ wsX20)
def wsX0_keep_r1 : List Cond := [Cond.fieldLink RX0 17 "AnchoredNotes$History" "size" "I", Cond.fieldLink RX0 11 "AnchoredNotes$History" "states" "[LAnchoredNotes$Page;", Cond.classLink RX0 9 RX4, Cond.instantiable RX4 6, Cond.initialized RX4, Cond.methodLink RX0 21 yX4_init, Cond.instanceMethod yX4_init, Cond.code yX4_init cX4_init 2 none, Cond.methodLink RX4 3 objectInit, Cond.instanceMethod objectInit, Cond.code objectInit ⟨#[0xb1]⟩ 1 none, Cond.classLink RX4 9 RX6, Cond.instantiable RX6 2, Cond.initialized RX6, Cond.fieldLink RX4 14 "AnchoredNotes$Page" "settings" "LAnchoredNotes$Row;", Cond.fieldLink RX4 20 "AnchoredNotes$Page" "letters" "LAnchoredNotes$Row;", Cond.fieldLink RX4 23 "AnchoredNotes$Page" "owners" "LAnchoredNotes$Row;", Cond.classLink RX4 26 RX2, Cond.fieldLink RX4 28 "AnchoredNotes$Page" "notes" "[LAnchoredNotes$Note;", Cond.classLink RX4 32 RX5, Cond.instantiable RX5 4, Cond.initialized RX5, Cond.fieldLink RX4 35 "AnchoredNotes$Page" "pieces" "LAnchoredNotes$Pieces;", Cond.instantiable RX2 4]
def wsX0_keep_r2 : List Cond := [Cond.initialized RX2, Cond.methodLink RX4 11 yX6_init, Cond.instanceMethod yX6_init, Cond.code yX6_init cX6_init 2 none, Cond.methodLink RX6 3 objectInit, Cond.arrayClass .int, Cond.fieldLink RX6 9 "AnchoredNotes$Row" "items" "[I", Cond.instanceMethod yX5_init, Cond.code yX5_init cX5_init 1 none, Cond.methodLink RX5 3 objectInit, Cond.methodLink RX4 39 yX6_add, Cond.instanceMethod yX6_add, Cond.selects RX6 yX6_add yX6_add, Cond.code yX6_add cX6_add 2 none, Cond.fieldLink RX6 15 "AnchoredNotes$Row" "length" "I", Cond.instanceMethod yX2_init, Cond.code yX2_init cX2_init 1 none, Cond.methodLink RX2 3 objectInit, Cond.fieldLink RX2 9 "AnchoredNotes$Note" "target" "I", Cond.classLink RX2 15 RX6, Cond.fieldLink RX2 20 "AnchoredNotes$Note" "words" "LAnchoredNotes$Row;", Cond.fieldLink RX2 24 "AnchoredNotes$Note" "ahead" "LAnchoredNotes$Row;", Cond.fieldLink RX2 27 "AnchoredNotes$Note" "behind" "LAnchoredNotes$Row;", Cond.methodLink RX2 17 yX6_init]
def wsX0_keep_r3 : List Cond := [Cond.methodLink RX0 22 yX4_copyFrom, Cond.instanceMethod yX4_copyFrom, Cond.selects RX4 yX4_copyFrom yX4_copyFrom, Cond.code yX4_copyFrom cX4_copyFrom 5 none, Cond.fieldLink RX4 47 "AnchoredNotes$Page" "noteCount" "I", Cond.methodLink RX4 43 yX6_copyFrom, Cond.instanceMethod yX6_copyFrom, Cond.selects RX6 yX6_copyFrom yX6_copyFrom, Cond.code yX6_copyFrom cX6_copyFrom 2 none, Cond.methodLink RX6 37 Lib.Math.min.name, Cond.static Lib.Math.min.name, Cond.initialized "java/lang/Math", Cond.code Lib.Math.min.name Lib.Math.min.code 2 (some .int), Cond.methodLink RX6 23 arraycopyName, Cond.native arraycopyName, Cond.static arraycopyName, Cond.initialized "java/lang/System", Cond.methodLink RX4 51 yX4_find, Cond.instanceMethod yX4_find, Cond.selects RX4 yX4_find yX4_find, Cond.code yX4_find cX4_find 2 (some (.object "AnchoredNotes$Note")), Cond.methodLink RX4 55 yX2_copyFrom, Cond.instanceMethod yX2_copyFrom, Cond.selects RX2 yX2_copyFrom yX2_copyFrom]
def wsX0_keep_r4 : List Cond := [Cond.code yX2_copyFrom cX2_copyFrom 2 none, Cond.methodLink RX2 37 yX6_copyFrom]
def wsX0_keep : List Cond := .code yX0_keep cX0_keep 3 none :: ((wsX0_keep_r1 ++ (wsX0_keep_r2 ++ (wsX0_keep_r3 ++ wsX0_keep_r4))) ++ wsX00 ++ wsX40 ++ wsX60 ++ wsX50 ++ wsX20)
def wsX0_forgetOldest : List Cond := .code yX0_forgetOldest cX0_forgetOldest 3 none :: ([.fieldLink RX0 11 "AnchoredNotes$History" "states" "[LAnchoredNotes$Page;"] ++ wsX00)
def wsX0_confirm : List Cond := .code yX0_confirm cX0_confirm 2 (some .int) :: ([.fieldLink RX0 17 "AnchoredNotes$History" "size" "I", .methodLink RX0 26 yX0_forgetOldest, .instanceMethod yX0_forgetOldest, .selects RX0 yX0_forgetOldest yX0_forgetOldest, .initialized RX0, .code yX0_forgetOldest cX0_forgetOldest 3 none, .fieldLink RX0 11 "AnchoredNotes$History" "states" "[LAnchoredNotes$Page;"] ++ wsX00)
def wsX0_goBack_r1 : List Cond := [Cond.fieldLink RX0 17 "AnchoredNotes$History" "size" "I", Cond.fieldLink RX0 11 "AnchoredNotes$History" "states" "[LAnchoredNotes$Page;", Cond.methodLink RX0 22 yX4_copyFrom, Cond.instanceMethod yX4_copyFrom, Cond.selects RX4 yX4_copyFrom yX4_copyFrom, Cond.initialized RX4, Cond.code yX4_copyFrom cX4_copyFrom 5 none, Cond.fieldLink RX4 14 "AnchoredNotes$Page" "settings" "LAnchoredNotes$Row;", Cond.fieldLink RX4 20 "AnchoredNotes$Page" "letters" "LAnchoredNotes$Row;", Cond.fieldLink RX4 23 "AnchoredNotes$Page" "owners" "LAnchoredNotes$Row;", Cond.fieldLink RX4 47 "AnchoredNotes$Page" "noteCount" "I", Cond.methodLink RX4 43 yX6_copyFrom, Cond.instanceMethod yX6_copyFrom, Cond.selects RX6 yX6_copyFrom yX6_copyFrom, Cond.initialized RX6, Cond.code yX6_copyFrom cX6_copyFrom 2 none, Cond.fieldLink RX6 15 "AnchoredNotes$Row" "length" "I", Cond.fieldLink RX6 9 "AnchoredNotes$Row" "items" "[I", Cond.methodLink RX6 37 Lib.Math.min.name, Cond.static Lib.Math.min.name, Cond.initialized "java/lang/Math", Cond.code Lib.Math.min.name Lib.Math.min.code 2 (some .int), Cond.methodLink RX6 23 arraycopyName, Cond.native arraycopyName]
def wsX0_goBack_r2 : List Cond := [Cond.static arraycopyName, Cond.initialized "java/lang/System", Cond.methodLink RX4 51 yX4_find, Cond.instanceMethod yX4_find, Cond.selects RX4 yX4_find yX4_find, Cond.code yX4_find cX4_find 2 (some (.object "AnchoredNotes$Note")), Cond.fieldLink RX4 28 "AnchoredNotes$Page" "notes" "[LAnchoredNotes$Note;", Cond.methodLink RX4 55 yX2_copyFrom, Cond.instanceMethod yX2_copyFrom, Cond.selects RX2 yX2_copyFrom yX2_copyFrom, Cond.initialized RX2, Cond.code yX2_copyFrom cX2_copyFrom 2 none, Cond.fieldLink RX2 9 "AnchoredNotes$Note" "target" "I", Cond.fieldLink RX2 20 "AnchoredNotes$Note" "words" "LAnchoredNotes$Row;", Cond.fieldLink RX2 24 "AnchoredNotes$Note" "ahead" "LAnchoredNotes$Row;", Cond.fieldLink RX2 27 "AnchoredNotes$Note" "behind" "LAnchoredNotes$Row;", Cond.methodLink RX2 37 yX6_copyFrom]
def wsX0_goBack : List Cond := .code yX0_goBack cX0_goBack 4 (some .boolean) :: ((wsX0_goBack_r1 ++ wsX0_goBack_r2) ++ wsX00 ++ wsX40 ++ wsX60 ++ wsX20)
def wsX1_init : List Cond := .code yX1_init cX1_init 1 none :: ([.methodLink RX1 3 objectInit, .instanceMethod objectInit, .code objectInit ⟨#[0xb1]⟩ 1 none, .classLink RX1 9 RX6, .instantiable RX6 2, .initialized RX6, .fieldLink RX1 14 "AnchoredNotes$Margin" "lines" "LAnchoredNotes$Row;", .fieldLink RX1 20 "AnchoredNotes$Margin" "leaders" "LAnchoredNotes$Row;", .fieldLink RX1 23 "AnchoredNotes$Margin" "firsts" "LAnchoredNotes$Row;", .fieldLink RX1 26 "AnchoredNotes$Margin" "used" "LAnchoredNotes$Row;", .methodLink RX1 11 yX6_init, .instanceMethod yX6_init, .code yX6_init cX6_init 2 none, .methodLink RX6 3 objectInit, .arrayClass .int, .fieldLink RX6 9 "AnchoredNotes$Row" "items" "[I"] ++ wsX60 ++ wsX10)
def wsX6_clear : List Cond := .code yX6_clear cX6_clear 1 none :: ([.fieldLink RX6 15 "AnchoredNotes$Row" "length" "I"] ++ wsX60)
def wsX1_empty : List Cond := .code yX1_empty cX1_empty 2 none :: ([.fieldLink RX1 23 "AnchoredNotes$Margin" "firsts" "LAnchoredNotes$Row;", .fieldLink RX1 14 "AnchoredNotes$Margin" "lines" "LAnchoredNotes$Row;", .fieldLink RX1 20 "AnchoredNotes$Margin" "leaders" "LAnchoredNotes$Row;", .fieldLink RX1 26 "AnchoredNotes$Margin" "used" "LAnchoredNotes$Row;", .fieldLink RX1 70 "AnchoredNotes$Margin" "lastLine" "I", .fieldLink RX1 73 "AnchoredNotes$Margin" "allLeaders" "I", .fieldLink RX1 76 "AnchoredNotes$Margin" "longestLeader" "I", .methodLink RX1 67 yX6_clear, .instanceMethod yX6_clear, .selects RX6 yX6_clear yX6_clear, .initialized RX6, .code yX6_clear cX6_clear 1 none, .fieldLink RX6 15 "AnchoredNotes$Row" "length" "I", .methodLink RX1 47 yX6_add, .instanceMethod yX6_add, .selects RX6 yX6_add yX6_add, .code yX6_add cX6_add 2 none, .fieldLink RX6 9 "AnchoredNotes$Row" "items" "[I"] ++ wsX10 ++ wsX60)
def wsX6_item : List Cond := .code yX6_item cX6_item 2 (some .int) :: ([.fieldLink RX6 15 "AnchoredNotes$Row" "length" "I", .fieldLink RX6 9 "AnchoredNotes$Row" "items" "[I"] ++ wsX60)
def wsX8_isIn : List Cond := .code yX8_isIn cX8_isIn 2 (some .boolean) :: ([])
def wsX5_gather : List Cond := .code yX5_gather cX5_gather 7 none :: ([.fieldLink RX5 9 "AnchoredNotes$Pieces" "pieces" "I", .fieldLink RX5 15 "AnchoredNotes$Pieces" "letters" "I", .fieldLink RX5 18 "AnchoredNotes$Pieces" "first" "I", .fieldLink RX5 21 "AnchoredNotes$Pieces" "last" "I", .fieldLink RX5 24 "AnchoredNotes$Row" "length" "I", .methodLink RX5 29 yX6_item, .instanceMethod yX6_item, .selects RX6 yX6_item yX6_item, .initialized RX6, .code yX6_item cX6_item 2 (some .int), .fieldLink RX6 15 "AnchoredNotes$Row" "length" "I", .fieldLink RX6 9 "AnchoredNotes$Row" "items" "[I", .static yX8_isIn, .initialized RX8, .code yX8_isIn cX8_isIn 2 (some .boolean)] ++ wsX50 ++ wsX60)
def wsX4_piecesOf : List Cond := .code yX4_piecesOf cX4_piecesOf 2 (some (.object "AnchoredNotes$Pieces")) :: ([.fieldLink RX4 35 "AnchoredNotes$Page" "pieces" "LAnchoredNotes$Pieces;", .fieldLink RX4 23 "AnchoredNotes$Page" "owners" "LAnchoredNotes$Row;", .methodLink RX4 156 yX5_gather, .instanceMethod yX5_gather, .selects RX5 yX5_gather yX5_gather, .initialized RX5, .code yX5_gather cX5_gather 7 none, .fieldLink RX5 9 "AnchoredNotes$Pieces" "pieces" "I", .fieldLink RX5 15 "AnchoredNotes$Pieces" "letters" "I", .fieldLink RX5 18 "AnchoredNotes$Pieces" "first" "I", .fieldLink RX5 21 "AnchoredNotes$Pieces" "last" "I", .fieldLink RX5 24 "AnchoredNotes$Row" "length" "I", .methodLink RX5 29 yX6_item, .instanceMethod yX6_item, .selects RX6 yX6_item yX6_item, .initialized RX6, .code yX6_item cX6_item 2 (some .int), .fieldLink RX6 15 "AnchoredNotes$Row" "length" "I", .fieldLink RX6 9 "AnchoredNotes$Row" "items" "[I", .static yX8_isIn, .initialized RX8, .code yX8_isIn cX8_isIn 2 (some .boolean)] ++ wsX40 ++ wsX50 ++ wsX60)
def wsX4_lineOf : List Cond := .code yX4_lineOf cX4_lineOf 3 (some .int) :: ([.fieldLink RX4 14 "AnchoredNotes$Page" "settings" "LAnchoredNotes$Row;", .methodLink RX4 69 yX6_item, .instanceMethod yX6_item, .selects RX6 yX6_item yX6_item, .initialized RX6, .code yX6_item cX6_item 2 (some .int), .fieldLink RX6 15 "AnchoredNotes$Row" "length" "I", .fieldLink RX6 9 "AnchoredNotes$Row" "items" "[I"] ++ wsX40 ++ wsX60)
def wsX6_has : List Cond := .code yX6_has cX6_has 2 (some .boolean) :: ([.fieldLink RX6 15 "AnchoredNotes$Row" "length" "I", .fieldLink RX6 9 "AnchoredNotes$Row" "items" "[I"] ++ wsX60)
def wsX6_replace : List Cond := .code yX6_replace cX6_replace 3 none :: ([.fieldLink RX6 9 "AnchoredNotes$Row" "items" "[I", .methodLink RX6 19 yX6_has, .instanceMethod yX6_has, .selects RX6 yX6_has yX6_has, .initialized RX6, .code yX6_has cX6_has 2 (some .boolean), .fieldLink RX6 15 "AnchoredNotes$Row" "length" "I"] ++ wsX60)
def wsX1_print_r1 : List Cond := [Cond.fieldLink RX1 26 "AnchoredNotes$Margin" "used" "LAnchoredNotes$Row;", Cond.fieldLink RX1 14 "AnchoredNotes$Margin" "lines" "LAnchoredNotes$Row;", Cond.fieldLink RX1 20 "AnchoredNotes$Margin" "leaders" "LAnchoredNotes$Row;", Cond.fieldLink RX1 70 "AnchoredNotes$Margin" "lastLine" "I", Cond.methodLink RX1 83 Lib.Math.max.name, Cond.static Lib.Math.max.name, Cond.initialized "java/lang/Math", Cond.code Lib.Math.max.name Lib.Math.max.code 2 (some .int), Cond.fieldLink RX1 73 "AnchoredNotes$Margin" "allLeaders" "I", Cond.fieldLink RX1 76 "AnchoredNotes$Margin" "longestLeader" "I", Cond.methodLink RX1 56 yX6_item, Cond.instanceMethod yX6_item, Cond.selects RX6 yX6_item yX6_item, Cond.initialized RX6, Cond.code yX6_item cX6_item 2 (some .int), Cond.fieldLink RX6 15 "AnchoredNotes$Row" "length" "I", Cond.fieldLink RX6 9 "AnchoredNotes$Row" "items" "[I", Cond.methodLink RX1 79 yX6_replace, Cond.instanceMethod yX6_replace, Cond.selects RX6 yX6_replace yX6_replace, Cond.code yX6_replace cX6_replace 3 none, Cond.methodLink RX6 19 yX6_has, Cond.instanceMethod yX6_has, Cond.selects RX6 yX6_has yX6_has]
def wsX1_print_r2 : List Cond := [Cond.code yX6_has cX6_has 2 (some .boolean)]
def wsX1_print : List Cond := .code yX1_print cX1_print 5 none :: ((wsX1_print_r1 ++ wsX1_print_r2) ++ wsX10 ++ wsX60)
def wsX1_layOut_r1 : List Cond := [Cond.fieldLink RX1 32 "AnchoredNotes$Page" "noteCount" "I", Cond.fieldLink RX1 23 "AnchoredNotes$Margin" "firsts" "LAnchoredNotes$Row;", Cond.fieldLink RX1 42 "AnchoredNotes$Pieces" "first" "I", Cond.fieldLink RX1 14 "AnchoredNotes$Margin" "lines" "LAnchoredNotes$Row;", Cond.fieldLink RX1 20 "AnchoredNotes$Margin" "leaders" "LAnchoredNotes$Row;", Cond.fieldLink RX1 50 "AnchoredNotes$Page" "letters" "LAnchoredNotes$Row;", Cond.fieldLink RX1 53 "AnchoredNotes$Row" "length" "I", Cond.methodLink RX1 29 yX1_empty, Cond.instanceMethod yX1_empty, Cond.selects RX1 yX1_empty yX1_empty, Cond.initialized RX1, Cond.code yX1_empty cX1_empty 2 none, Cond.fieldLink RX1 26 "AnchoredNotes$Margin" "used" "LAnchoredNotes$Row;", Cond.fieldLink RX1 70 "AnchoredNotes$Margin" "lastLine" "I", Cond.fieldLink RX1 73 "AnchoredNotes$Margin" "allLeaders" "I", Cond.fieldLink RX1 76 "AnchoredNotes$Margin" "longestLeader" "I", Cond.methodLink RX1 67 yX6_clear, Cond.instanceMethod yX6_clear, Cond.selects RX6 yX6_clear yX6_clear, Cond.initialized RX6, Cond.code yX6_clear cX6_clear 1 none, Cond.fieldLink RX6 15 "AnchoredNotes$Row" "length" "I", Cond.methodLink RX1 47 yX6_add, Cond.instanceMethod yX6_add]
def wsX1_layOut_r2 : List Cond := [Cond.selects RX6 yX6_add yX6_add, Cond.code yX6_add cX6_add 2 none, Cond.fieldLink RX6 9 "AnchoredNotes$Row" "items" "[I", Cond.methodLink RX1 38 yX4_piecesOf, Cond.instanceMethod yX4_piecesOf, Cond.selects RX4 yX4_piecesOf yX4_piecesOf, Cond.initialized RX4, Cond.code yX4_piecesOf cX4_piecesOf 2 (some (.object "AnchoredNotes$Pieces")), Cond.fieldLink RX4 35 "AnchoredNotes$Page" "pieces" "LAnchoredNotes$Pieces;", Cond.fieldLink RX4 23 "AnchoredNotes$Page" "owners" "LAnchoredNotes$Row;", Cond.methodLink RX4 156 yX5_gather, Cond.instanceMethod yX5_gather, Cond.selects RX5 yX5_gather yX5_gather, Cond.initialized RX5, Cond.code yX5_gather cX5_gather 7 none, Cond.fieldLink RX5 9 "AnchoredNotes$Pieces" "pieces" "I", Cond.fieldLink RX5 15 "AnchoredNotes$Pieces" "letters" "I", Cond.fieldLink RX5 18 "AnchoredNotes$Pieces" "first" "I", Cond.fieldLink RX5 21 "AnchoredNotes$Pieces" "last" "I", Cond.fieldLink RX5 24 "AnchoredNotes$Row" "length" "I", Cond.methodLink RX5 29 yX6_item, Cond.instanceMethod yX6_item, Cond.selects RX6 yX6_item yX6_item, Cond.code yX6_item cX6_item 2 (some .int)]
def wsX1_layOut_r3 : List Cond := [Cond.static yX8_isIn, Cond.initialized RX8, Cond.code yX8_isIn cX8_isIn 2 (some .boolean), Cond.methodLink RX1 56 yX6_item, Cond.methodLink RX1 60 yX4_lineOf, Cond.instanceMethod yX4_lineOf, Cond.selects RX4 yX4_lineOf yX4_lineOf, Cond.code yX4_lineOf cX4_lineOf 3 (some .int), Cond.fieldLink RX4 14 "AnchoredNotes$Page" "settings" "LAnchoredNotes$Row;", Cond.methodLink RX4 69 yX6_item, Cond.methodLink RX1 63 yX1_print, Cond.instanceMethod yX1_print, Cond.selects RX1 yX1_print yX1_print, Cond.code yX1_print cX1_print 5 none, Cond.methodLink RX1 83 Lib.Math.max.name, Cond.static Lib.Math.max.name, Cond.initialized "java/lang/Math", Cond.code Lib.Math.max.name Lib.Math.max.code 2 (some .int), Cond.methodLink RX1 79 yX6_replace, Cond.instanceMethod yX6_replace, Cond.selects RX6 yX6_replace yX6_replace, Cond.code yX6_replace cX6_replace 3 none, Cond.methodLink RX6 19 yX6_has, Cond.instanceMethod yX6_has]
def wsX1_layOut_r4 : List Cond := [Cond.selects RX6 yX6_has yX6_has, Cond.code yX6_has cX6_has 2 (some .boolean)]
def wsX1_layOut : List Cond := .code yX1_layOut cX1_layOut 5 none :: ((wsX1_layOut_r1 ++ (wsX1_layOut_r2 ++ (wsX1_layOut_r3 ++ wsX1_layOut_r4))) ++ wsX40 ++ wsX10 ++ wsX50 ++ wsX60)
def wsX2_isReply : List Cond := .code yX2_isReply cX2_isReply 1 (some .boolean) :: ([.fieldLink RX2 9 "AnchoredNotes$Note" "target" "I"] ++ wsX20)
def wsX2_becomeReply : List Cond := .code yX2_becomeReply cX2_becomeReply 2 none :: ([.fieldLink RX2 9 "AnchoredNotes$Note" "target" "I", .fieldLink RX2 20 "AnchoredNotes$Note" "words" "LAnchoredNotes$Row;", .fieldLink RX2 24 "AnchoredNotes$Note" "ahead" "LAnchoredNotes$Row;", .fieldLink RX2 27 "AnchoredNotes$Note" "behind" "LAnchoredNotes$Row;", .methodLink RX2 30 yX6_clear, .instanceMethod yX6_clear, .selects RX6 yX6_clear yX6_clear, .initialized RX6, .code yX6_clear cX6_clear 1 none, .fieldLink RX6 15 "AnchoredNotes$Row" "length" "I"] ++ wsX20 ++ wsX60)
def wsX6_copyPart : List Cond := .code yX6_copyPart cX6_copyPart 6 none :: ([.methodLink RX6 43 yX6_clear, .instanceMethod yX6_clear, .selects RX6 yX6_clear yX6_clear, .initialized RX6, .code yX6_clear cX6_clear 1 none, .fieldLink RX6 15 "AnchoredNotes$Row" "length" "I", .methodLink RX6 19 yX6_has, .instanceMethod yX6_has, .selects RX6 yX6_has yX6_has, .code yX6_has cX6_has 2 (some .boolean), .fieldLink RX6 9 "AnchoredNotes$Row" "items" "[I", .methodLink RX6 46 yX6_item, .instanceMethod yX6_item, .selects RX6 yX6_item yX6_item, .code yX6_item cX6_item 2 (some .int), .methodLink RX6 50 yX6_add, .instanceMethod yX6_add, .selects RX6 yX6_add yX6_add, .code yX6_add cX6_add 2 none] ++ wsX60)
def wsX2_remember_r1 : List Cond := [Cond.fieldLink RX2 9 "AnchoredNotes$Note" "target" "I", Cond.fieldLink RX2 20 "AnchoredNotes$Note" "words" "LAnchoredNotes$Row;", Cond.fieldLink RX2 24 "AnchoredNotes$Note" "ahead" "LAnchoredNotes$Row;", Cond.fieldLink RX2 27 "AnchoredNotes$Note" "behind" "LAnchoredNotes$Row;", Cond.methodLink RX2 33 yX6_copyPart, Cond.instanceMethod yX6_copyPart, Cond.selects RX6 yX6_copyPart yX6_copyPart, Cond.initialized RX6, Cond.code yX6_copyPart cX6_copyPart 6 none, Cond.methodLink RX6 43 yX6_clear, Cond.instanceMethod yX6_clear, Cond.selects RX6 yX6_clear yX6_clear, Cond.code yX6_clear cX6_clear 1 none, Cond.fieldLink RX6 15 "AnchoredNotes$Row" "length" "I", Cond.methodLink RX6 19 yX6_has, Cond.instanceMethod yX6_has, Cond.selects RX6 yX6_has yX6_has, Cond.code yX6_has cX6_has 2 (some .boolean), Cond.fieldLink RX6 9 "AnchoredNotes$Row" "items" "[I", Cond.methodLink RX6 46 yX6_item, Cond.instanceMethod yX6_item, Cond.selects RX6 yX6_item yX6_item, Cond.code yX6_item cX6_item 2 (some .int), Cond.methodLink RX6 50 yX6_add]
def wsX2_remember_r2 : List Cond := [Cond.instanceMethod yX6_add, Cond.selects RX6 yX6_add yX6_add, Cond.code yX6_add cX6_add 2 none]
def wsX2_remember : List Cond := .code yX2_remember cX2_remember 5 none :: ((wsX2_remember_r1 ++ wsX2_remember_r2) ++ wsX20 ++ wsX60)
def wsX3_init : List Cond := .code yX3_init cX3_init 1 none :: ([.methodLink RX3 3 objectInit, .instanceMethod objectInit, .code objectInit ⟨#[0xb1]⟩ 1 none, .classLink RX3 9 RX6, .instantiable RX6 2, .initialized RX6, .fieldLink RX3 14 "AnchoredNotes$OrderReader" "numbers" "LAnchoredNotes$Row;", .methodLink RX3 11 yX6_init, .instanceMethod yX6_init, .code yX6_init cX6_init 2 none, .methodLink RX6 3 objectInit, .arrayClass .int, .fieldLink RX6 9 "AnchoredNotes$Row" "items" "[I"] ++ wsX60 ++ wsX30)
def wsX3_start : List Cond := .code yX3_start cX3_start 1 none :: ([.fieldLink RX3 20 "AnchoredNotes$OrderReader" "next" "I"] ++ wsX30)
def wsX3_isDigit : List Cond := .code yX3_isDigit cX3_isDigit 1 (some .boolean) :: ([])
def wsX3_readNumber : List Cond := .code yX3_readNumber cX3_readNumber 3 (some .boolean) :: ([.fieldLink RX3 20 "AnchoredNotes$OrderReader" "next" "I", .fieldLink RX3 14 "AnchoredNotes$OrderReader" "numbers" "LAnchoredNotes$Row;", .methodLink RX3 38 yX6_item, .instanceMethod yX6_item, .selects RX6 yX6_item yX6_item, .initialized RX6, .code yX6_item cX6_item 2 (some .int), .fieldLink RX6 15 "AnchoredNotes$Row" "length" "I", .fieldLink RX6 9 "AnchoredNotes$Row" "items" "[I", .methodLink RX3 54 yX3_isDigit, .static yX3_isDigit, .initialized RX3, .code yX3_isDigit cX3_isDigit 1 (some .boolean), .methodLink RX3 58 yX6_add, .instanceMethod yX6_add, .selects RX6 yX6_add yX6_add, .code yX6_add cX6_add 2 none] ++ wsX30 ++ wsX60)
def wsX3_skip : List Cond := .code yX3_skip cX3_skip 3 (some .boolean) :: ([.fieldLink RX3 20 "AnchoredNotes$OrderReader" "next" "I", .methodLink RX3 38 yX6_item, .instanceMethod yX6_item, .selects RX6 yX6_item yX6_item, .initialized RX6, .code yX6_item cX6_item 2 (some .int), .fieldLink RX6 15 "AnchoredNotes$Row" "length" "I", .fieldLink RX6 9 "AnchoredNotes$Row" "items" "[I"] ++ wsX30 ++ wsX60)
def wsX3_isLetter : List Cond := .code yX3_isLetter cX3_isLetter 1 (some .boolean) :: ([])
def wsX3_readLetters : List Cond := .code yX3_readLetters cX3_readLetters 2 (some .boolean) :: ([.fieldLink RX3 20 "AnchoredNotes$OrderReader" "next" "I", .fieldLink RX3 61 "AnchoredNotes$OrderReader" "lettersFrom" "I", .fieldLink RX3 31 "AnchoredNotes$Row" "length" "I", .methodLink RX3 38 yX6_item, .instanceMethod yX6_item, .selects RX6 yX6_item yX6_item, .initialized RX6, .code yX6_item cX6_item 2 (some .int), .fieldLink RX6 15 "AnchoredNotes$Row" "length" "I", .fieldLink RX6 9 "AnchoredNotes$Row" "items" "[I", .methodLink RX3 64 yX3_isLetter, .static yX3_isLetter, .initialized RX3, .code yX3_isLetter cX3_isLetter 1 (some .boolean)] ++ wsX30 ++ wsX60)
def wsX3_readOrder_r1 : List Cond := [Cond.fieldLink RX3 20 "AnchoredNotes$OrderReader" "next" "I", Cond.fieldLink RX3 42 "AnchoredNotes$OrderReader" "kind" "I", Cond.fieldLink RX3 14 "AnchoredNotes$OrderReader" "numbers" "LAnchoredNotes$Row;", Cond.methodLink RX3 38 yX6_item, Cond.instanceMethod yX6_item, Cond.selects RX6 yX6_item yX6_item, Cond.initialized RX6, Cond.code yX6_item cX6_item 2 (some .int), Cond.fieldLink RX6 15 "AnchoredNotes$Row" "length" "I", Cond.fieldLink RX6 9 "AnchoredNotes$Row" "items" "[I", Cond.methodLink RX3 45 yX6_clear, Cond.instanceMethod yX6_clear, Cond.selects RX6 yX6_clear yX6_clear, Cond.code yX6_clear cX6_clear 1 none, Cond.methodLink RX3 48 yX3_readNumber, Cond.instanceMethod yX3_readNumber, Cond.selects RX3 yX3_readNumber yX3_readNumber, Cond.initialized RX3, Cond.code yX3_readNumber cX3_readNumber 3 (some .boolean), Cond.methodLink RX3 54 yX3_isDigit, Cond.static yX3_isDigit, Cond.code yX3_isDigit cX3_isDigit 1 (some .boolean), Cond.methodLink RX3 58 yX6_add, Cond.instanceMethod yX6_add]
def wsX3_readOrder_r2 : List Cond := [Cond.selects RX6 yX6_add yX6_add, Cond.code yX6_add cX6_add 2 none, Cond.methodLink RX3 34 yX3_skip, Cond.instanceMethod yX3_skip, Cond.selects RX3 yX3_skip yX3_skip, Cond.code yX3_skip cX3_skip 3 (some .boolean), Cond.methodLink RX3 51 yX3_readLetters, Cond.instanceMethod yX3_readLetters, Cond.selects RX3 yX3_readLetters yX3_readLetters, Cond.code yX3_readLetters cX3_readLetters 2 (some .boolean), Cond.fieldLink RX3 61 "AnchoredNotes$OrderReader" "lettersFrom" "I", Cond.fieldLink RX3 31 "AnchoredNotes$Row" "length" "I", Cond.methodLink RX3 64 yX3_isLetter, Cond.static yX3_isLetter, Cond.code yX3_isLetter cX3_isLetter 1 (some .boolean)]
def wsX3_readOrder : List Cond := .code yX3_readOrder cX3_readOrder 2 (some .boolean) :: ((wsX3_readOrder_r1 ++ wsX3_readOrder_r2) ++ wsX30 ++ wsX60)
def wsX3_findFault_r1 : List Cond := [Cond.fieldLink RX3 20 "AnchoredNotes$OrderReader" "next" "I", Cond.fieldLink RX3 31 "AnchoredNotes$Row" "length" "I", Cond.methodLink RX3 24 yX3_start, Cond.instanceMethod yX3_start, Cond.selects RX3 yX3_start yX3_start, Cond.initialized RX3, Cond.code yX3_start cX3_start 1 none, Cond.methodLink RX3 27 yX3_readOrder, Cond.instanceMethod yX3_readOrder, Cond.selects RX3 yX3_readOrder yX3_readOrder, Cond.code yX3_readOrder cX3_readOrder 2 (some .boolean), Cond.fieldLink RX3 42 "AnchoredNotes$OrderReader" "kind" "I", Cond.fieldLink RX3 14 "AnchoredNotes$OrderReader" "numbers" "LAnchoredNotes$Row;", Cond.methodLink RX3 38 yX6_item, Cond.instanceMethod yX6_item, Cond.selects RX6 yX6_item yX6_item, Cond.initialized RX6, Cond.code yX6_item cX6_item 2 (some .int), Cond.fieldLink RX6 15 "AnchoredNotes$Row" "length" "I", Cond.fieldLink RX6 9 "AnchoredNotes$Row" "items" "[I", Cond.methodLink RX3 45 yX6_clear, Cond.instanceMethod yX6_clear, Cond.selects RX6 yX6_clear yX6_clear, Cond.code yX6_clear cX6_clear 1 none]
def wsX3_findFault_r2 : List Cond := [Cond.methodLink RX3 48 yX3_readNumber, Cond.instanceMethod yX3_readNumber, Cond.selects RX3 yX3_readNumber yX3_readNumber, Cond.code yX3_readNumber cX3_readNumber 3 (some .boolean), Cond.methodLink RX3 54 yX3_isDigit, Cond.static yX3_isDigit, Cond.code yX3_isDigit cX3_isDigit 1 (some .boolean), Cond.methodLink RX3 58 yX6_add, Cond.instanceMethod yX6_add, Cond.selects RX6 yX6_add yX6_add, Cond.code yX6_add cX6_add 2 none, Cond.methodLink RX3 34 yX3_skip, Cond.instanceMethod yX3_skip, Cond.selects RX3 yX3_skip yX3_skip, Cond.code yX3_skip cX3_skip 3 (some .boolean), Cond.methodLink RX3 51 yX3_readLetters, Cond.instanceMethod yX3_readLetters, Cond.selects RX3 yX3_readLetters yX3_readLetters, Cond.code yX3_readLetters cX3_readLetters 2 (some .boolean), Cond.fieldLink RX3 61 "AnchoredNotes$OrderReader" "lettersFrom" "I", Cond.methodLink RX3 64 yX3_isLetter, Cond.static yX3_isLetter, Cond.code yX3_isLetter cX3_isLetter 1 (some .boolean)]
def wsX3_findFault : List Cond := .code yX3_findFault cX3_findFault 3 (some .int) :: ((wsX3_findFault_r1 ++ wsX3_findFault_r2) ++ wsX30 ++ wsX60)
def wsX4_leastOf : List Cond := .code yX4_leastOf cX4_leastOf 1 (some .int) :: ([])
def wsX4_mostOf : List Cond := .code yX4_mostOf cX4_mostOf 1 (some .int) :: ([])
def wsX4_changeSetting : List Cond := .code yX4_changeSetting cX4_changeSetting 4 (some .int) :: ([.fieldLink RX4 14 "AnchoredNotes$Page" "settings" "LAnchoredNotes$Row;", .methodLink RX4 58 yX6_has, .instanceMethod yX6_has, .selects RX6 yX6_has yX6_has, .initialized RX6, .code yX6_has cX6_has 2 (some .boolean), .fieldLink RX6 15 "AnchoredNotes$Row" "length" "I", .fieldLink RX6 9 "AnchoredNotes$Row" "items" "[I", .methodLink RX4 62 yX4_leastOf, .static yX4_leastOf, .initialized RX4, .code yX4_leastOf cX4_leastOf 1 (some .int), .methodLink RX4 66 yX4_mostOf, .static yX4_mostOf, .code yX4_mostOf cX4_mostOf 1 (some .int), .methodLink RX4 69 yX6_item, .instanceMethod yX6_item, .selects RX6 yX6_item yX6_item, .code yX6_item cX6_item 2 (some .int), .methodLink RX4 72 yX6_replace, .instanceMethod yX6_replace, .selects RX6 yX6_replace yX6_replace, .code yX6_replace cX6_replace 3 none, .methodLink RX6 19 yX6_has] ++ wsX40 ++ wsX60)
def wsX6_insert : List Cond := .code yX6_insert cX6_insert 3 none :: ([.fieldLink RX6 15 "AnchoredNotes$Row" "length" "I", .fieldLink RX6 9 "AnchoredNotes$Row" "items" "[I", .methodLink RX6 23 arraycopyName, .native arraycopyName, .static arraycopyName, .initialized "java/lang/System"] ++ wsX60)
def wsX4_writeLetter : List Cond := .code yX4_writeLetter cX4_writeLetter 3 (some .int) :: ([.fieldLink RX4 20 "AnchoredNotes$Page" "letters" "LAnchoredNotes$Row;", .fieldLink RX4 76 "AnchoredNotes$Row" "length" "I", .fieldLink RX4 23 "AnchoredNotes$Page" "owners" "LAnchoredNotes$Row;", .methodLink RX4 79 yX6_insert, .instanceMethod yX6_insert, .selects RX6 yX6_insert yX6_insert, .initialized RX6, .code yX6_insert cX6_insert 3 none, .fieldLink RX6 15 "AnchoredNotes$Row" "length" "I", .fieldLink RX6 9 "AnchoredNotes$Row" "items" "[I", .methodLink RX6 23 arraycopyName, .native arraycopyName, .static arraycopyName, .initialized "java/lang/System"] ++ wsX40 ++ wsX60)
def wsX4_passageError : List Cond := .code yX4_passageError cX4_passageError 3 (some .int) :: ([.fieldLink RX4 20 "AnchoredNotes$Page" "letters" "LAnchoredNotes$Row;", .methodLink RX4 58 yX6_has, .instanceMethod yX6_has, .selects RX6 yX6_has yX6_has, .initialized RX6, .code yX6_has cX6_has 2 (some .boolean), .fieldLink RX6 15 "AnchoredNotes$Row" "length" "I", .fieldLink RX6 9 "AnchoredNotes$Row" "items" "[I"] ++ wsX40 ++ wsX60)
def wsX4_orphanedBy : List Cond := .code yX4_orphanedBy cX4_orphanedBy 7 (some .int) :: ([.fieldLink RX4 23 "AnchoredNotes$Page" "owners" "LAnchoredNotes$Row;", .fieldLink RX4 76 "AnchoredNotes$Row" "length" "I", .methodLink RX4 94 yX4_passageError, .instanceMethod yX4_passageError, .selects RX4 yX4_passageError yX4_passageError, .initialized RX4, .code yX4_passageError cX4_passageError 3 (some .int), .fieldLink RX4 20 "AnchoredNotes$Page" "letters" "LAnchoredNotes$Row;", .methodLink RX4 58 yX6_has, .instanceMethod yX6_has, .selects RX6 yX6_has yX6_has, .initialized RX6, .code yX6_has cX6_has 2 (some .boolean), .fieldLink RX6 15 "AnchoredNotes$Row" "length" "I", .fieldLink RX6 9 "AnchoredNotes$Row" "items" "[I", .methodLink RX4 69 yX6_item, .instanceMethod yX6_item, .selects RX6 yX6_item yX6_item, .code yX6_item cX6_item 2 (some .int)] ++ wsX40 ++ wsX60)
def wsX6_cut : List Cond := .code yX6_cut cX6_cut 3 none :: ([.fieldLink RX6 9 "AnchoredNotes$Row" "items" "[I", .fieldLink RX6 15 "AnchoredNotes$Row" "length" "I", .methodLink RX6 23 arraycopyName, .native arraycopyName, .static arraycopyName, .initialized "java/lang/System", .methodLink RX6 19 yX6_has, .instanceMethod yX6_has, .selects RX6 yX6_has yX6_has, .initialized RX6, .code yX6_has cX6_has 2 (some .boolean)] ++ wsX60)
def wsJ6_bitCount_0f7a4 : List Cond := .code yJ6_bitCount_0f7a4 cJ6_bitCount_0f7a4 1 (some .int) :: ([.constant RJ6 265 (1431655765), .constant RJ6 266 (858993459), .constant RJ6 267 (252645135)])
def wsX4_eraseLetters_r1 : List Cond := [Cond.fieldLink RX4 20 "AnchoredNotes$Page" "letters" "LAnchoredNotes$Row;", Cond.fieldLink RX4 23 "AnchoredNotes$Page" "owners" "LAnchoredNotes$Row;", Cond.methodLink RX4 82 yX4_orphanedBy, Cond.instanceMethod yX4_orphanedBy, Cond.selects RX4 yX4_orphanedBy yX4_orphanedBy, Cond.initialized RX4, Cond.code yX4_orphanedBy cX4_orphanedBy 7 (some .int), Cond.fieldLink RX4 76 "AnchoredNotes$Row" "length" "I", Cond.methodLink RX4 94 yX4_passageError, Cond.instanceMethod yX4_passageError, Cond.selects RX4 yX4_passageError yX4_passageError, Cond.code yX4_passageError cX4_passageError 3 (some .int), Cond.methodLink RX4 58 yX6_has, Cond.instanceMethod yX6_has, Cond.selects RX6 yX6_has yX6_has, Cond.initialized RX6, Cond.code yX6_has cX6_has 2 (some .boolean), Cond.fieldLink RX6 15 "AnchoredNotes$Row" "length" "I", Cond.fieldLink RX6 9 "AnchoredNotes$Row" "items" "[I", Cond.methodLink RX4 69 yX6_item, Cond.instanceMethod yX6_item, Cond.selects RX6 yX6_item yX6_item, Cond.code yX6_item cX6_item 2 (some .int), Cond.methodLink RX4 86 yX6_cut]
def wsX4_eraseLetters_r2 : List Cond := [Cond.instanceMethod yX6_cut, Cond.selects RX6 yX6_cut yX6_cut, Cond.code yX6_cut cX6_cut 3 none, Cond.methodLink RX6 23 arraycopyName, Cond.native arraycopyName, Cond.static arraycopyName, Cond.initialized "java/lang/System", Cond.methodLink RX6 19 yX6_has, Cond.methodLink RX4 89 yJ6_bitCount_0f7a4, Cond.static yJ6_bitCount_0f7a4, Cond.initialized RJ6, Cond.code yJ6_bitCount_0f7a4 cJ6_bitCount_0f7a4 1 (some .int), Cond.constant RJ6 265 (1431655765), Cond.constant RJ6 266 (858993459), Cond.constant RJ6 267 (252645135)]
def wsX4_eraseLetters : List Cond := .code yX4_eraseLetters cX4_eraseLetters 4 (some .int) :: ((wsX4_eraseLetters_r1 ++ wsX4_eraseLetters_r2) ++ wsX40 ++ wsX60)
def wsX6_turn : List Cond := .code yX6_turn cX6_turn 6 none :: ([.fieldLink RX6 9 "AnchoredNotes$Row" "items" "[I", .methodLink RX6 19 yX6_has, .instanceMethod yX6_has, .selects RX6 yX6_has yX6_has, .initialized RX6, .code yX6_has cX6_has 2 (some .boolean), .fieldLink RX6 15 "AnchoredNotes$Row" "length" "I"] ++ wsX60)
def wsX6_exchange : List Cond := .code yX6_exchange cX6_exchange 4 none :: ([.methodLink RX6 33 yX6_turn, .instanceMethod yX6_turn, .selects RX6 yX6_turn yX6_turn, .initialized RX6, .code yX6_turn cX6_turn 6 none, .fieldLink RX6 9 "AnchoredNotes$Row" "items" "[I", .methodLink RX6 19 yX6_has, .instanceMethod yX6_has, .selects RX6 yX6_has yX6_has, .code yX6_has cX6_has 2 (some .boolean), .fieldLink RX6 15 "AnchoredNotes$Row" "length" "I"] ++ wsX60)
def wsX6_shift : List Cond := .code yX6_shift cX6_shift 4 none :: ([.methodLink RX6 29 yX6_exchange, .instanceMethod yX6_exchange, .selects RX6 yX6_exchange yX6_exchange, .initialized RX6, .code yX6_exchange cX6_exchange 4 none, .methodLink RX6 33 yX6_turn, .instanceMethod yX6_turn, .selects RX6 yX6_turn yX6_turn, .code yX6_turn cX6_turn 6 none, .fieldLink RX6 9 "AnchoredNotes$Row" "items" "[I", .methodLink RX6 19 yX6_has, .instanceMethod yX6_has, .selects RX6 yX6_has yX6_has, .code yX6_has cX6_has 2 (some .boolean), .fieldLink RX6 15 "AnchoredNotes$Row" "length" "I"] ++ wsX60)
def wsX4_countParted_r1 : List Cond := [Cond.fieldLink RX4 47 "AnchoredNotes$Page" "noteCount" "I", Cond.fieldLink RX4 163 "AnchoredNotes$Pieces" "pieces" "I", Cond.methodLink RX4 150 yX4_piecesOf, Cond.instanceMethod yX4_piecesOf, Cond.selects RX4 yX4_piecesOf yX4_piecesOf, Cond.initialized RX4, Cond.code yX4_piecesOf cX4_piecesOf 2 (some (.object "AnchoredNotes$Pieces")), Cond.fieldLink RX4 35 "AnchoredNotes$Page" "pieces" "LAnchoredNotes$Pieces;", Cond.fieldLink RX4 23 "AnchoredNotes$Page" "owners" "LAnchoredNotes$Row;", Cond.methodLink RX4 156 yX5_gather, Cond.instanceMethod yX5_gather, Cond.selects RX5 yX5_gather yX5_gather, Cond.initialized RX5, Cond.code yX5_gather cX5_gather 7 none, Cond.fieldLink RX5 9 "AnchoredNotes$Pieces" "pieces" "I", Cond.fieldLink RX5 15 "AnchoredNotes$Pieces" "letters" "I", Cond.fieldLink RX5 18 "AnchoredNotes$Pieces" "first" "I", Cond.fieldLink RX5 21 "AnchoredNotes$Pieces" "last" "I", Cond.fieldLink RX5 24 "AnchoredNotes$Row" "length" "I", Cond.methodLink RX5 29 yX6_item, Cond.instanceMethod yX6_item, Cond.selects RX6 yX6_item yX6_item, Cond.initialized RX6, Cond.code yX6_item cX6_item 2 (some .int)]
def wsX4_countParted_r2 : List Cond := [Cond.fieldLink RX6 15 "AnchoredNotes$Row" "length" "I", Cond.fieldLink RX6 9 "AnchoredNotes$Row" "items" "[I", Cond.static yX8_isIn, Cond.initialized RX8, Cond.code yX8_isIn cX8_isIn 2 (some .boolean)]
def wsX4_countParted : List Cond := .code yX4_countParted cX4_countParted 3 (some .int) :: ((wsX4_countParted_r1 ++ wsX4_countParted_r2) ++ wsX40 ++ wsX50 ++ wsX60)
def wsX4_moveLetters_r1 : List Cond := [Cond.fieldLink RX4 20 "AnchoredNotes$Page" "letters" "LAnchoredNotes$Row;", Cond.fieldLink RX4 76 "AnchoredNotes$Row" "length" "I", Cond.fieldLink RX4 23 "AnchoredNotes$Page" "owners" "LAnchoredNotes$Row;", Cond.methodLink RX4 94 yX4_passageError, Cond.instanceMethod yX4_passageError, Cond.selects RX4 yX4_passageError yX4_passageError, Cond.initialized RX4, Cond.code yX4_passageError cX4_passageError 3 (some .int), Cond.methodLink RX4 58 yX6_has, Cond.instanceMethod yX6_has, Cond.selects RX6 yX6_has yX6_has, Cond.initialized RX6, Cond.code yX6_has cX6_has 2 (some .boolean), Cond.fieldLink RX6 15 "AnchoredNotes$Row" "length" "I", Cond.fieldLink RX6 9 "AnchoredNotes$Row" "items" "[I", Cond.methodLink RX4 97 yX6_shift, Cond.instanceMethod yX6_shift, Cond.selects RX6 yX6_shift yX6_shift, Cond.code yX6_shift cX6_shift 4 none, Cond.methodLink RX6 29 yX6_exchange, Cond.instanceMethod yX6_exchange, Cond.selects RX6 yX6_exchange yX6_exchange, Cond.code yX6_exchange cX6_exchange 4 none, Cond.methodLink RX6 33 yX6_turn]
def wsX4_moveLetters_r2 : List Cond := [Cond.instanceMethod yX6_turn, Cond.selects RX6 yX6_turn yX6_turn, Cond.code yX6_turn cX6_turn 6 none, Cond.methodLink RX6 19 yX6_has, Cond.methodLink RX4 101 yX4_countParted, Cond.instanceMethod yX4_countParted, Cond.selects RX4 yX4_countParted yX4_countParted, Cond.code yX4_countParted cX4_countParted 3 (some .int), Cond.fieldLink RX4 47 "AnchoredNotes$Page" "noteCount" "I", Cond.fieldLink RX4 163 "AnchoredNotes$Pieces" "pieces" "I", Cond.methodLink RX4 150 yX4_piecesOf, Cond.instanceMethod yX4_piecesOf, Cond.selects RX4 yX4_piecesOf yX4_piecesOf, Cond.code yX4_piecesOf cX4_piecesOf 2 (some (.object "AnchoredNotes$Pieces")), Cond.fieldLink RX4 35 "AnchoredNotes$Page" "pieces" "LAnchoredNotes$Pieces;", Cond.methodLink RX4 156 yX5_gather, Cond.instanceMethod yX5_gather, Cond.selects RX5 yX5_gather yX5_gather, Cond.initialized RX5, Cond.code yX5_gather cX5_gather 7 none, Cond.fieldLink RX5 9 "AnchoredNotes$Pieces" "pieces" "I", Cond.fieldLink RX5 15 "AnchoredNotes$Pieces" "letters" "I", Cond.fieldLink RX5 18 "AnchoredNotes$Pieces" "first" "I", Cond.fieldLink RX5 21 "AnchoredNotes$Pieces" "last" "I"]
def wsX4_moveLetters_r3 : List Cond := [Cond.fieldLink RX5 24 "AnchoredNotes$Row" "length" "I", Cond.methodLink RX5 29 yX6_item, Cond.instanceMethod yX6_item, Cond.selects RX6 yX6_item yX6_item, Cond.code yX6_item cX6_item 2 (some .int), Cond.static yX8_isIn, Cond.initialized RX8, Cond.code yX8_isIn cX8_isIn 2 (some .boolean)]
def wsX4_moveLetters : List Cond := .code yX4_moveLetters cX4_moveLetters 6 (some .int) :: ((wsX4_moveLetters_r1 ++ (wsX4_moveLetters_r2 ++ wsX4_moveLetters_r3)) ++ wsX40 ++ wsX60 ++ wsX50)
def wsX4_anchor_r1 : List Cond := [Cond.fieldLink RX4 20 "AnchoredNotes$Page" "letters" "LAnchoredNotes$Row;", Cond.fieldLink RX4 14 "AnchoredNotes$Page" "settings" "LAnchoredNotes$Row;", Cond.fieldLink RX4 23 "AnchoredNotes$Page" "owners" "LAnchoredNotes$Row;", Cond.fieldLink RX4 76 "AnchoredNotes$Row" "length" "I", Cond.methodLink RX4 51 yX4_find, Cond.instanceMethod yX4_find, Cond.selects RX4 yX4_find yX4_find, Cond.initialized RX4, Cond.code yX4_find cX4_find 2 (some (.object "AnchoredNotes$Note")), Cond.fieldLink RX4 47 "AnchoredNotes$Page" "noteCount" "I", Cond.fieldLink RX4 28 "AnchoredNotes$Page" "notes" "[LAnchoredNotes$Note;", Cond.methodLink RX4 69 yX6_item, Cond.instanceMethod yX6_item, Cond.selects RX6 yX6_item yX6_item, Cond.initialized RX6, Cond.code yX6_item cX6_item 2 (some .int), Cond.fieldLink RX6 15 "AnchoredNotes$Row" "length" "I", Cond.fieldLink RX6 9 "AnchoredNotes$Row" "items" "[I", Cond.methodLink RX4 108 yX2_remember, Cond.instanceMethod yX2_remember, Cond.selects RX2 yX2_remember yX2_remember, Cond.initialized RX2, Cond.code yX2_remember cX2_remember 5 none, Cond.fieldLink RX2 9 "AnchoredNotes$Note" "target" "I"]
def wsX4_anchor_r2 : List Cond := [Cond.fieldLink RX2 20 "AnchoredNotes$Note" "words" "LAnchoredNotes$Row;", Cond.fieldLink RX2 24 "AnchoredNotes$Note" "ahead" "LAnchoredNotes$Row;", Cond.fieldLink RX2 27 "AnchoredNotes$Note" "behind" "LAnchoredNotes$Row;", Cond.methodLink RX2 33 yX6_copyPart, Cond.instanceMethod yX6_copyPart, Cond.selects RX6 yX6_copyPart yX6_copyPart, Cond.code yX6_copyPart cX6_copyPart 6 none, Cond.methodLink RX6 43 yX6_clear, Cond.instanceMethod yX6_clear, Cond.selects RX6 yX6_clear yX6_clear, Cond.code yX6_clear cX6_clear 1 none, Cond.methodLink RX6 19 yX6_has, Cond.instanceMethod yX6_has, Cond.selects RX6 yX6_has yX6_has, Cond.code yX6_has cX6_has 2 (some .boolean), Cond.methodLink RX6 46 yX6_item, Cond.methodLink RX6 50 yX6_add, Cond.instanceMethod yX6_add, Cond.selects RX6 yX6_add yX6_add, Cond.code yX6_add cX6_add 2 none, Cond.methodLink RX4 72 yX6_replace, Cond.instanceMethod yX6_replace, Cond.selects RX6 yX6_replace yX6_replace, Cond.code yX6_replace cX6_replace 3 none]
def wsX4_anchor : List Cond := .code yX4_anchor cX4_anchor 6 none :: ((wsX4_anchor_r1 ++ wsX4_anchor_r2) ++ wsX40 ++ wsX60 ++ wsX20)
def wsX4_addNote_r1 : List Cond := [Cond.fieldLink RX4 47 "AnchoredNotes$Page" "noteCount" "I", Cond.methodLink RX4 94 yX4_passageError, Cond.instanceMethod yX4_passageError, Cond.selects RX4 yX4_passageError yX4_passageError, Cond.initialized RX4, Cond.code yX4_passageError cX4_passageError 3 (some .int), Cond.fieldLink RX4 20 "AnchoredNotes$Page" "letters" "LAnchoredNotes$Row;", Cond.methodLink RX4 58 yX6_has, Cond.instanceMethod yX6_has, Cond.selects RX6 yX6_has yX6_has, Cond.initialized RX6, Cond.code yX6_has cX6_has 2 (some .boolean), Cond.fieldLink RX6 15 "AnchoredNotes$Row" "length" "I", Cond.fieldLink RX6 9 "AnchoredNotes$Row" "items" "[I", Cond.methodLink RX4 105 yX4_anchor, Cond.instanceMethod yX4_anchor, Cond.selects RX4 yX4_anchor yX4_anchor, Cond.code yX4_anchor cX4_anchor 6 none, Cond.fieldLink RX4 14 "AnchoredNotes$Page" "settings" "LAnchoredNotes$Row;", Cond.fieldLink RX4 23 "AnchoredNotes$Page" "owners" "LAnchoredNotes$Row;", Cond.fieldLink RX4 76 "AnchoredNotes$Row" "length" "I", Cond.methodLink RX4 51 yX4_find, Cond.instanceMethod yX4_find, Cond.selects RX4 yX4_find yX4_find]
def wsX4_addNote_r2 : List Cond := [Cond.code yX4_find cX4_find 2 (some (.object "AnchoredNotes$Note")), Cond.fieldLink RX4 28 "AnchoredNotes$Page" "notes" "[LAnchoredNotes$Note;", Cond.methodLink RX4 69 yX6_item, Cond.instanceMethod yX6_item, Cond.selects RX6 yX6_item yX6_item, Cond.code yX6_item cX6_item 2 (some .int), Cond.methodLink RX4 108 yX2_remember, Cond.instanceMethod yX2_remember, Cond.selects RX2 yX2_remember yX2_remember, Cond.initialized RX2, Cond.code yX2_remember cX2_remember 5 none, Cond.fieldLink RX2 9 "AnchoredNotes$Note" "target" "I", Cond.fieldLink RX2 20 "AnchoredNotes$Note" "words" "LAnchoredNotes$Row;", Cond.fieldLink RX2 24 "AnchoredNotes$Note" "ahead" "LAnchoredNotes$Row;", Cond.fieldLink RX2 27 "AnchoredNotes$Note" "behind" "LAnchoredNotes$Row;", Cond.methodLink RX2 33 yX6_copyPart, Cond.instanceMethod yX6_copyPart, Cond.selects RX6 yX6_copyPart yX6_copyPart, Cond.code yX6_copyPart cX6_copyPart 6 none, Cond.methodLink RX6 43 yX6_clear, Cond.instanceMethod yX6_clear, Cond.selects RX6 yX6_clear yX6_clear, Cond.code yX6_clear cX6_clear 1 none, Cond.methodLink RX6 19 yX6_has]
def wsX4_addNote_r3 : List Cond := [Cond.methodLink RX6 46 yX6_item, Cond.methodLink RX6 50 yX6_add, Cond.instanceMethod yX6_add, Cond.selects RX6 yX6_add yX6_add, Cond.code yX6_add cX6_add 2 none, Cond.methodLink RX4 72 yX6_replace, Cond.instanceMethod yX6_replace, Cond.selects RX6 yX6_replace yX6_replace, Cond.code yX6_replace cX6_replace 3 none]
def wsX4_addNote : List Cond := .code yX4_addNote cX4_addNote 5 (some .int) :: ((wsX4_addNote_r1 ++ (wsX4_addNote_r2 ++ wsX4_addNote_r3)) ++ wsX40 ++ wsX60 ++ wsX20)
def wsX4_addReply : List Cond := .code yX4_addReply cX4_addReply 4 (some .int) :: ([.fieldLink RX4 47 "AnchoredNotes$Page" "noteCount" "I", .methodLink RX4 51 yX4_find, .instanceMethod yX4_find, .selects RX4 yX4_find yX4_find, .initialized RX4, .code yX4_find cX4_find 2 (some (.object "AnchoredNotes$Note")), .fieldLink RX4 28 "AnchoredNotes$Page" "notes" "[LAnchoredNotes$Note;", .methodLink RX4 112 yX2_becomeReply, .instanceMethod yX2_becomeReply, .selects RX2 yX2_becomeReply yX2_becomeReply, .initialized RX2, .code yX2_becomeReply cX2_becomeReply 2 none, .fieldLink RX2 9 "AnchoredNotes$Note" "target" "I", .fieldLink RX2 20 "AnchoredNotes$Note" "words" "LAnchoredNotes$Row;", .fieldLink RX2 24 "AnchoredNotes$Note" "ahead" "LAnchoredNotes$Row;", .fieldLink RX2 27 "AnchoredNotes$Note" "behind" "LAnchoredNotes$Row;", .methodLink RX2 30 yX6_clear, .instanceMethod yX6_clear, .selects RX6 yX6_clear yX6_clear, .initialized RX6, .code yX6_clear cX6_clear 1 none, .fieldLink RX6 15 "AnchoredNotes$Row" "length" "I"] ++ wsX40 ++ wsX20 ++ wsX60)
def wsX4_family : List Cond := .code yX4_family cX4_family 5 (some .int) :: ([.fieldLink RX4 47 "AnchoredNotes$Page" "noteCount" "I", .fieldLink RX4 125 "AnchoredNotes$Note" "target" "I", .methodLink RX4 51 yX4_find, .instanceMethod yX4_find, .selects RX4 yX4_find yX4_find, .initialized RX4, .code yX4_find cX4_find 2 (some (.object "AnchoredNotes$Note")), .fieldLink RX4 28 "AnchoredNotes$Page" "notes" "[LAnchoredNotes$Note;", .static yX8_isIn, .initialized RX8, .code yX8_isIn cX8_isIn 2 (some .boolean)] ++ wsX40 ++ wsX20)
def wsX4_remove_r1 : List Cond := [Cond.fieldLink RX4 47 "AnchoredNotes$Page" "noteCount" "I", Cond.fieldLink RX4 28 "AnchoredNotes$Page" "notes" "[LAnchoredNotes$Note;", Cond.fieldLink RX4 125 "AnchoredNotes$Note" "target" "I", Cond.fieldLink RX4 23 "AnchoredNotes$Page" "owners" "LAnchoredNotes$Row;", Cond.fieldLink RX4 76 "AnchoredNotes$Row" "length" "I", Cond.methodLink RX4 51 yX4_find, Cond.instanceMethod yX4_find, Cond.selects RX4 yX4_find yX4_find, Cond.initialized RX4, Cond.code yX4_find cX4_find 2 (some (.object "AnchoredNotes$Note")), Cond.methodLink RX4 69 yX6_item, Cond.instanceMethod yX6_item, Cond.selects RX6 yX6_item yX6_item, Cond.initialized RX6, Cond.code yX6_item cX6_item 2 (some .int), Cond.fieldLink RX6 15 "AnchoredNotes$Row" "length" "I", Cond.fieldLink RX6 9 "AnchoredNotes$Row" "items" "[I", Cond.methodLink RX4 72 yX6_replace, Cond.instanceMethod yX6_replace, Cond.selects RX6 yX6_replace yX6_replace, Cond.code yX6_replace cX6_replace 3 none, Cond.methodLink RX6 19 yX6_has, Cond.instanceMethod yX6_has, Cond.selects RX6 yX6_has yX6_has]
def wsX4_remove_r2 : List Cond := [Cond.code yX6_has cX6_has 2 (some .boolean)]
def wsX4_remove : List Cond := .code yX4_remove cX4_remove 6 none :: ((wsX4_remove_r1 ++ wsX4_remove_r2) ++ wsX40 ++ wsX20 ++ wsX60)
def wsX4_dropFamily_r1 : List Cond := [Cond.fieldLink RX4 47 "AnchoredNotes$Page" "noteCount" "I", Cond.methodLink RX4 51 yX4_find, Cond.instanceMethod yX4_find, Cond.selects RX4 yX4_find yX4_find, Cond.initialized RX4, Cond.code yX4_find cX4_find 2 (some (.object "AnchoredNotes$Note")), Cond.fieldLink RX4 28 "AnchoredNotes$Page" "notes" "[LAnchoredNotes$Note;", Cond.methodLink RX4 115 yX4_family, Cond.instanceMethod yX4_family, Cond.selects RX4 yX4_family yX4_family, Cond.code yX4_family cX4_family 5 (some .int), Cond.fieldLink RX4 125 "AnchoredNotes$Note" "target" "I", Cond.static yX8_isIn, Cond.initialized RX8, Cond.code yX8_isIn cX8_isIn 2 (some .boolean), Cond.methodLink RX4 122 yX4_remove, Cond.instanceMethod yX4_remove, Cond.selects RX4 yX4_remove yX4_remove, Cond.code yX4_remove cX4_remove 6 none, Cond.fieldLink RX4 23 "AnchoredNotes$Page" "owners" "LAnchoredNotes$Row;", Cond.fieldLink RX4 76 "AnchoredNotes$Row" "length" "I", Cond.methodLink RX4 69 yX6_item, Cond.instanceMethod yX6_item, Cond.selects RX6 yX6_item yX6_item]
def wsX4_dropFamily_r2 : List Cond := [Cond.initialized RX6, Cond.code yX6_item cX6_item 2 (some .int), Cond.fieldLink RX6 15 "AnchoredNotes$Row" "length" "I", Cond.fieldLink RX6 9 "AnchoredNotes$Row" "items" "[I", Cond.methodLink RX4 72 yX6_replace, Cond.instanceMethod yX6_replace, Cond.selects RX6 yX6_replace yX6_replace, Cond.code yX6_replace cX6_replace 3 none, Cond.methodLink RX6 19 yX6_has, Cond.instanceMethod yX6_has, Cond.selects RX6 yX6_has yX6_has, Cond.code yX6_has cX6_has 2 (some .boolean), Cond.methodLink RX4 89 yJ6_bitCount_0f7a4, Cond.static yJ6_bitCount_0f7a4, Cond.initialized RJ6, Cond.code yJ6_bitCount_0f7a4 cJ6_bitCount_0f7a4 1 (some .int), Cond.constant RJ6 265 (1431655765), Cond.constant RJ6 266 (858993459), Cond.constant RJ6 267 (252645135)]
def wsX4_dropFamily : List Cond := .code yX4_dropFamily cX4_dropFamily 4 (some .int) :: ((wsX4_dropFamily_r1 ++ wsX4_dropFamily_r2) ++ wsX40 ++ wsX20 ++ wsX60)
def wsX4_state_r1 : List Cond := [Cond.fieldLink RX4 154 "AnchoredNotes$Pieces" "letters" "I", Cond.methodLink RX4 51 yX4_find, Cond.instanceMethod yX4_find, Cond.selects RX4 yX4_find yX4_find, Cond.initialized RX4, Cond.code yX4_find cX4_find 2 (some (.object "AnchoredNotes$Note")), Cond.fieldLink RX4 47 "AnchoredNotes$Page" "noteCount" "I", Cond.fieldLink RX4 28 "AnchoredNotes$Page" "notes" "[LAnchoredNotes$Note;", Cond.methodLink RX4 146 yX2_isReply, Cond.instanceMethod yX2_isReply, Cond.selects RX2 yX2_isReply yX2_isReply, Cond.initialized RX2, Cond.code yX2_isReply cX2_isReply 1 (some .boolean), Cond.fieldLink RX2 9 "AnchoredNotes$Note" "target" "I", Cond.methodLink RX4 150 yX4_piecesOf, Cond.instanceMethod yX4_piecesOf, Cond.selects RX4 yX4_piecesOf yX4_piecesOf, Cond.code yX4_piecesOf cX4_piecesOf 2 (some (.object "AnchoredNotes$Pieces")), Cond.fieldLink RX4 35 "AnchoredNotes$Page" "pieces" "LAnchoredNotes$Pieces;", Cond.fieldLink RX4 23 "AnchoredNotes$Page" "owners" "LAnchoredNotes$Row;", Cond.methodLink RX4 156 yX5_gather, Cond.instanceMethod yX5_gather, Cond.selects RX5 yX5_gather yX5_gather, Cond.initialized RX5]
def wsX4_state_r2 : List Cond := [Cond.code yX5_gather cX5_gather 7 none, Cond.fieldLink RX5 9 "AnchoredNotes$Pieces" "pieces" "I", Cond.fieldLink RX5 15 "AnchoredNotes$Pieces" "letters" "I", Cond.fieldLink RX5 18 "AnchoredNotes$Pieces" "first" "I", Cond.fieldLink RX5 21 "AnchoredNotes$Pieces" "last" "I", Cond.fieldLink RX5 24 "AnchoredNotes$Row" "length" "I", Cond.methodLink RX5 29 yX6_item, Cond.instanceMethod yX6_item, Cond.selects RX6 yX6_item yX6_item, Cond.initialized RX6, Cond.code yX6_item cX6_item 2 (some .int), Cond.fieldLink RX6 15 "AnchoredNotes$Row" "length" "I", Cond.fieldLink RX6 9 "AnchoredNotes$Row" "items" "[I", Cond.static yX8_isIn, Cond.initialized RX8, Cond.code yX8_isIn cX8_isIn 2 (some .boolean)]
def wsX4_state : List Cond := .code yX4_state cX4_state 3 (some .int) :: ((wsX4_state_r1 ++ wsX4_state_r2) ++ wsX50 ++ wsX40 ++ wsX20 ++ wsX60)
def wsX6_countAlike : List Cond := .code yX6_countAlike cX6_countAlike 5 (some .int) :: ([.fieldLink RX6 15 "AnchoredNotes$Row" "length" "I", .methodLink RX6 46 yX6_item, .instanceMethod yX6_item, .selects RX6 yX6_item yX6_item, .initialized RX6, .code yX6_item cX6_item 2 (some .int), .fieldLink RX6 9 "AnchoredNotes$Row" "items" "[I"] ++ wsX60)
def wsX7_look : List Cond := .code yX7_look cX7_look 6 none :: ([.fieldLink RX7 9 "AnchoredNotes$Search" "place" "I", .fieldLink RX7 15 "AnchoredNotes$Search" "likeness" "I", .fieldLink RX7 18 "AnchoredNotes$Search" "places" "I", .fieldLink RX7 21 "AnchoredNotes$Note" "words" "LAnchoredNotes$Row;", .fieldLink RX7 27 "AnchoredNotes$Row" "length" "I", .fieldLink RX7 36 "AnchoredNotes$Note" "ahead" "LAnchoredNotes$Row;", .fieldLink RX7 39 "AnchoredNotes$Note" "behind" "LAnchoredNotes$Row;", .methodLink RX7 32 yX6_countAlike, .instanceMethod yX6_countAlike, .selects RX6 yX6_countAlike yX6_countAlike, .initialized RX6, .code yX6_countAlike cX6_countAlike 5 (some .int), .fieldLink RX6 15 "AnchoredNotes$Row" "length" "I", .methodLink RX6 46 yX6_item, .instanceMethod yX6_item, .selects RX6 yX6_item yX6_item, .code yX6_item cX6_item 2 (some .int), .fieldLink RX6 9 "AnchoredNotes$Row" "items" "[I"] ++ wsX70 ++ wsX20 ++ wsX60)
def wsX4_reclaimNote_r1 : List Cond := [Cond.fieldLink RX4 20 "AnchoredNotes$Page" "letters" "LAnchoredNotes$Row;", Cond.fieldLink RX4 137 "AnchoredNotes$Search" "places" "I", Cond.fieldLink RX4 140 "AnchoredNotes$Search" "place" "I", Cond.fieldLink RX4 143 "AnchoredNotes$Note" "words" "LAnchoredNotes$Row;", Cond.fieldLink RX4 76 "AnchoredNotes$Row" "length" "I", Cond.methodLink RX4 51 yX4_find, Cond.instanceMethod yX4_find, Cond.selects RX4 yX4_find yX4_find, Cond.initialized RX4, Cond.code yX4_find cX4_find 2 (some (.object "AnchoredNotes$Note")), Cond.fieldLink RX4 47 "AnchoredNotes$Page" "noteCount" "I", Cond.fieldLink RX4 28 "AnchoredNotes$Page" "notes" "[LAnchoredNotes$Note;", Cond.methodLink RX4 128 yX4_state, Cond.instanceMethod yX4_state, Cond.selects RX4 yX4_state yX4_state, Cond.code yX4_state cX4_state 3 (some .int), Cond.fieldLink RX4 154 "AnchoredNotes$Pieces" "letters" "I", Cond.methodLink RX4 146 yX2_isReply, Cond.instanceMethod yX2_isReply, Cond.selects RX2 yX2_isReply yX2_isReply, Cond.initialized RX2, Cond.code yX2_isReply cX2_isReply 1 (some .boolean), Cond.fieldLink RX2 9 "AnchoredNotes$Note" "target" "I", Cond.methodLink RX4 150 yX4_piecesOf]
def wsX4_reclaimNote_r2 : List Cond := [Cond.instanceMethod yX4_piecesOf, Cond.selects RX4 yX4_piecesOf yX4_piecesOf, Cond.code yX4_piecesOf cX4_piecesOf 2 (some (.object "AnchoredNotes$Pieces")), Cond.fieldLink RX4 35 "AnchoredNotes$Page" "pieces" "LAnchoredNotes$Pieces;", Cond.fieldLink RX4 23 "AnchoredNotes$Page" "owners" "LAnchoredNotes$Row;", Cond.methodLink RX4 156 yX5_gather, Cond.instanceMethod yX5_gather, Cond.selects RX5 yX5_gather yX5_gather, Cond.initialized RX5, Cond.code yX5_gather cX5_gather 7 none, Cond.fieldLink RX5 9 "AnchoredNotes$Pieces" "pieces" "I", Cond.fieldLink RX5 15 "AnchoredNotes$Pieces" "letters" "I", Cond.fieldLink RX5 18 "AnchoredNotes$Pieces" "first" "I", Cond.fieldLink RX5 21 "AnchoredNotes$Pieces" "last" "I", Cond.fieldLink RX5 24 "AnchoredNotes$Row" "length" "I", Cond.methodLink RX5 29 yX6_item, Cond.instanceMethod yX6_item, Cond.selects RX6 yX6_item yX6_item, Cond.initialized RX6, Cond.code yX6_item cX6_item 2 (some .int), Cond.fieldLink RX6 15 "AnchoredNotes$Row" "length" "I", Cond.fieldLink RX6 9 "AnchoredNotes$Row" "items" "[I", Cond.static yX8_isIn, Cond.initialized RX8]
def wsX4_reclaimNote_r3 : List Cond := [Cond.code yX8_isIn cX8_isIn 2 (some .boolean), Cond.methodLink RX4 131 yX7_look, Cond.instanceMethod yX7_look, Cond.selects RX7 yX7_look yX7_look, Cond.initialized RX7, Cond.code yX7_look cX7_look 6 none, Cond.fieldLink RX7 9 "AnchoredNotes$Search" "place" "I", Cond.fieldLink RX7 15 "AnchoredNotes$Search" "likeness" "I", Cond.fieldLink RX7 18 "AnchoredNotes$Search" "places" "I", Cond.fieldLink RX7 21 "AnchoredNotes$Note" "words" "LAnchoredNotes$Row;", Cond.fieldLink RX7 27 "AnchoredNotes$Row" "length" "I", Cond.fieldLink RX7 36 "AnchoredNotes$Note" "ahead" "LAnchoredNotes$Row;", Cond.fieldLink RX7 39 "AnchoredNotes$Note" "behind" "LAnchoredNotes$Row;", Cond.methodLink RX7 32 yX6_countAlike, Cond.instanceMethod yX6_countAlike, Cond.selects RX6 yX6_countAlike yX6_countAlike, Cond.code yX6_countAlike cX6_countAlike 5 (some .int), Cond.methodLink RX6 46 yX6_item, Cond.methodLink RX4 105 yX4_anchor, Cond.instanceMethod yX4_anchor, Cond.selects RX4 yX4_anchor yX4_anchor, Cond.code yX4_anchor cX4_anchor 6 none, Cond.fieldLink RX4 14 "AnchoredNotes$Page" "settings" "LAnchoredNotes$Row;", Cond.methodLink RX4 69 yX6_item]
def wsX4_reclaimNote_r4 : List Cond := [Cond.methodLink RX4 108 yX2_remember, Cond.instanceMethod yX2_remember, Cond.selects RX2 yX2_remember yX2_remember, Cond.code yX2_remember cX2_remember 5 none, Cond.fieldLink RX2 20 "AnchoredNotes$Note" "words" "LAnchoredNotes$Row;", Cond.fieldLink RX2 24 "AnchoredNotes$Note" "ahead" "LAnchoredNotes$Row;", Cond.fieldLink RX2 27 "AnchoredNotes$Note" "behind" "LAnchoredNotes$Row;", Cond.methodLink RX2 33 yX6_copyPart, Cond.instanceMethod yX6_copyPart, Cond.selects RX6 yX6_copyPart yX6_copyPart, Cond.code yX6_copyPart cX6_copyPart 6 none, Cond.methodLink RX6 43 yX6_clear, Cond.instanceMethod yX6_clear, Cond.selects RX6 yX6_clear yX6_clear, Cond.code yX6_clear cX6_clear 1 none, Cond.methodLink RX6 19 yX6_has, Cond.instanceMethod yX6_has, Cond.selects RX6 yX6_has yX6_has, Cond.code yX6_has cX6_has 2 (some .boolean), Cond.methodLink RX6 50 yX6_add, Cond.instanceMethod yX6_add, Cond.selects RX6 yX6_add yX6_add, Cond.code yX6_add cX6_add 2 none, Cond.methodLink RX4 72 yX6_replace]
def wsX4_reclaimNote_r5 : List Cond := [Cond.instanceMethod yX6_replace, Cond.selects RX6 yX6_replace yX6_replace, Cond.code yX6_replace cX6_replace 3 none]
def wsX4_reclaimNote : List Cond := .code yX4_reclaimNote cX4_reclaimNote 4 (some .int) :: ((wsX4_reclaimNote_r1 ++ (wsX4_reclaimNote_r2 ++ (wsX4_reclaimNote_r3 ++ (wsX4_reclaimNote_r4 ++ wsX4_reclaimNote_r5)))) ++ wsX40 ++ wsX70 ++ wsX20 ++ wsX60 ++ wsX50)
def wsX4_depth : List Cond := .code yX4_depth cX4_depth 4 (some .int) :: ([.fieldLink RX4 125 "AnchoredNotes$Note" "target" "I", .methodLink RX4 51 yX4_find, .instanceMethod yX4_find, .selects RX4 yX4_find yX4_find, .initialized RX4, .code yX4_find cX4_find 2 (some (.object "AnchoredNotes$Note")), .fieldLink RX4 47 "AnchoredNotes$Page" "noteCount" "I", .fieldLink RX4 28 "AnchoredNotes$Page" "notes" "[LAnchoredNotes$Note;", .methodLink RX4 146 yX2_isReply, .instanceMethod yX2_isReply, .selects RX2 yX2_isReply yX2_isReply, .initialized RX2, .code yX2_isReply cX2_isReply 1 (some .boolean), .fieldLink RX2 9 "AnchoredNotes$Note" "target" "I"] ++ wsX20 ++ wsX40)
def wsX4_root : List Cond := .code yX4_root cX4_root 5 (some .int) :: ([.fieldLink RX4 125 "AnchoredNotes$Note" "target" "I", .methodLink RX4 160 yX4_depth, .instanceMethod yX4_depth, .selects RX4 yX4_depth yX4_depth, .initialized RX4, .code yX4_depth cX4_depth 4 (some .int), .methodLink RX4 51 yX4_find, .instanceMethod yX4_find, .selects RX4 yX4_find yX4_find, .code yX4_find cX4_find 2 (some (.object "AnchoredNotes$Note")), .fieldLink RX4 47 "AnchoredNotes$Page" "noteCount" "I", .fieldLink RX4 28 "AnchoredNotes$Page" "notes" "[LAnchoredNotes$Note;", .methodLink RX4 146 yX2_isReply, .instanceMethod yX2_isReply, .selects RX2 yX2_isReply yX2_isReply, .initialized RX2, .code yX2_isReply cX2_isReply 1 (some .boolean), .fieldLink RX2 9 "AnchoredNotes$Note" "target" "I"] ++ wsX20 ++ wsX40)
def wsX4_countState_r1 : List Cond := [Cond.fieldLink RX4 47 "AnchoredNotes$Page" "noteCount" "I", Cond.methodLink RX4 128 yX4_state, Cond.instanceMethod yX4_state, Cond.selects RX4 yX4_state yX4_state, Cond.initialized RX4, Cond.code yX4_state cX4_state 3 (some .int), Cond.fieldLink RX4 154 "AnchoredNotes$Pieces" "letters" "I", Cond.methodLink RX4 51 yX4_find, Cond.instanceMethod yX4_find, Cond.selects RX4 yX4_find yX4_find, Cond.code yX4_find cX4_find 2 (some (.object "AnchoredNotes$Note")), Cond.fieldLink RX4 28 "AnchoredNotes$Page" "notes" "[LAnchoredNotes$Note;", Cond.methodLink RX4 146 yX2_isReply, Cond.instanceMethod yX2_isReply, Cond.selects RX2 yX2_isReply yX2_isReply, Cond.initialized RX2, Cond.code yX2_isReply cX2_isReply 1 (some .boolean), Cond.fieldLink RX2 9 "AnchoredNotes$Note" "target" "I", Cond.methodLink RX4 150 yX4_piecesOf, Cond.instanceMethod yX4_piecesOf, Cond.selects RX4 yX4_piecesOf yX4_piecesOf, Cond.code yX4_piecesOf cX4_piecesOf 2 (some (.object "AnchoredNotes$Pieces")), Cond.fieldLink RX4 35 "AnchoredNotes$Page" "pieces" "LAnchoredNotes$Pieces;", Cond.fieldLink RX4 23 "AnchoredNotes$Page" "owners" "LAnchoredNotes$Row;"]
def wsX4_countState_r2 : List Cond := [Cond.methodLink RX4 156 yX5_gather, Cond.instanceMethod yX5_gather, Cond.selects RX5 yX5_gather yX5_gather, Cond.initialized RX5, Cond.code yX5_gather cX5_gather 7 none, Cond.fieldLink RX5 9 "AnchoredNotes$Pieces" "pieces" "I", Cond.fieldLink RX5 15 "AnchoredNotes$Pieces" "letters" "I", Cond.fieldLink RX5 18 "AnchoredNotes$Pieces" "first" "I", Cond.fieldLink RX5 21 "AnchoredNotes$Pieces" "last" "I", Cond.fieldLink RX5 24 "AnchoredNotes$Row" "length" "I", Cond.methodLink RX5 29 yX6_item, Cond.instanceMethod yX6_item, Cond.selects RX6 yX6_item yX6_item, Cond.initialized RX6, Cond.code yX6_item cX6_item 2 (some .int), Cond.fieldLink RX6 15 "AnchoredNotes$Row" "length" "I", Cond.fieldLink RX6 9 "AnchoredNotes$Row" "items" "[I", Cond.static yX8_isIn, Cond.initialized RX8, Cond.code yX8_isIn cX8_isIn 2 (some .boolean)]
def wsX4_countState : List Cond := .code yX4_countState cX4_countState 4 (some .int) :: ((wsX4_countState_r1 ++ wsX4_countState_r2) ++ wsX40 ++ wsX50 ++ wsX20 ++ wsX60)
def wsX4_countLines : List Cond := .code yX4_countLines cX4_countLines 1 (some .int) :: ([.fieldLink RX4 20 "AnchoredNotes$Page" "letters" "LAnchoredNotes$Row;", .fieldLink RX4 76 "AnchoredNotes$Row" "length" "I", .methodLink RX4 165 yX4_lineOf, .instanceMethod yX4_lineOf, .selects RX4 yX4_lineOf yX4_lineOf, .initialized RX4, .code yX4_lineOf cX4_lineOf 3 (some .int), .fieldLink RX4 14 "AnchoredNotes$Page" "settings" "LAnchoredNotes$Row;", .methodLink RX4 69 yX6_item, .instanceMethod yX6_item, .selects RX6 yX6_item yX6_item, .initialized RX6, .code yX6_item cX6_item 2 (some .int), .fieldLink RX6 15 "AnchoredNotes$Row" "length" "I", .fieldLink RX6 9 "AnchoredNotes$Row" "items" "[I"] ++ wsX40 ++ wsX60)
def wsX7_init : List Cond := .code yX7_init cX7_init 1 none :: ([.methodLink RX7 3 objectInit, .instanceMethod objectInit, .code objectInit ⟨#[0xb1]⟩ 1 none])
def wsX8_init_r1 : List Cond := [Cond.methodLink RX8 1 objectInit, Cond.instanceMethod objectInit, Cond.code objectInit ⟨#[0xb1]⟩ 1 none, Cond.classLink RX8 7 RX4, Cond.instantiable RX4 6, Cond.initialized RX4, Cond.fieldLink RX8 10 "AnchoredNotes" "page" "LAnchoredNotes$Page;", Cond.classLink RX8 16 RX1, Cond.instantiable RX1 7, Cond.initialized RX1, Cond.fieldLink RX8 19 "AnchoredNotes" "margin" "LAnchoredNotes$Margin;", Cond.classLink RX8 23 RX7, Cond.instantiable RX7 3, Cond.initialized RX7, Cond.fieldLink RX8 26 "AnchoredNotes" "search" "LAnchoredNotes$Search;", Cond.classLink RX8 30 RX6, Cond.instantiable RX6 2, Cond.initialized RX6, Cond.fieldLink RX8 35 "AnchoredNotes" "pad" "LAnchoredNotes$Row;", Cond.classLink RX8 39 RX3, Cond.instantiable RX3 4, Cond.initialized RX3, Cond.fieldLink RX8 42 "AnchoredNotes" "reader" "LAnchoredNotes$OrderReader;", Cond.classLink RX8 46 RX0]
def wsX8_init_r2 : List Cond := [Cond.instantiable RX0 2, Cond.initialized RX0, Cond.fieldLink RX8 49 "AnchoredNotes" "history" "LAnchoredNotes$History;", Cond.fieldLink RX8 53 "AnchoredNotes" "slots" "[LAnchoredNotes$Page;", Cond.methodLink RX8 9 yX4_init, Cond.instanceMethod yX4_init, Cond.code yX4_init cX4_init 2 none, Cond.methodLink RX4 3 objectInit, Cond.classLink RX4 9 RX6, Cond.fieldLink RX4 14 "AnchoredNotes$Page" "settings" "LAnchoredNotes$Row;", Cond.fieldLink RX4 20 "AnchoredNotes$Page" "letters" "LAnchoredNotes$Row;", Cond.fieldLink RX4 23 "AnchoredNotes$Page" "owners" "LAnchoredNotes$Row;", Cond.classLink RX4 26 RX2, Cond.fieldLink RX4 28 "AnchoredNotes$Page" "notes" "[LAnchoredNotes$Note;", Cond.classLink RX4 32 RX5, Cond.instantiable RX5 4, Cond.initialized RX5, Cond.fieldLink RX4 35 "AnchoredNotes$Page" "pieces" "LAnchoredNotes$Pieces;", Cond.instantiable RX2 4, Cond.initialized RX2, Cond.methodLink RX4 11 yX6_init, Cond.instanceMethod yX6_init, Cond.code yX6_init cX6_init 2 none, Cond.methodLink RX6 3 objectInit]
def wsX8_init_r3 : List Cond := [Cond.arrayClass .int, Cond.fieldLink RX6 9 "AnchoredNotes$Row" "items" "[I", Cond.instanceMethod yX5_init, Cond.code yX5_init cX5_init 1 none, Cond.methodLink RX5 3 objectInit, Cond.methodLink RX4 39 yX6_add, Cond.instanceMethod yX6_add, Cond.selects RX6 yX6_add yX6_add, Cond.code yX6_add cX6_add 2 none, Cond.fieldLink RX6 15 "AnchoredNotes$Row" "length" "I", Cond.instanceMethod yX2_init, Cond.code yX2_init cX2_init 1 none, Cond.methodLink RX2 3 objectInit, Cond.fieldLink RX2 9 "AnchoredNotes$Note" "target" "I", Cond.classLink RX2 15 RX6, Cond.fieldLink RX2 20 "AnchoredNotes$Note" "words" "LAnchoredNotes$Row;", Cond.fieldLink RX2 24 "AnchoredNotes$Note" "ahead" "LAnchoredNotes$Row;", Cond.fieldLink RX2 27 "AnchoredNotes$Note" "behind" "LAnchoredNotes$Row;", Cond.methodLink RX2 17 yX6_init, Cond.instanceMethod yX1_init, Cond.code yX1_init cX1_init 1 none, Cond.methodLink RX1 3 objectInit, Cond.classLink RX1 9 RX6, Cond.fieldLink RX1 14 "AnchoredNotes$Margin" "lines" "LAnchoredNotes$Row;"]
def wsX8_init_r4 : List Cond := [Cond.fieldLink RX1 20 "AnchoredNotes$Margin" "leaders" "LAnchoredNotes$Row;", Cond.fieldLink RX1 23 "AnchoredNotes$Margin" "firsts" "LAnchoredNotes$Row;", Cond.fieldLink RX1 26 "AnchoredNotes$Margin" "used" "LAnchoredNotes$Row;", Cond.methodLink RX1 11 yX6_init, Cond.instanceMethod yX7_init, Cond.code yX7_init cX7_init 1 none, Cond.methodLink RX7 3 objectInit, Cond.methodLink RX8 32 yX6_init, Cond.instanceMethod yX3_init, Cond.code yX3_init cX3_init 1 none, Cond.methodLink RX3 3 objectInit, Cond.classLink RX3 9 RX6, Cond.fieldLink RX3 14 "AnchoredNotes$OrderReader" "numbers" "LAnchoredNotes$Row;", Cond.methodLink RX3 11 yX6_init, Cond.instanceMethod yX0_init, Cond.code yX0_init cX0_init 1 none, Cond.methodLink RX0 3 objectInit, Cond.classLink RX0 9 RX4, Cond.fieldLink RX0 11 "AnchoredNotes$History" "states" "[LAnchoredNotes$Page;"]
def wsX8_init : List Cond := .code yX8_init cX8_init 1 none :: ((wsX8_init_r1 ++ (wsX8_init_r2 ++ (wsX8_init_r3 ++ wsX8_init_r4))) ++ wsX40 ++ wsX80 ++ wsX10 ++ wsX70 ++ wsX60 ++ wsX30 ++ wsX00 ++ wsX50 ++ wsX20)
def wsX8_set_r1 : List Cond := [Cond.fieldLink RX8 49 "AnchoredNotes" "history" "LAnchoredNotes$History;", Cond.fieldLink RX8 10 "AnchoredNotes" "page" "LAnchoredNotes$Page;", Cond.methodLink RX8 57 yX0_keep, Cond.instanceMethod yX0_keep, Cond.selects RX0 yX0_keep yX0_keep, Cond.initialized RX0, Cond.code yX0_keep cX0_keep 3 none, Cond.fieldLink RX0 17 "AnchoredNotes$History" "size" "I", Cond.fieldLink RX0 11 "AnchoredNotes$History" "states" "[LAnchoredNotes$Page;", Cond.classLink RX0 9 RX4, Cond.instantiable RX4 6, Cond.initialized RX4, Cond.methodLink RX0 21 yX4_init, Cond.instanceMethod yX4_init, Cond.code yX4_init cX4_init 2 none, Cond.methodLink RX4 3 objectInit, Cond.instanceMethod objectInit, Cond.code objectInit ⟨#[0xb1]⟩ 1 none, Cond.classLink RX4 9 RX6, Cond.instantiable RX6 2, Cond.initialized RX6, Cond.fieldLink RX4 14 "AnchoredNotes$Page" "settings" "LAnchoredNotes$Row;", Cond.fieldLink RX4 20 "AnchoredNotes$Page" "letters" "LAnchoredNotes$Row;", Cond.fieldLink RX4 23 "AnchoredNotes$Page" "owners" "LAnchoredNotes$Row;"]
def wsX8_set_r2 : List Cond := [Cond.classLink RX4 26 RX2, Cond.fieldLink RX4 28 "AnchoredNotes$Page" "notes" "[LAnchoredNotes$Note;", Cond.classLink RX4 32 RX5, Cond.instantiable RX5 4, Cond.initialized RX5, Cond.fieldLink RX4 35 "AnchoredNotes$Page" "pieces" "LAnchoredNotes$Pieces;", Cond.instantiable RX2 4, Cond.initialized RX2, Cond.methodLink RX4 11 yX6_init, Cond.instanceMethod yX6_init, Cond.code yX6_init cX6_init 2 none, Cond.methodLink RX6 3 objectInit, Cond.arrayClass .int, Cond.fieldLink RX6 9 "AnchoredNotes$Row" "items" "[I", Cond.instanceMethod yX5_init, Cond.code yX5_init cX5_init 1 none, Cond.methodLink RX5 3 objectInit, Cond.methodLink RX4 39 yX6_add, Cond.instanceMethod yX6_add, Cond.selects RX6 yX6_add yX6_add, Cond.code yX6_add cX6_add 2 none, Cond.fieldLink RX6 15 "AnchoredNotes$Row" "length" "I", Cond.instanceMethod yX2_init, Cond.code yX2_init cX2_init 1 none]
def wsX8_set_r3 : List Cond := [Cond.methodLink RX2 3 objectInit, Cond.fieldLink RX2 9 "AnchoredNotes$Note" "target" "I", Cond.classLink RX2 15 RX6, Cond.fieldLink RX2 20 "AnchoredNotes$Note" "words" "LAnchoredNotes$Row;", Cond.fieldLink RX2 24 "AnchoredNotes$Note" "ahead" "LAnchoredNotes$Row;", Cond.fieldLink RX2 27 "AnchoredNotes$Note" "behind" "LAnchoredNotes$Row;", Cond.methodLink RX2 17 yX6_init, Cond.methodLink RX0 22 yX4_copyFrom, Cond.instanceMethod yX4_copyFrom, Cond.selects RX4 yX4_copyFrom yX4_copyFrom, Cond.code yX4_copyFrom cX4_copyFrom 5 none, Cond.fieldLink RX4 47 "AnchoredNotes$Page" "noteCount" "I", Cond.methodLink RX4 43 yX6_copyFrom, Cond.instanceMethod yX6_copyFrom, Cond.selects RX6 yX6_copyFrom yX6_copyFrom, Cond.code yX6_copyFrom cX6_copyFrom 2 none, Cond.methodLink RX6 37 Lib.Math.min.name, Cond.static Lib.Math.min.name, Cond.initialized "java/lang/Math", Cond.code Lib.Math.min.name Lib.Math.min.code 2 (some .int), Cond.methodLink RX6 23 arraycopyName, Cond.native arraycopyName, Cond.static arraycopyName, Cond.initialized "java/lang/System"]
def wsX8_set_r4 : List Cond := [Cond.methodLink RX4 51 yX4_find, Cond.instanceMethod yX4_find, Cond.selects RX4 yX4_find yX4_find, Cond.code yX4_find cX4_find 2 (some (.object "AnchoredNotes$Note")), Cond.methodLink RX4 55 yX2_copyFrom, Cond.instanceMethod yX2_copyFrom, Cond.selects RX2 yX2_copyFrom yX2_copyFrom, Cond.code yX2_copyFrom cX2_copyFrom 2 none, Cond.methodLink RX2 37 yX6_copyFrom, Cond.methodLink RX8 61 yX4_changeSetting, Cond.instanceMethod yX4_changeSetting, Cond.selects RX4 yX4_changeSetting yX4_changeSetting, Cond.code yX4_changeSetting cX4_changeSetting 4 (some .int), Cond.methodLink RX4 58 yX6_has, Cond.instanceMethod yX6_has, Cond.selects RX6 yX6_has yX6_has, Cond.code yX6_has cX6_has 2 (some .boolean), Cond.methodLink RX4 62 yX4_leastOf, Cond.static yX4_leastOf, Cond.code yX4_leastOf cX4_leastOf 1 (some .int), Cond.methodLink RX4 66 yX4_mostOf, Cond.static yX4_mostOf, Cond.code yX4_mostOf cX4_mostOf 1 (some .int), Cond.methodLink RX4 69 yX6_item]
def wsX8_set_r5 : List Cond := [Cond.instanceMethod yX6_item, Cond.selects RX6 yX6_item yX6_item, Cond.code yX6_item cX6_item 2 (some .int), Cond.methodLink RX4 72 yX6_replace, Cond.instanceMethod yX6_replace, Cond.selects RX6 yX6_replace yX6_replace, Cond.code yX6_replace cX6_replace 3 none, Cond.methodLink RX6 19 yX6_has, Cond.methodLink RX8 65 yX0_confirm, Cond.instanceMethod yX0_confirm, Cond.selects RX0 yX0_confirm yX0_confirm, Cond.code yX0_confirm cX0_confirm 2 (some .int), Cond.methodLink RX0 26 yX0_forgetOldest, Cond.instanceMethod yX0_forgetOldest, Cond.selects RX0 yX0_forgetOldest yX0_forgetOldest, Cond.code yX0_forgetOldest cX0_forgetOldest 3 none]
def wsX8_set : List Cond := .code yX8_set cX8_set 3 (some .int) :: ((wsX8_set_r1 ++ (wsX8_set_r2 ++ (wsX8_set_r3 ++ (wsX8_set_r4 ++ wsX8_set_r5)))) ++ wsX80 ++ wsX00 ++ wsX40 ++ wsX60 ++ wsX50 ++ wsX20)
def wsX8_write_r1 : List Cond := [Cond.fieldLink RX8 49 "AnchoredNotes" "history" "LAnchoredNotes$History;", Cond.fieldLink RX8 10 "AnchoredNotes" "page" "LAnchoredNotes$Page;", Cond.methodLink RX8 57 yX0_keep, Cond.instanceMethod yX0_keep, Cond.selects RX0 yX0_keep yX0_keep, Cond.initialized RX0, Cond.code yX0_keep cX0_keep 3 none, Cond.fieldLink RX0 17 "AnchoredNotes$History" "size" "I", Cond.fieldLink RX0 11 "AnchoredNotes$History" "states" "[LAnchoredNotes$Page;", Cond.classLink RX0 9 RX4, Cond.instantiable RX4 6, Cond.initialized RX4, Cond.methodLink RX0 21 yX4_init, Cond.instanceMethod yX4_init, Cond.code yX4_init cX4_init 2 none, Cond.methodLink RX4 3 objectInit, Cond.instanceMethod objectInit, Cond.code objectInit ⟨#[0xb1]⟩ 1 none, Cond.classLink RX4 9 RX6, Cond.instantiable RX6 2, Cond.initialized RX6, Cond.fieldLink RX4 14 "AnchoredNotes$Page" "settings" "LAnchoredNotes$Row;", Cond.fieldLink RX4 20 "AnchoredNotes$Page" "letters" "LAnchoredNotes$Row;", Cond.fieldLink RX4 23 "AnchoredNotes$Page" "owners" "LAnchoredNotes$Row;"]
def wsX8_write_r2 : List Cond := [Cond.classLink RX4 26 RX2, Cond.fieldLink RX4 28 "AnchoredNotes$Page" "notes" "[LAnchoredNotes$Note;", Cond.classLink RX4 32 RX5, Cond.instantiable RX5 4, Cond.initialized RX5, Cond.fieldLink RX4 35 "AnchoredNotes$Page" "pieces" "LAnchoredNotes$Pieces;", Cond.instantiable RX2 4, Cond.initialized RX2, Cond.methodLink RX4 11 yX6_init, Cond.instanceMethod yX6_init, Cond.code yX6_init cX6_init 2 none, Cond.methodLink RX6 3 objectInit, Cond.arrayClass .int, Cond.fieldLink RX6 9 "AnchoredNotes$Row" "items" "[I", Cond.instanceMethod yX5_init, Cond.code yX5_init cX5_init 1 none, Cond.methodLink RX5 3 objectInit, Cond.methodLink RX4 39 yX6_add, Cond.instanceMethod yX6_add, Cond.selects RX6 yX6_add yX6_add, Cond.code yX6_add cX6_add 2 none, Cond.fieldLink RX6 15 "AnchoredNotes$Row" "length" "I", Cond.instanceMethod yX2_init, Cond.code yX2_init cX2_init 1 none]
def wsX8_write_r3 : List Cond := [Cond.methodLink RX2 3 objectInit, Cond.fieldLink RX2 9 "AnchoredNotes$Note" "target" "I", Cond.classLink RX2 15 RX6, Cond.fieldLink RX2 20 "AnchoredNotes$Note" "words" "LAnchoredNotes$Row;", Cond.fieldLink RX2 24 "AnchoredNotes$Note" "ahead" "LAnchoredNotes$Row;", Cond.fieldLink RX2 27 "AnchoredNotes$Note" "behind" "LAnchoredNotes$Row;", Cond.methodLink RX2 17 yX6_init, Cond.methodLink RX0 22 yX4_copyFrom, Cond.instanceMethod yX4_copyFrom, Cond.selects RX4 yX4_copyFrom yX4_copyFrom, Cond.code yX4_copyFrom cX4_copyFrom 5 none, Cond.fieldLink RX4 47 "AnchoredNotes$Page" "noteCount" "I", Cond.methodLink RX4 43 yX6_copyFrom, Cond.instanceMethod yX6_copyFrom, Cond.selects RX6 yX6_copyFrom yX6_copyFrom, Cond.code yX6_copyFrom cX6_copyFrom 2 none, Cond.methodLink RX6 37 Lib.Math.min.name, Cond.static Lib.Math.min.name, Cond.initialized "java/lang/Math", Cond.code Lib.Math.min.name Lib.Math.min.code 2 (some .int), Cond.methodLink RX6 23 arraycopyName, Cond.native arraycopyName, Cond.static arraycopyName, Cond.initialized "java/lang/System"]
def wsX8_write_r4 : List Cond := [Cond.methodLink RX4 51 yX4_find, Cond.instanceMethod yX4_find, Cond.selects RX4 yX4_find yX4_find, Cond.code yX4_find cX4_find 2 (some (.object "AnchoredNotes$Note")), Cond.methodLink RX4 55 yX2_copyFrom, Cond.instanceMethod yX2_copyFrom, Cond.selects RX2 yX2_copyFrom yX2_copyFrom, Cond.code yX2_copyFrom cX2_copyFrom 2 none, Cond.methodLink RX2 37 yX6_copyFrom, Cond.methodLink RX8 69 yX4_writeLetter, Cond.instanceMethod yX4_writeLetter, Cond.selects RX4 yX4_writeLetter yX4_writeLetter, Cond.code yX4_writeLetter cX4_writeLetter 3 (some .int), Cond.fieldLink RX4 76 "AnchoredNotes$Row" "length" "I", Cond.methodLink RX4 79 yX6_insert, Cond.instanceMethod yX6_insert, Cond.selects RX6 yX6_insert yX6_insert, Cond.code yX6_insert cX6_insert 3 none, Cond.methodLink RX8 65 yX0_confirm, Cond.instanceMethod yX0_confirm, Cond.selects RX0 yX0_confirm yX0_confirm, Cond.code yX0_confirm cX0_confirm 2 (some .int), Cond.methodLink RX0 26 yX0_forgetOldest, Cond.instanceMethod yX0_forgetOldest]
def wsX8_write_r5 : List Cond := [Cond.selects RX0 yX0_forgetOldest yX0_forgetOldest, Cond.code yX0_forgetOldest cX0_forgetOldest 3 none]
def wsX8_write : List Cond := .code yX8_write cX8_write 3 (some .int) :: ((wsX8_write_r1 ++ (wsX8_write_r2 ++ (wsX8_write_r3 ++ (wsX8_write_r4 ++ wsX8_write_r5)))) ++ wsX80 ++ wsX00 ++ wsX40 ++ wsX60 ++ wsX50 ++ wsX20)
def wsX8_erase_r1 : List Cond := [Cond.fieldLink RX8 49 "AnchoredNotes" "history" "LAnchoredNotes$History;", Cond.fieldLink RX8 10 "AnchoredNotes" "page" "LAnchoredNotes$Page;", Cond.methodLink RX8 57 yX0_keep, Cond.instanceMethod yX0_keep, Cond.selects RX0 yX0_keep yX0_keep, Cond.initialized RX0, Cond.code yX0_keep cX0_keep 3 none, Cond.fieldLink RX0 17 "AnchoredNotes$History" "size" "I", Cond.fieldLink RX0 11 "AnchoredNotes$History" "states" "[LAnchoredNotes$Page;", Cond.classLink RX0 9 RX4, Cond.instantiable RX4 6, Cond.initialized RX4, Cond.methodLink RX0 21 yX4_init, Cond.instanceMethod yX4_init, Cond.code yX4_init cX4_init 2 none, Cond.methodLink RX4 3 objectInit, Cond.instanceMethod objectInit, Cond.code objectInit ⟨#[0xb1]⟩ 1 none, Cond.classLink RX4 9 RX6, Cond.instantiable RX6 2, Cond.initialized RX6, Cond.fieldLink RX4 14 "AnchoredNotes$Page" "settings" "LAnchoredNotes$Row;", Cond.fieldLink RX4 20 "AnchoredNotes$Page" "letters" "LAnchoredNotes$Row;", Cond.fieldLink RX4 23 "AnchoredNotes$Page" "owners" "LAnchoredNotes$Row;"]
def wsX8_erase_r2 : List Cond := [Cond.classLink RX4 26 RX2, Cond.fieldLink RX4 28 "AnchoredNotes$Page" "notes" "[LAnchoredNotes$Note;", Cond.classLink RX4 32 RX5, Cond.instantiable RX5 4, Cond.initialized RX5, Cond.fieldLink RX4 35 "AnchoredNotes$Page" "pieces" "LAnchoredNotes$Pieces;", Cond.instantiable RX2 4, Cond.initialized RX2, Cond.methodLink RX4 11 yX6_init, Cond.instanceMethod yX6_init, Cond.code yX6_init cX6_init 2 none, Cond.methodLink RX6 3 objectInit, Cond.arrayClass .int, Cond.fieldLink RX6 9 "AnchoredNotes$Row" "items" "[I", Cond.instanceMethod yX5_init, Cond.code yX5_init cX5_init 1 none, Cond.methodLink RX5 3 objectInit, Cond.methodLink RX4 39 yX6_add, Cond.instanceMethod yX6_add, Cond.selects RX6 yX6_add yX6_add, Cond.code yX6_add cX6_add 2 none, Cond.fieldLink RX6 15 "AnchoredNotes$Row" "length" "I", Cond.instanceMethod yX2_init, Cond.code yX2_init cX2_init 1 none]
def wsX8_erase_r3 : List Cond := [Cond.methodLink RX2 3 objectInit, Cond.fieldLink RX2 9 "AnchoredNotes$Note" "target" "I", Cond.classLink RX2 15 RX6, Cond.fieldLink RX2 20 "AnchoredNotes$Note" "words" "LAnchoredNotes$Row;", Cond.fieldLink RX2 24 "AnchoredNotes$Note" "ahead" "LAnchoredNotes$Row;", Cond.fieldLink RX2 27 "AnchoredNotes$Note" "behind" "LAnchoredNotes$Row;", Cond.methodLink RX2 17 yX6_init, Cond.methodLink RX0 22 yX4_copyFrom, Cond.instanceMethod yX4_copyFrom, Cond.selects RX4 yX4_copyFrom yX4_copyFrom, Cond.code yX4_copyFrom cX4_copyFrom 5 none, Cond.fieldLink RX4 47 "AnchoredNotes$Page" "noteCount" "I", Cond.methodLink RX4 43 yX6_copyFrom, Cond.instanceMethod yX6_copyFrom, Cond.selects RX6 yX6_copyFrom yX6_copyFrom, Cond.code yX6_copyFrom cX6_copyFrom 2 none, Cond.methodLink RX6 37 Lib.Math.min.name, Cond.static Lib.Math.min.name, Cond.initialized "java/lang/Math", Cond.code Lib.Math.min.name Lib.Math.min.code 2 (some .int), Cond.methodLink RX6 23 arraycopyName, Cond.native arraycopyName, Cond.static arraycopyName, Cond.initialized "java/lang/System"]
def wsX8_erase_r4 : List Cond := [Cond.methodLink RX4 51 yX4_find, Cond.instanceMethod yX4_find, Cond.selects RX4 yX4_find yX4_find, Cond.code yX4_find cX4_find 2 (some (.object "AnchoredNotes$Note")), Cond.methodLink RX4 55 yX2_copyFrom, Cond.instanceMethod yX2_copyFrom, Cond.selects RX2 yX2_copyFrom yX2_copyFrom, Cond.code yX2_copyFrom cX2_copyFrom 2 none, Cond.methodLink RX2 37 yX6_copyFrom, Cond.methodLink RX8 72 yX4_eraseLetters, Cond.instanceMethod yX4_eraseLetters, Cond.selects RX4 yX4_eraseLetters yX4_eraseLetters, Cond.code yX4_eraseLetters cX4_eraseLetters 4 (some .int), Cond.methodLink RX4 82 yX4_orphanedBy, Cond.instanceMethod yX4_orphanedBy, Cond.selects RX4 yX4_orphanedBy yX4_orphanedBy, Cond.code yX4_orphanedBy cX4_orphanedBy 7 (some .int), Cond.fieldLink RX4 76 "AnchoredNotes$Row" "length" "I", Cond.methodLink RX4 94 yX4_passageError, Cond.instanceMethod yX4_passageError, Cond.selects RX4 yX4_passageError yX4_passageError, Cond.code yX4_passageError cX4_passageError 3 (some .int), Cond.methodLink RX4 58 yX6_has, Cond.instanceMethod yX6_has]
def wsX8_erase_r5 : List Cond := [Cond.selects RX6 yX6_has yX6_has, Cond.code yX6_has cX6_has 2 (some .boolean), Cond.methodLink RX4 69 yX6_item, Cond.instanceMethod yX6_item, Cond.selects RX6 yX6_item yX6_item, Cond.code yX6_item cX6_item 2 (some .int), Cond.methodLink RX4 86 yX6_cut, Cond.instanceMethod yX6_cut, Cond.selects RX6 yX6_cut yX6_cut, Cond.code yX6_cut cX6_cut 3 none, Cond.methodLink RX6 19 yX6_has, Cond.methodLink RX4 89 yJ6_bitCount_0f7a4, Cond.static yJ6_bitCount_0f7a4, Cond.initialized RJ6, Cond.code yJ6_bitCount_0f7a4 cJ6_bitCount_0f7a4 1 (some .int), Cond.constant RJ6 265 (1431655765), Cond.constant RJ6 266 (858993459), Cond.constant RJ6 267 (252645135), Cond.methodLink RX8 65 yX0_confirm, Cond.instanceMethod yX0_confirm, Cond.selects RX0 yX0_confirm yX0_confirm, Cond.code yX0_confirm cX0_confirm 2 (some .int), Cond.methodLink RX0 26 yX0_forgetOldest, Cond.instanceMethod yX0_forgetOldest]
def wsX8_erase_r6 : List Cond := [Cond.selects RX0 yX0_forgetOldest yX0_forgetOldest, Cond.code yX0_forgetOldest cX0_forgetOldest 3 none]
def wsX8_erase : List Cond := .code yX8_erase cX8_erase 3 (some .int) :: ((wsX8_erase_r1 ++ (wsX8_erase_r2 ++ (wsX8_erase_r3 ++ (wsX8_erase_r4 ++ (wsX8_erase_r5 ++ wsX8_erase_r6))))) ++ wsX80 ++ wsX00 ++ wsX40 ++ wsX60 ++ wsX50 ++ wsX20)
def wsX8_move_r1 : List Cond := [Cond.fieldLink RX8 49 "AnchoredNotes" "history" "LAnchoredNotes$History;", Cond.fieldLink RX8 10 "AnchoredNotes" "page" "LAnchoredNotes$Page;", Cond.methodLink RX8 57 yX0_keep, Cond.instanceMethod yX0_keep, Cond.selects RX0 yX0_keep yX0_keep, Cond.initialized RX0, Cond.code yX0_keep cX0_keep 3 none, Cond.fieldLink RX0 17 "AnchoredNotes$History" "size" "I", Cond.fieldLink RX0 11 "AnchoredNotes$History" "states" "[LAnchoredNotes$Page;", Cond.classLink RX0 9 RX4, Cond.instantiable RX4 6, Cond.initialized RX4, Cond.methodLink RX0 21 yX4_init, Cond.instanceMethod yX4_init, Cond.code yX4_init cX4_init 2 none, Cond.methodLink RX4 3 objectInit, Cond.instanceMethod objectInit, Cond.code objectInit ⟨#[0xb1]⟩ 1 none, Cond.classLink RX4 9 RX6, Cond.instantiable RX6 2, Cond.initialized RX6, Cond.fieldLink RX4 14 "AnchoredNotes$Page" "settings" "LAnchoredNotes$Row;", Cond.fieldLink RX4 20 "AnchoredNotes$Page" "letters" "LAnchoredNotes$Row;", Cond.fieldLink RX4 23 "AnchoredNotes$Page" "owners" "LAnchoredNotes$Row;"]
def wsX8_move_r2 : List Cond := [Cond.classLink RX4 26 RX2, Cond.fieldLink RX4 28 "AnchoredNotes$Page" "notes" "[LAnchoredNotes$Note;", Cond.classLink RX4 32 RX5, Cond.instantiable RX5 4, Cond.initialized RX5, Cond.fieldLink RX4 35 "AnchoredNotes$Page" "pieces" "LAnchoredNotes$Pieces;", Cond.instantiable RX2 4, Cond.initialized RX2, Cond.methodLink RX4 11 yX6_init, Cond.instanceMethod yX6_init, Cond.code yX6_init cX6_init 2 none, Cond.methodLink RX6 3 objectInit, Cond.arrayClass .int, Cond.fieldLink RX6 9 "AnchoredNotes$Row" "items" "[I", Cond.instanceMethod yX5_init, Cond.code yX5_init cX5_init 1 none, Cond.methodLink RX5 3 objectInit, Cond.methodLink RX4 39 yX6_add, Cond.instanceMethod yX6_add, Cond.selects RX6 yX6_add yX6_add, Cond.code yX6_add cX6_add 2 none, Cond.fieldLink RX6 15 "AnchoredNotes$Row" "length" "I", Cond.instanceMethod yX2_init, Cond.code yX2_init cX2_init 1 none]
def wsX8_move_r3 : List Cond := [Cond.methodLink RX2 3 objectInit, Cond.fieldLink RX2 9 "AnchoredNotes$Note" "target" "I", Cond.classLink RX2 15 RX6, Cond.fieldLink RX2 20 "AnchoredNotes$Note" "words" "LAnchoredNotes$Row;", Cond.fieldLink RX2 24 "AnchoredNotes$Note" "ahead" "LAnchoredNotes$Row;", Cond.fieldLink RX2 27 "AnchoredNotes$Note" "behind" "LAnchoredNotes$Row;", Cond.methodLink RX2 17 yX6_init, Cond.methodLink RX0 22 yX4_copyFrom, Cond.instanceMethod yX4_copyFrom, Cond.selects RX4 yX4_copyFrom yX4_copyFrom, Cond.code yX4_copyFrom cX4_copyFrom 5 none, Cond.fieldLink RX4 47 "AnchoredNotes$Page" "noteCount" "I", Cond.methodLink RX4 43 yX6_copyFrom, Cond.instanceMethod yX6_copyFrom, Cond.selects RX6 yX6_copyFrom yX6_copyFrom, Cond.code yX6_copyFrom cX6_copyFrom 2 none, Cond.methodLink RX6 37 Lib.Math.min.name, Cond.static Lib.Math.min.name, Cond.initialized "java/lang/Math", Cond.code Lib.Math.min.name Lib.Math.min.code 2 (some .int), Cond.methodLink RX6 23 arraycopyName, Cond.native arraycopyName, Cond.static arraycopyName, Cond.initialized "java/lang/System"]
def wsX8_move_r4 : List Cond := [Cond.methodLink RX4 51 yX4_find, Cond.instanceMethod yX4_find, Cond.selects RX4 yX4_find yX4_find, Cond.code yX4_find cX4_find 2 (some (.object "AnchoredNotes$Note")), Cond.methodLink RX4 55 yX2_copyFrom, Cond.instanceMethod yX2_copyFrom, Cond.selects RX2 yX2_copyFrom yX2_copyFrom, Cond.code yX2_copyFrom cX2_copyFrom 2 none, Cond.methodLink RX2 37 yX6_copyFrom, Cond.methodLink RX8 75 yX4_moveLetters, Cond.instanceMethod yX4_moveLetters, Cond.selects RX4 yX4_moveLetters yX4_moveLetters, Cond.code yX4_moveLetters cX4_moveLetters 6 (some .int), Cond.fieldLink RX4 76 "AnchoredNotes$Row" "length" "I", Cond.methodLink RX4 94 yX4_passageError, Cond.instanceMethod yX4_passageError, Cond.selects RX4 yX4_passageError yX4_passageError, Cond.code yX4_passageError cX4_passageError 3 (some .int), Cond.methodLink RX4 58 yX6_has, Cond.instanceMethod yX6_has, Cond.selects RX6 yX6_has yX6_has, Cond.code yX6_has cX6_has 2 (some .boolean), Cond.methodLink RX4 97 yX6_shift, Cond.instanceMethod yX6_shift]
def wsX8_move_r5 : List Cond := [Cond.selects RX6 yX6_shift yX6_shift, Cond.code yX6_shift cX6_shift 4 none, Cond.methodLink RX6 29 yX6_exchange, Cond.instanceMethod yX6_exchange, Cond.selects RX6 yX6_exchange yX6_exchange, Cond.code yX6_exchange cX6_exchange 4 none, Cond.methodLink RX6 33 yX6_turn, Cond.instanceMethod yX6_turn, Cond.selects RX6 yX6_turn yX6_turn, Cond.code yX6_turn cX6_turn 6 none, Cond.methodLink RX6 19 yX6_has, Cond.methodLink RX4 101 yX4_countParted, Cond.instanceMethod yX4_countParted, Cond.selects RX4 yX4_countParted yX4_countParted, Cond.code yX4_countParted cX4_countParted 3 (some .int), Cond.fieldLink RX4 163 "AnchoredNotes$Pieces" "pieces" "I", Cond.methodLink RX4 150 yX4_piecesOf, Cond.instanceMethod yX4_piecesOf, Cond.selects RX4 yX4_piecesOf yX4_piecesOf, Cond.code yX4_piecesOf cX4_piecesOf 2 (some (.object "AnchoredNotes$Pieces")), Cond.methodLink RX4 156 yX5_gather, Cond.instanceMethod yX5_gather, Cond.selects RX5 yX5_gather yX5_gather, Cond.code yX5_gather cX5_gather 7 none]
def wsX8_move_r6 : List Cond := [Cond.fieldLink RX5 9 "AnchoredNotes$Pieces" "pieces" "I", Cond.fieldLink RX5 15 "AnchoredNotes$Pieces" "letters" "I", Cond.fieldLink RX5 18 "AnchoredNotes$Pieces" "first" "I", Cond.fieldLink RX5 21 "AnchoredNotes$Pieces" "last" "I", Cond.fieldLink RX5 24 "AnchoredNotes$Row" "length" "I", Cond.methodLink RX5 29 yX6_item, Cond.instanceMethod yX6_item, Cond.selects RX6 yX6_item yX6_item, Cond.code yX6_item cX6_item 2 (some .int), Cond.static yX8_isIn, Cond.initialized RX8, Cond.code yX8_isIn cX8_isIn 2 (some .boolean), Cond.methodLink RX8 65 yX0_confirm, Cond.instanceMethod yX0_confirm, Cond.selects RX0 yX0_confirm yX0_confirm, Cond.code yX0_confirm cX0_confirm 2 (some .int), Cond.methodLink RX0 26 yX0_forgetOldest, Cond.instanceMethod yX0_forgetOldest, Cond.selects RX0 yX0_forgetOldest yX0_forgetOldest, Cond.code yX0_forgetOldest cX0_forgetOldest 3 none]
def wsX8_move : List Cond := .code yX8_move cX8_move 4 (some .int) :: ((wsX8_move_r1 ++ (wsX8_move_r2 ++ (wsX8_move_r3 ++ (wsX8_move_r4 ++ (wsX8_move_r5 ++ wsX8_move_r6))))) ++ wsX80 ++ wsX00 ++ wsX40 ++ wsX60 ++ wsX50 ++ wsX20)
def wsX8_note_r1 : List Cond := [Cond.fieldLink RX8 49 "AnchoredNotes" "history" "LAnchoredNotes$History;", Cond.fieldLink RX8 10 "AnchoredNotes" "page" "LAnchoredNotes$Page;", Cond.methodLink RX8 57 yX0_keep, Cond.instanceMethod yX0_keep, Cond.selects RX0 yX0_keep yX0_keep, Cond.initialized RX0, Cond.code yX0_keep cX0_keep 3 none, Cond.fieldLink RX0 17 "AnchoredNotes$History" "size" "I", Cond.fieldLink RX0 11 "AnchoredNotes$History" "states" "[LAnchoredNotes$Page;", Cond.classLink RX0 9 RX4, Cond.instantiable RX4 6, Cond.initialized RX4, Cond.methodLink RX0 21 yX4_init, Cond.instanceMethod yX4_init, Cond.code yX4_init cX4_init 2 none, Cond.methodLink RX4 3 objectInit, Cond.instanceMethod objectInit, Cond.code objectInit ⟨#[0xb1]⟩ 1 none, Cond.classLink RX4 9 RX6, Cond.instantiable RX6 2, Cond.initialized RX6, Cond.fieldLink RX4 14 "AnchoredNotes$Page" "settings" "LAnchoredNotes$Row;", Cond.fieldLink RX4 20 "AnchoredNotes$Page" "letters" "LAnchoredNotes$Row;", Cond.fieldLink RX4 23 "AnchoredNotes$Page" "owners" "LAnchoredNotes$Row;"]
def wsX8_note_r2 : List Cond := [Cond.classLink RX4 26 RX2, Cond.fieldLink RX4 28 "AnchoredNotes$Page" "notes" "[LAnchoredNotes$Note;", Cond.classLink RX4 32 RX5, Cond.instantiable RX5 4, Cond.initialized RX5, Cond.fieldLink RX4 35 "AnchoredNotes$Page" "pieces" "LAnchoredNotes$Pieces;", Cond.instantiable RX2 4, Cond.initialized RX2, Cond.methodLink RX4 11 yX6_init, Cond.instanceMethod yX6_init, Cond.code yX6_init cX6_init 2 none, Cond.methodLink RX6 3 objectInit, Cond.arrayClass .int, Cond.fieldLink RX6 9 "AnchoredNotes$Row" "items" "[I", Cond.instanceMethod yX5_init, Cond.code yX5_init cX5_init 1 none, Cond.methodLink RX5 3 objectInit, Cond.methodLink RX4 39 yX6_add, Cond.instanceMethod yX6_add, Cond.selects RX6 yX6_add yX6_add, Cond.code yX6_add cX6_add 2 none, Cond.fieldLink RX6 15 "AnchoredNotes$Row" "length" "I", Cond.instanceMethod yX2_init, Cond.code yX2_init cX2_init 1 none]
def wsX8_note_r3 : List Cond := [Cond.methodLink RX2 3 objectInit, Cond.fieldLink RX2 9 "AnchoredNotes$Note" "target" "I", Cond.classLink RX2 15 RX6, Cond.fieldLink RX2 20 "AnchoredNotes$Note" "words" "LAnchoredNotes$Row;", Cond.fieldLink RX2 24 "AnchoredNotes$Note" "ahead" "LAnchoredNotes$Row;", Cond.fieldLink RX2 27 "AnchoredNotes$Note" "behind" "LAnchoredNotes$Row;", Cond.methodLink RX2 17 yX6_init, Cond.methodLink RX0 22 yX4_copyFrom, Cond.instanceMethod yX4_copyFrom, Cond.selects RX4 yX4_copyFrom yX4_copyFrom, Cond.code yX4_copyFrom cX4_copyFrom 5 none, Cond.fieldLink RX4 47 "AnchoredNotes$Page" "noteCount" "I", Cond.methodLink RX4 43 yX6_copyFrom, Cond.instanceMethod yX6_copyFrom, Cond.selects RX6 yX6_copyFrom yX6_copyFrom, Cond.code yX6_copyFrom cX6_copyFrom 2 none, Cond.methodLink RX6 37 Lib.Math.min.name, Cond.static Lib.Math.min.name, Cond.initialized "java/lang/Math", Cond.code Lib.Math.min.name Lib.Math.min.code 2 (some .int), Cond.methodLink RX6 23 arraycopyName, Cond.native arraycopyName, Cond.static arraycopyName, Cond.initialized "java/lang/System"]
def wsX8_note_r4 : List Cond := [Cond.methodLink RX4 51 yX4_find, Cond.instanceMethod yX4_find, Cond.selects RX4 yX4_find yX4_find, Cond.code yX4_find cX4_find 2 (some (.object "AnchoredNotes$Note")), Cond.methodLink RX4 55 yX2_copyFrom, Cond.instanceMethod yX2_copyFrom, Cond.selects RX2 yX2_copyFrom yX2_copyFrom, Cond.code yX2_copyFrom cX2_copyFrom 2 none, Cond.methodLink RX2 37 yX6_copyFrom, Cond.methodLink RX8 79 yX4_addNote, Cond.instanceMethod yX4_addNote, Cond.selects RX4 yX4_addNote yX4_addNote, Cond.code yX4_addNote cX4_addNote 5 (some .int), Cond.methodLink RX4 94 yX4_passageError, Cond.instanceMethod yX4_passageError, Cond.selects RX4 yX4_passageError yX4_passageError, Cond.code yX4_passageError cX4_passageError 3 (some .int), Cond.methodLink RX4 58 yX6_has, Cond.instanceMethod yX6_has, Cond.selects RX6 yX6_has yX6_has, Cond.code yX6_has cX6_has 2 (some .boolean), Cond.methodLink RX4 105 yX4_anchor, Cond.instanceMethod yX4_anchor, Cond.selects RX4 yX4_anchor yX4_anchor]
def wsX8_note_r5 : List Cond := [Cond.code yX4_anchor cX4_anchor 6 none, Cond.fieldLink RX4 76 "AnchoredNotes$Row" "length" "I", Cond.methodLink RX4 69 yX6_item, Cond.instanceMethod yX6_item, Cond.selects RX6 yX6_item yX6_item, Cond.code yX6_item cX6_item 2 (some .int), Cond.methodLink RX4 108 yX2_remember, Cond.instanceMethod yX2_remember, Cond.selects RX2 yX2_remember yX2_remember, Cond.code yX2_remember cX2_remember 5 none, Cond.methodLink RX2 33 yX6_copyPart, Cond.instanceMethod yX6_copyPart, Cond.selects RX6 yX6_copyPart yX6_copyPart, Cond.code yX6_copyPart cX6_copyPart 6 none, Cond.methodLink RX6 43 yX6_clear, Cond.instanceMethod yX6_clear, Cond.selects RX6 yX6_clear yX6_clear, Cond.code yX6_clear cX6_clear 1 none, Cond.methodLink RX6 19 yX6_has, Cond.methodLink RX6 46 yX6_item, Cond.methodLink RX6 50 yX6_add, Cond.methodLink RX4 72 yX6_replace, Cond.instanceMethod yX6_replace, Cond.selects RX6 yX6_replace yX6_replace]
def wsX8_note_r6 : List Cond := [Cond.code yX6_replace cX6_replace 3 none, Cond.methodLink RX8 65 yX0_confirm, Cond.instanceMethod yX0_confirm, Cond.selects RX0 yX0_confirm yX0_confirm, Cond.code yX0_confirm cX0_confirm 2 (some .int), Cond.methodLink RX0 26 yX0_forgetOldest, Cond.instanceMethod yX0_forgetOldest, Cond.selects RX0 yX0_forgetOldest yX0_forgetOldest, Cond.code yX0_forgetOldest cX0_forgetOldest 3 none]
def wsX8_note : List Cond := .code yX8_note cX8_note 3 (some .int) :: ((wsX8_note_r1 ++ (wsX8_note_r2 ++ (wsX8_note_r3 ++ (wsX8_note_r4 ++ (wsX8_note_r5 ++ wsX8_note_r6))))) ++ wsX80 ++ wsX00 ++ wsX40 ++ wsX60 ++ wsX50 ++ wsX20)
def wsX8_reply_r1 : List Cond := [Cond.fieldLink RX8 49 "AnchoredNotes" "history" "LAnchoredNotes$History;", Cond.fieldLink RX8 10 "AnchoredNotes" "page" "LAnchoredNotes$Page;", Cond.methodLink RX8 57 yX0_keep, Cond.instanceMethod yX0_keep, Cond.selects RX0 yX0_keep yX0_keep, Cond.initialized RX0, Cond.code yX0_keep cX0_keep 3 none, Cond.fieldLink RX0 17 "AnchoredNotes$History" "size" "I", Cond.fieldLink RX0 11 "AnchoredNotes$History" "states" "[LAnchoredNotes$Page;", Cond.classLink RX0 9 RX4, Cond.instantiable RX4 6, Cond.initialized RX4, Cond.methodLink RX0 21 yX4_init, Cond.instanceMethod yX4_init, Cond.code yX4_init cX4_init 2 none, Cond.methodLink RX4 3 objectInit, Cond.instanceMethod objectInit, Cond.code objectInit ⟨#[0xb1]⟩ 1 none, Cond.classLink RX4 9 RX6, Cond.instantiable RX6 2, Cond.initialized RX6, Cond.fieldLink RX4 14 "AnchoredNotes$Page" "settings" "LAnchoredNotes$Row;", Cond.fieldLink RX4 20 "AnchoredNotes$Page" "letters" "LAnchoredNotes$Row;", Cond.fieldLink RX4 23 "AnchoredNotes$Page" "owners" "LAnchoredNotes$Row;"]
def wsX8_reply_r2 : List Cond := [Cond.classLink RX4 26 RX2, Cond.fieldLink RX4 28 "AnchoredNotes$Page" "notes" "[LAnchoredNotes$Note;", Cond.classLink RX4 32 RX5, Cond.instantiable RX5 4, Cond.initialized RX5, Cond.fieldLink RX4 35 "AnchoredNotes$Page" "pieces" "LAnchoredNotes$Pieces;", Cond.instantiable RX2 4, Cond.initialized RX2, Cond.methodLink RX4 11 yX6_init, Cond.instanceMethod yX6_init, Cond.code yX6_init cX6_init 2 none, Cond.methodLink RX6 3 objectInit, Cond.arrayClass .int, Cond.fieldLink RX6 9 "AnchoredNotes$Row" "items" "[I", Cond.instanceMethod yX5_init, Cond.code yX5_init cX5_init 1 none, Cond.methodLink RX5 3 objectInit, Cond.methodLink RX4 39 yX6_add, Cond.instanceMethod yX6_add, Cond.selects RX6 yX6_add yX6_add, Cond.code yX6_add cX6_add 2 none, Cond.fieldLink RX6 15 "AnchoredNotes$Row" "length" "I", Cond.instanceMethod yX2_init, Cond.code yX2_init cX2_init 1 none]
def wsX8_reply_r3 : List Cond := [Cond.methodLink RX2 3 objectInit, Cond.fieldLink RX2 9 "AnchoredNotes$Note" "target" "I", Cond.classLink RX2 15 RX6, Cond.fieldLink RX2 20 "AnchoredNotes$Note" "words" "LAnchoredNotes$Row;", Cond.fieldLink RX2 24 "AnchoredNotes$Note" "ahead" "LAnchoredNotes$Row;", Cond.fieldLink RX2 27 "AnchoredNotes$Note" "behind" "LAnchoredNotes$Row;", Cond.methodLink RX2 17 yX6_init, Cond.methodLink RX0 22 yX4_copyFrom, Cond.instanceMethod yX4_copyFrom, Cond.selects RX4 yX4_copyFrom yX4_copyFrom, Cond.code yX4_copyFrom cX4_copyFrom 5 none, Cond.fieldLink RX4 47 "AnchoredNotes$Page" "noteCount" "I", Cond.methodLink RX4 43 yX6_copyFrom, Cond.instanceMethod yX6_copyFrom, Cond.selects RX6 yX6_copyFrom yX6_copyFrom, Cond.code yX6_copyFrom cX6_copyFrom 2 none, Cond.methodLink RX6 37 Lib.Math.min.name, Cond.static Lib.Math.min.name, Cond.initialized "java/lang/Math", Cond.code Lib.Math.min.name Lib.Math.min.code 2 (some .int), Cond.methodLink RX6 23 arraycopyName, Cond.native arraycopyName, Cond.static arraycopyName, Cond.initialized "java/lang/System"]
def wsX8_reply_r4 : List Cond := [Cond.methodLink RX4 51 yX4_find, Cond.instanceMethod yX4_find, Cond.selects RX4 yX4_find yX4_find, Cond.code yX4_find cX4_find 2 (some (.object "AnchoredNotes$Note")), Cond.methodLink RX4 55 yX2_copyFrom, Cond.instanceMethod yX2_copyFrom, Cond.selects RX2 yX2_copyFrom yX2_copyFrom, Cond.code yX2_copyFrom cX2_copyFrom 2 none, Cond.methodLink RX2 37 yX6_copyFrom, Cond.methodLink RX8 82 yX4_addReply, Cond.instanceMethod yX4_addReply, Cond.selects RX4 yX4_addReply yX4_addReply, Cond.code yX4_addReply cX4_addReply 4 (some .int), Cond.methodLink RX4 112 yX2_becomeReply, Cond.instanceMethod yX2_becomeReply, Cond.selects RX2 yX2_becomeReply yX2_becomeReply, Cond.code yX2_becomeReply cX2_becomeReply 2 none, Cond.methodLink RX2 30 yX6_clear, Cond.instanceMethod yX6_clear, Cond.selects RX6 yX6_clear yX6_clear, Cond.code yX6_clear cX6_clear 1 none, Cond.methodLink RX8 65 yX0_confirm, Cond.instanceMethod yX0_confirm, Cond.selects RX0 yX0_confirm yX0_confirm]
def wsX8_reply_r5 : List Cond := [Cond.code yX0_confirm cX0_confirm 2 (some .int), Cond.methodLink RX0 26 yX0_forgetOldest, Cond.instanceMethod yX0_forgetOldest, Cond.selects RX0 yX0_forgetOldest yX0_forgetOldest, Cond.code yX0_forgetOldest cX0_forgetOldest 3 none]
def wsX8_reply : List Cond := .code yX8_reply cX8_reply 2 (some .int) :: ((wsX8_reply_r1 ++ (wsX8_reply_r2 ++ (wsX8_reply_r3 ++ (wsX8_reply_r4 ++ wsX8_reply_r5)))) ++ wsX80 ++ wsX00 ++ wsX40 ++ wsX60 ++ wsX50 ++ wsX20)
def wsX8_drop_r1 : List Cond := [Cond.fieldLink RX8 49 "AnchoredNotes" "history" "LAnchoredNotes$History;", Cond.fieldLink RX8 10 "AnchoredNotes" "page" "LAnchoredNotes$Page;", Cond.methodLink RX8 57 yX0_keep, Cond.instanceMethod yX0_keep, Cond.selects RX0 yX0_keep yX0_keep, Cond.initialized RX0, Cond.code yX0_keep cX0_keep 3 none, Cond.fieldLink RX0 17 "AnchoredNotes$History" "size" "I", Cond.fieldLink RX0 11 "AnchoredNotes$History" "states" "[LAnchoredNotes$Page;", Cond.classLink RX0 9 RX4, Cond.instantiable RX4 6, Cond.initialized RX4, Cond.methodLink RX0 21 yX4_init, Cond.instanceMethod yX4_init, Cond.code yX4_init cX4_init 2 none, Cond.methodLink RX4 3 objectInit, Cond.instanceMethod objectInit, Cond.code objectInit ⟨#[0xb1]⟩ 1 none, Cond.classLink RX4 9 RX6, Cond.instantiable RX6 2, Cond.initialized RX6, Cond.fieldLink RX4 14 "AnchoredNotes$Page" "settings" "LAnchoredNotes$Row;", Cond.fieldLink RX4 20 "AnchoredNotes$Page" "letters" "LAnchoredNotes$Row;", Cond.fieldLink RX4 23 "AnchoredNotes$Page" "owners" "LAnchoredNotes$Row;"]
def wsX8_drop_r2 : List Cond := [Cond.classLink RX4 26 RX2, Cond.fieldLink RX4 28 "AnchoredNotes$Page" "notes" "[LAnchoredNotes$Note;", Cond.classLink RX4 32 RX5, Cond.instantiable RX5 4, Cond.initialized RX5, Cond.fieldLink RX4 35 "AnchoredNotes$Page" "pieces" "LAnchoredNotes$Pieces;", Cond.instantiable RX2 4, Cond.initialized RX2, Cond.methodLink RX4 11 yX6_init, Cond.instanceMethod yX6_init, Cond.code yX6_init cX6_init 2 none, Cond.methodLink RX6 3 objectInit, Cond.arrayClass .int, Cond.fieldLink RX6 9 "AnchoredNotes$Row" "items" "[I", Cond.instanceMethod yX5_init, Cond.code yX5_init cX5_init 1 none, Cond.methodLink RX5 3 objectInit, Cond.methodLink RX4 39 yX6_add, Cond.instanceMethod yX6_add, Cond.selects RX6 yX6_add yX6_add, Cond.code yX6_add cX6_add 2 none, Cond.fieldLink RX6 15 "AnchoredNotes$Row" "length" "I", Cond.instanceMethod yX2_init, Cond.code yX2_init cX2_init 1 none]
def wsX8_drop_r3 : List Cond := [Cond.methodLink RX2 3 objectInit, Cond.fieldLink RX2 9 "AnchoredNotes$Note" "target" "I", Cond.classLink RX2 15 RX6, Cond.fieldLink RX2 20 "AnchoredNotes$Note" "words" "LAnchoredNotes$Row;", Cond.fieldLink RX2 24 "AnchoredNotes$Note" "ahead" "LAnchoredNotes$Row;", Cond.fieldLink RX2 27 "AnchoredNotes$Note" "behind" "LAnchoredNotes$Row;", Cond.methodLink RX2 17 yX6_init, Cond.methodLink RX0 22 yX4_copyFrom, Cond.instanceMethod yX4_copyFrom, Cond.selects RX4 yX4_copyFrom yX4_copyFrom, Cond.code yX4_copyFrom cX4_copyFrom 5 none, Cond.fieldLink RX4 47 "AnchoredNotes$Page" "noteCount" "I", Cond.methodLink RX4 43 yX6_copyFrom, Cond.instanceMethod yX6_copyFrom, Cond.selects RX6 yX6_copyFrom yX6_copyFrom, Cond.code yX6_copyFrom cX6_copyFrom 2 none, Cond.methodLink RX6 37 Lib.Math.min.name, Cond.static Lib.Math.min.name, Cond.initialized "java/lang/Math", Cond.code Lib.Math.min.name Lib.Math.min.code 2 (some .int), Cond.methodLink RX6 23 arraycopyName, Cond.native arraycopyName, Cond.static arraycopyName, Cond.initialized "java/lang/System"]
def wsX8_drop_r4 : List Cond := [Cond.methodLink RX4 51 yX4_find, Cond.instanceMethod yX4_find, Cond.selects RX4 yX4_find yX4_find, Cond.code yX4_find cX4_find 2 (some (.object "AnchoredNotes$Note")), Cond.methodLink RX4 55 yX2_copyFrom, Cond.instanceMethod yX2_copyFrom, Cond.selects RX2 yX2_copyFrom yX2_copyFrom, Cond.code yX2_copyFrom cX2_copyFrom 2 none, Cond.methodLink RX2 37 yX6_copyFrom, Cond.methodLink RX8 85 yX4_dropFamily, Cond.instanceMethod yX4_dropFamily, Cond.selects RX4 yX4_dropFamily yX4_dropFamily, Cond.code yX4_dropFamily cX4_dropFamily 4 (some .int), Cond.methodLink RX4 115 yX4_family, Cond.instanceMethod yX4_family, Cond.selects RX4 yX4_family yX4_family, Cond.code yX4_family cX4_family 5 (some .int), Cond.fieldLink RX4 125 "AnchoredNotes$Note" "target" "I", Cond.static yX8_isIn, Cond.initialized RX8, Cond.code yX8_isIn cX8_isIn 2 (some .boolean), Cond.methodLink RX4 122 yX4_remove, Cond.instanceMethod yX4_remove, Cond.selects RX4 yX4_remove yX4_remove]
def wsX8_drop_r5 : List Cond := [Cond.code yX4_remove cX4_remove 6 none, Cond.fieldLink RX4 76 "AnchoredNotes$Row" "length" "I", Cond.methodLink RX4 69 yX6_item, Cond.instanceMethod yX6_item, Cond.selects RX6 yX6_item yX6_item, Cond.code yX6_item cX6_item 2 (some .int), Cond.methodLink RX4 72 yX6_replace, Cond.instanceMethod yX6_replace, Cond.selects RX6 yX6_replace yX6_replace, Cond.code yX6_replace cX6_replace 3 none, Cond.methodLink RX6 19 yX6_has, Cond.instanceMethod yX6_has, Cond.selects RX6 yX6_has yX6_has, Cond.code yX6_has cX6_has 2 (some .boolean), Cond.methodLink RX4 89 yJ6_bitCount_0f7a4, Cond.static yJ6_bitCount_0f7a4, Cond.initialized RJ6, Cond.code yJ6_bitCount_0f7a4 cJ6_bitCount_0f7a4 1 (some .int), Cond.constant RJ6 265 (1431655765), Cond.constant RJ6 266 (858993459), Cond.constant RJ6 267 (252645135), Cond.methodLink RX8 65 yX0_confirm, Cond.instanceMethod yX0_confirm, Cond.selects RX0 yX0_confirm yX0_confirm]
def wsX8_drop_r6 : List Cond := [Cond.code yX0_confirm cX0_confirm 2 (some .int), Cond.methodLink RX0 26 yX0_forgetOldest, Cond.instanceMethod yX0_forgetOldest, Cond.selects RX0 yX0_forgetOldest yX0_forgetOldest, Cond.code yX0_forgetOldest cX0_forgetOldest 3 none]
def wsX8_drop : List Cond := .code yX8_drop cX8_drop 2 (some .int) :: ((wsX8_drop_r1 ++ (wsX8_drop_r2 ++ (wsX8_drop_r3 ++ (wsX8_drop_r4 ++ (wsX8_drop_r5 ++ wsX8_drop_r6))))) ++ wsX80 ++ wsX00 ++ wsX40 ++ wsX60 ++ wsX50 ++ wsX20)
def wsX8_reclaim_r1 : List Cond := [Cond.fieldLink RX8 49 "AnchoredNotes" "history" "LAnchoredNotes$History;", Cond.fieldLink RX8 10 "AnchoredNotes" "page" "LAnchoredNotes$Page;", Cond.fieldLink RX8 26 "AnchoredNotes" "search" "LAnchoredNotes$Search;", Cond.methodLink RX8 57 yX0_keep, Cond.instanceMethod yX0_keep, Cond.selects RX0 yX0_keep yX0_keep, Cond.initialized RX0, Cond.code yX0_keep cX0_keep 3 none, Cond.fieldLink RX0 17 "AnchoredNotes$History" "size" "I", Cond.fieldLink RX0 11 "AnchoredNotes$History" "states" "[LAnchoredNotes$Page;", Cond.classLink RX0 9 RX4, Cond.instantiable RX4 6, Cond.initialized RX4, Cond.methodLink RX0 21 yX4_init, Cond.instanceMethod yX4_init, Cond.code yX4_init cX4_init 2 none, Cond.methodLink RX4 3 objectInit, Cond.instanceMethod objectInit, Cond.code objectInit ⟨#[0xb1]⟩ 1 none, Cond.classLink RX4 9 RX6, Cond.instantiable RX6 2, Cond.initialized RX6, Cond.fieldLink RX4 14 "AnchoredNotes$Page" "settings" "LAnchoredNotes$Row;", Cond.fieldLink RX4 20 "AnchoredNotes$Page" "letters" "LAnchoredNotes$Row;"]
def wsX8_reclaim_r2 : List Cond := [Cond.fieldLink RX4 23 "AnchoredNotes$Page" "owners" "LAnchoredNotes$Row;", Cond.classLink RX4 26 RX2, Cond.fieldLink RX4 28 "AnchoredNotes$Page" "notes" "[LAnchoredNotes$Note;", Cond.classLink RX4 32 RX5, Cond.instantiable RX5 4, Cond.initialized RX5, Cond.fieldLink RX4 35 "AnchoredNotes$Page" "pieces" "LAnchoredNotes$Pieces;", Cond.instantiable RX2 4, Cond.initialized RX2, Cond.methodLink RX4 11 yX6_init, Cond.instanceMethod yX6_init, Cond.code yX6_init cX6_init 2 none, Cond.methodLink RX6 3 objectInit, Cond.arrayClass .int, Cond.fieldLink RX6 9 "AnchoredNotes$Row" "items" "[I", Cond.instanceMethod yX5_init, Cond.code yX5_init cX5_init 1 none, Cond.methodLink RX5 3 objectInit, Cond.methodLink RX4 39 yX6_add, Cond.instanceMethod yX6_add, Cond.selects RX6 yX6_add yX6_add, Cond.code yX6_add cX6_add 2 none, Cond.fieldLink RX6 15 "AnchoredNotes$Row" "length" "I", Cond.instanceMethod yX2_init]
def wsX8_reclaim_r3 : List Cond := [Cond.code yX2_init cX2_init 1 none, Cond.methodLink RX2 3 objectInit, Cond.fieldLink RX2 9 "AnchoredNotes$Note" "target" "I", Cond.classLink RX2 15 RX6, Cond.fieldLink RX2 20 "AnchoredNotes$Note" "words" "LAnchoredNotes$Row;", Cond.fieldLink RX2 24 "AnchoredNotes$Note" "ahead" "LAnchoredNotes$Row;", Cond.fieldLink RX2 27 "AnchoredNotes$Note" "behind" "LAnchoredNotes$Row;", Cond.methodLink RX2 17 yX6_init, Cond.methodLink RX0 22 yX4_copyFrom, Cond.instanceMethod yX4_copyFrom, Cond.selects RX4 yX4_copyFrom yX4_copyFrom, Cond.code yX4_copyFrom cX4_copyFrom 5 none, Cond.fieldLink RX4 47 "AnchoredNotes$Page" "noteCount" "I", Cond.methodLink RX4 43 yX6_copyFrom, Cond.instanceMethod yX6_copyFrom, Cond.selects RX6 yX6_copyFrom yX6_copyFrom, Cond.code yX6_copyFrom cX6_copyFrom 2 none, Cond.methodLink RX6 37 Lib.Math.min.name, Cond.static Lib.Math.min.name, Cond.initialized "java/lang/Math", Cond.code Lib.Math.min.name Lib.Math.min.code 2 (some .int), Cond.methodLink RX6 23 arraycopyName, Cond.native arraycopyName, Cond.static arraycopyName]
def wsX8_reclaim_r4 : List Cond := [Cond.initialized "java/lang/System", Cond.methodLink RX4 51 yX4_find, Cond.instanceMethod yX4_find, Cond.selects RX4 yX4_find yX4_find, Cond.code yX4_find cX4_find 2 (some (.object "AnchoredNotes$Note")), Cond.methodLink RX4 55 yX2_copyFrom, Cond.instanceMethod yX2_copyFrom, Cond.selects RX2 yX2_copyFrom yX2_copyFrom, Cond.code yX2_copyFrom cX2_copyFrom 2 none, Cond.methodLink RX2 37 yX6_copyFrom, Cond.methodLink RX8 88 yX4_reclaimNote, Cond.instanceMethod yX4_reclaimNote, Cond.selects RX4 yX4_reclaimNote yX4_reclaimNote, Cond.code yX4_reclaimNote cX4_reclaimNote 4 (some .int), Cond.fieldLink RX4 137 "AnchoredNotes$Search" "places" "I", Cond.fieldLink RX4 140 "AnchoredNotes$Search" "place" "I", Cond.fieldLink RX4 143 "AnchoredNotes$Note" "words" "LAnchoredNotes$Row;", Cond.fieldLink RX4 76 "AnchoredNotes$Row" "length" "I", Cond.methodLink RX4 128 yX4_state, Cond.instanceMethod yX4_state, Cond.selects RX4 yX4_state yX4_state, Cond.code yX4_state cX4_state 3 (some .int), Cond.fieldLink RX4 154 "AnchoredNotes$Pieces" "letters" "I", Cond.methodLink RX4 146 yX2_isReply]
def wsX8_reclaim_r5 : List Cond := [Cond.instanceMethod yX2_isReply, Cond.selects RX2 yX2_isReply yX2_isReply, Cond.code yX2_isReply cX2_isReply 1 (some .boolean), Cond.methodLink RX4 150 yX4_piecesOf, Cond.instanceMethod yX4_piecesOf, Cond.selects RX4 yX4_piecesOf yX4_piecesOf, Cond.code yX4_piecesOf cX4_piecesOf 2 (some (.object "AnchoredNotes$Pieces")), Cond.methodLink RX4 156 yX5_gather, Cond.instanceMethod yX5_gather, Cond.selects RX5 yX5_gather yX5_gather, Cond.code yX5_gather cX5_gather 7 none, Cond.fieldLink RX5 9 "AnchoredNotes$Pieces" "pieces" "I", Cond.fieldLink RX5 15 "AnchoredNotes$Pieces" "letters" "I", Cond.fieldLink RX5 18 "AnchoredNotes$Pieces" "first" "I", Cond.fieldLink RX5 21 "AnchoredNotes$Pieces" "last" "I", Cond.fieldLink RX5 24 "AnchoredNotes$Row" "length" "I", Cond.methodLink RX5 29 yX6_item, Cond.instanceMethod yX6_item, Cond.selects RX6 yX6_item yX6_item, Cond.code yX6_item cX6_item 2 (some .int), Cond.static yX8_isIn, Cond.initialized RX8, Cond.code yX8_isIn cX8_isIn 2 (some .boolean), Cond.methodLink RX4 131 yX7_look]
def wsX8_reclaim_r6 : List Cond := [Cond.instanceMethod yX7_look, Cond.selects RX7 yX7_look yX7_look, Cond.initialized RX7, Cond.code yX7_look cX7_look 6 none, Cond.fieldLink RX7 9 "AnchoredNotes$Search" "place" "I", Cond.fieldLink RX7 15 "AnchoredNotes$Search" "likeness" "I", Cond.fieldLink RX7 18 "AnchoredNotes$Search" "places" "I", Cond.fieldLink RX7 21 "AnchoredNotes$Note" "words" "LAnchoredNotes$Row;", Cond.fieldLink RX7 27 "AnchoredNotes$Row" "length" "I", Cond.fieldLink RX7 36 "AnchoredNotes$Note" "ahead" "LAnchoredNotes$Row;", Cond.fieldLink RX7 39 "AnchoredNotes$Note" "behind" "LAnchoredNotes$Row;", Cond.methodLink RX7 32 yX6_countAlike, Cond.instanceMethod yX6_countAlike, Cond.selects RX6 yX6_countAlike yX6_countAlike, Cond.code yX6_countAlike cX6_countAlike 5 (some .int), Cond.methodLink RX6 46 yX6_item, Cond.methodLink RX4 105 yX4_anchor, Cond.instanceMethod yX4_anchor, Cond.selects RX4 yX4_anchor yX4_anchor, Cond.code yX4_anchor cX4_anchor 6 none, Cond.methodLink RX4 69 yX6_item, Cond.methodLink RX4 108 yX2_remember, Cond.instanceMethod yX2_remember, Cond.selects RX2 yX2_remember yX2_remember]
def wsX8_reclaim_r7 : List Cond := [Cond.code yX2_remember cX2_remember 5 none, Cond.methodLink RX2 33 yX6_copyPart, Cond.instanceMethod yX6_copyPart, Cond.selects RX6 yX6_copyPart yX6_copyPart, Cond.code yX6_copyPart cX6_copyPart 6 none, Cond.methodLink RX6 43 yX6_clear, Cond.instanceMethod yX6_clear, Cond.selects RX6 yX6_clear yX6_clear, Cond.code yX6_clear cX6_clear 1 none, Cond.methodLink RX6 19 yX6_has, Cond.instanceMethod yX6_has, Cond.selects RX6 yX6_has yX6_has, Cond.code yX6_has cX6_has 2 (some .boolean), Cond.methodLink RX6 50 yX6_add, Cond.methodLink RX4 72 yX6_replace, Cond.instanceMethod yX6_replace, Cond.selects RX6 yX6_replace yX6_replace, Cond.code yX6_replace cX6_replace 3 none, Cond.methodLink RX8 65 yX0_confirm, Cond.instanceMethod yX0_confirm, Cond.selects RX0 yX0_confirm yX0_confirm, Cond.code yX0_confirm cX0_confirm 2 (some .int), Cond.methodLink RX0 26 yX0_forgetOldest, Cond.instanceMethod yX0_forgetOldest]
def wsX8_reclaim_r8 : List Cond := [Cond.selects RX0 yX0_forgetOldest yX0_forgetOldest, Cond.code yX0_forgetOldest cX0_forgetOldest 3 none]
def wsX8_reclaim : List Cond := .code yX8_reclaim cX8_reclaim 2 (some .int) :: ((wsX8_reclaim_r1 ++ (wsX8_reclaim_r2 ++ (wsX8_reclaim_r3 ++ (wsX8_reclaim_r4 ++ (wsX8_reclaim_r5 ++ (wsX8_reclaim_r6 ++ (wsX8_reclaim_r7 ++ wsX8_reclaim_r8))))))) ++ wsX80 ++ wsX00 ++ wsX40 ++ wsX60 ++ wsX50 ++ wsX20 ++ wsX70)
def wsX8_letter : List Cond := .code yX8_letter cX8_letter 2 (some .int) :: ([.fieldLink RX8 10 "AnchoredNotes" "page" "LAnchoredNotes$Page;", .fieldLink RX8 92 "AnchoredNotes$Page" "letters" "LAnchoredNotes$Row;", .methodLink RX8 95 yX6_item, .instanceMethod yX6_item, .selects RX6 yX6_item yX6_item, .initialized RX6, .code yX6_item cX6_item 2 (some .int), .fieldLink RX6 15 "AnchoredNotes$Row" "length" "I", .fieldLink RX6 9 "AnchoredNotes$Row" "items" "[I"] ++ wsX80 ++ wsX40 ++ wsX60)
def wsX8_of_r1 : List Cond := [Cond.fieldLink RX8 10 "AnchoredNotes" "page" "LAnchoredNotes$Page;", Cond.fieldLink RX8 112 "AnchoredNotes$Pieces" "first" "I", Cond.fieldLink RX8 118 "AnchoredNotes$Pieces" "last" "I", Cond.fieldLink RX8 127 "AnchoredNotes$Note" "words" "LAnchoredNotes$Row;", Cond.fieldLink RX8 130 "AnchoredNotes$Row" "length" "I", Cond.fieldLink RX8 133 "AnchoredNotes$Pieces" "letters" "I", Cond.fieldLink RX8 135 "AnchoredNotes$Pieces" "pieces" "I", Cond.fieldLink RX8 138 "AnchoredNotes$Note" "target" "I", Cond.methodLink RX8 98 yX4_find, Cond.instanceMethod yX4_find, Cond.selects RX4 yX4_find yX4_find, Cond.initialized RX4, Cond.code yX4_find cX4_find 2 (some (.object "AnchoredNotes$Note")), Cond.fieldLink RX4 47 "AnchoredNotes$Page" "noteCount" "I", Cond.fieldLink RX4 28 "AnchoredNotes$Page" "notes" "[LAnchoredNotes$Note;", Cond.methodLink RX8 102 yX4_state, Cond.instanceMethod yX4_state, Cond.selects RX4 yX4_state yX4_state, Cond.code yX4_state cX4_state 3 (some .int), Cond.fieldLink RX4 154 "AnchoredNotes$Pieces" "letters" "I", Cond.methodLink RX4 51 yX4_find, Cond.methodLink RX4 146 yX2_isReply, Cond.instanceMethod yX2_isReply, Cond.selects RX2 yX2_isReply yX2_isReply]
def wsX8_of_r2 : List Cond := [Cond.initialized RX2, Cond.code yX2_isReply cX2_isReply 1 (some .boolean), Cond.fieldLink RX2 9 "AnchoredNotes$Note" "target" "I", Cond.methodLink RX4 150 yX4_piecesOf, Cond.instanceMethod yX4_piecesOf, Cond.selects RX4 yX4_piecesOf yX4_piecesOf, Cond.code yX4_piecesOf cX4_piecesOf 2 (some (.object "AnchoredNotes$Pieces")), Cond.fieldLink RX4 35 "AnchoredNotes$Page" "pieces" "LAnchoredNotes$Pieces;", Cond.fieldLink RX4 23 "AnchoredNotes$Page" "owners" "LAnchoredNotes$Row;", Cond.methodLink RX4 156 yX5_gather, Cond.instanceMethod yX5_gather, Cond.selects RX5 yX5_gather yX5_gather, Cond.initialized RX5, Cond.code yX5_gather cX5_gather 7 none, Cond.fieldLink RX5 9 "AnchoredNotes$Pieces" "pieces" "I", Cond.fieldLink RX5 15 "AnchoredNotes$Pieces" "letters" "I", Cond.fieldLink RX5 18 "AnchoredNotes$Pieces" "first" "I", Cond.fieldLink RX5 21 "AnchoredNotes$Pieces" "last" "I", Cond.fieldLink RX5 24 "AnchoredNotes$Row" "length" "I", Cond.methodLink RX5 29 yX6_item, Cond.instanceMethod yX6_item, Cond.selects RX6 yX6_item yX6_item, Cond.initialized RX6, Cond.code yX6_item cX6_item 2 (some .int)]
def wsX8_of_r3 : List Cond := [Cond.fieldLink RX6 15 "AnchoredNotes$Row" "length" "I", Cond.fieldLink RX6 9 "AnchoredNotes$Row" "items" "[I", Cond.static yX8_isIn, Cond.initialized RX8, Cond.code yX8_isIn cX8_isIn 2 (some .boolean), Cond.methodLink RX8 105 yX4_root, Cond.instanceMethod yX4_root, Cond.selects RX4 yX4_root yX4_root, Cond.code yX4_root cX4_root 5 (some .int), Cond.fieldLink RX4 125 "AnchoredNotes$Note" "target" "I", Cond.methodLink RX4 160 yX4_depth, Cond.instanceMethod yX4_depth, Cond.selects RX4 yX4_depth yX4_depth, Cond.code yX4_depth cX4_depth 4 (some .int), Cond.methodLink RX8 108 yX4_piecesOf, Cond.methodLink RX8 121 yX2_isReply, Cond.methodLink RX8 141 yX4_family, Cond.instanceMethod yX4_family, Cond.selects RX4 yX4_family yX4_family, Cond.code yX4_family cX4_family 5 (some .int), Cond.methodLink RX8 144 yJ6_bitCount_0f7a4, Cond.static yJ6_bitCount_0f7a4, Cond.initialized RJ6, Cond.code yJ6_bitCount_0f7a4 cJ6_bitCount_0f7a4 1 (some .int)]
def wsX8_of_r4 : List Cond := [Cond.constant RJ6 265 (1431655765), Cond.constant RJ6 266 (858993459), Cond.constant RJ6 267 (252645135), Cond.methodLink RX8 149 yX4_depth]
def wsX8_of : List Cond := .code yX8_of cX8_of 4 (some .int) :: ((wsX8_of_r1 ++ (wsX8_of_r2 ++ (wsX8_of_r3 ++ wsX8_of_r4))) ++ wsX80 ++ wsX50 ++ wsX20 ++ wsX60 ++ wsX40)
def wsX8_word : List Cond := .code yX8_word cX8_word 4 (some .int) :: ([.fieldLink RX8 10 "AnchoredNotes" "page" "LAnchoredNotes$Page;", .fieldLink RX8 127 "AnchoredNotes$Note" "words" "LAnchoredNotes$Row;", .methodLink RX8 98 yX4_find, .instanceMethod yX4_find, .selects RX4 yX4_find yX4_find, .initialized RX4, .code yX4_find cX4_find 2 (some (.object "AnchoredNotes$Note")), .fieldLink RX4 47 "AnchoredNotes$Page" "noteCount" "I", .fieldLink RX4 28 "AnchoredNotes$Page" "notes" "[LAnchoredNotes$Note;", .methodLink RX8 121 yX2_isReply, .instanceMethod yX2_isReply, .selects RX2 yX2_isReply yX2_isReply, .initialized RX2, .code yX2_isReply cX2_isReply 1 (some .boolean), .fieldLink RX2 9 "AnchoredNotes$Note" "target" "I", .methodLink RX8 95 yX6_item, .instanceMethod yX6_item, .selects RX6 yX6_item yX6_item, .initialized RX6, .code yX6_item cX6_item 2 (some .int), .fieldLink RX6 15 "AnchoredNotes$Row" "length" "I", .fieldLink RX6 9 "AnchoredNotes$Row" "items" "[I"] ++ wsX80 ++ wsX20 ++ wsX40 ++ wsX60)
def wsX8_at : List Cond := .code yX8_at cX8_at 2 (some .int) :: ([.fieldLink RX8 10 "AnchoredNotes" "page" "LAnchoredNotes$Page;", .fieldLink RX8 152 "AnchoredNotes$Page" "owners" "LAnchoredNotes$Row;", .methodLink RX8 95 yX6_item, .instanceMethod yX6_item, .selects RX6 yX6_item yX6_item, .initialized RX6, .code yX6_item cX6_item 2 (some .int), .fieldLink RX6 15 "AnchoredNotes$Row" "length" "I", .fieldLink RX6 9 "AnchoredNotes$Row" "items" "[I"] ++ wsX80 ++ wsX40 ++ wsX60)
def wsX8_printed_r1 : List Cond := [Cond.fieldLink RX8 10 "AnchoredNotes" "page" "LAnchoredNotes$Page;", Cond.fieldLink RX8 19 "AnchoredNotes" "margin" "LAnchoredNotes$Margin;", Cond.fieldLink RX8 155 "AnchoredNotes$Page" "settings" "LAnchoredNotes$Row;", Cond.fieldLink RX8 162 "AnchoredNotes$Margin" "lines" "LAnchoredNotes$Row;", Cond.fieldLink RX8 165 "AnchoredNotes$Margin" "leaders" "LAnchoredNotes$Row;", Cond.methodLink RX8 98 yX4_find, Cond.instanceMethod yX4_find, Cond.selects RX4 yX4_find yX4_find, Cond.initialized RX4, Cond.code yX4_find cX4_find 2 (some (.object "AnchoredNotes$Note")), Cond.fieldLink RX4 47 "AnchoredNotes$Page" "noteCount" "I", Cond.fieldLink RX4 28 "AnchoredNotes$Page" "notes" "[LAnchoredNotes$Note;", Cond.methodLink RX8 95 yX6_item, Cond.instanceMethod yX6_item, Cond.selects RX6 yX6_item yX6_item, Cond.initialized RX6, Cond.code yX6_item cX6_item 2 (some .int), Cond.fieldLink RX6 15 "AnchoredNotes$Row" "length" "I", Cond.fieldLink RX6 9 "AnchoredNotes$Row" "items" "[I", Cond.methodLink RX8 158 yX1_layOut, Cond.instanceMethod yX1_layOut, Cond.selects RX1 yX1_layOut yX1_layOut, Cond.initialized RX1, Cond.code yX1_layOut cX1_layOut 5 none]
def wsX8_printed_r2 : List Cond := [Cond.fieldLink RX1 32 "AnchoredNotes$Page" "noteCount" "I", Cond.fieldLink RX1 23 "AnchoredNotes$Margin" "firsts" "LAnchoredNotes$Row;", Cond.fieldLink RX1 42 "AnchoredNotes$Pieces" "first" "I", Cond.fieldLink RX1 14 "AnchoredNotes$Margin" "lines" "LAnchoredNotes$Row;", Cond.fieldLink RX1 20 "AnchoredNotes$Margin" "leaders" "LAnchoredNotes$Row;", Cond.fieldLink RX1 50 "AnchoredNotes$Page" "letters" "LAnchoredNotes$Row;", Cond.fieldLink RX1 53 "AnchoredNotes$Row" "length" "I", Cond.methodLink RX1 29 yX1_empty, Cond.instanceMethod yX1_empty, Cond.selects RX1 yX1_empty yX1_empty, Cond.code yX1_empty cX1_empty 2 none, Cond.fieldLink RX1 26 "AnchoredNotes$Margin" "used" "LAnchoredNotes$Row;", Cond.fieldLink RX1 70 "AnchoredNotes$Margin" "lastLine" "I", Cond.fieldLink RX1 73 "AnchoredNotes$Margin" "allLeaders" "I", Cond.fieldLink RX1 76 "AnchoredNotes$Margin" "longestLeader" "I", Cond.methodLink RX1 67 yX6_clear, Cond.instanceMethod yX6_clear, Cond.selects RX6 yX6_clear yX6_clear, Cond.code yX6_clear cX6_clear 1 none, Cond.methodLink RX1 47 yX6_add, Cond.instanceMethod yX6_add, Cond.selects RX6 yX6_add yX6_add, Cond.code yX6_add cX6_add 2 none, Cond.methodLink RX1 38 yX4_piecesOf]
def wsX8_printed_r3 : List Cond := [Cond.instanceMethod yX4_piecesOf, Cond.selects RX4 yX4_piecesOf yX4_piecesOf, Cond.code yX4_piecesOf cX4_piecesOf 2 (some (.object "AnchoredNotes$Pieces")), Cond.fieldLink RX4 35 "AnchoredNotes$Page" "pieces" "LAnchoredNotes$Pieces;", Cond.fieldLink RX4 23 "AnchoredNotes$Page" "owners" "LAnchoredNotes$Row;", Cond.methodLink RX4 156 yX5_gather, Cond.instanceMethod yX5_gather, Cond.selects RX5 yX5_gather yX5_gather, Cond.initialized RX5, Cond.code yX5_gather cX5_gather 7 none, Cond.fieldLink RX5 9 "AnchoredNotes$Pieces" "pieces" "I", Cond.fieldLink RX5 15 "AnchoredNotes$Pieces" "letters" "I", Cond.fieldLink RX5 18 "AnchoredNotes$Pieces" "first" "I", Cond.fieldLink RX5 21 "AnchoredNotes$Pieces" "last" "I", Cond.fieldLink RX5 24 "AnchoredNotes$Row" "length" "I", Cond.methodLink RX5 29 yX6_item, Cond.static yX8_isIn, Cond.initialized RX8, Cond.code yX8_isIn cX8_isIn 2 (some .boolean), Cond.methodLink RX1 56 yX6_item, Cond.methodLink RX1 60 yX4_lineOf, Cond.instanceMethod yX4_lineOf, Cond.selects RX4 yX4_lineOf yX4_lineOf, Cond.code yX4_lineOf cX4_lineOf 3 (some .int)]
def wsX8_printed_r4 : List Cond := [Cond.fieldLink RX4 14 "AnchoredNotes$Page" "settings" "LAnchoredNotes$Row;", Cond.methodLink RX4 69 yX6_item, Cond.methodLink RX1 63 yX1_print, Cond.instanceMethod yX1_print, Cond.selects RX1 yX1_print yX1_print, Cond.code yX1_print cX1_print 5 none, Cond.methodLink RX1 83 Lib.Math.max.name, Cond.static Lib.Math.max.name, Cond.initialized "java/lang/Math", Cond.code Lib.Math.max.name Lib.Math.max.code 2 (some .int), Cond.methodLink RX1 79 yX6_replace, Cond.instanceMethod yX6_replace, Cond.selects RX6 yX6_replace yX6_replace, Cond.code yX6_replace cX6_replace 3 none, Cond.methodLink RX6 19 yX6_has, Cond.instanceMethod yX6_has, Cond.selects RX6 yX6_has yX6_has, Cond.code yX6_has cX6_has 2 (some .boolean)]
def wsX8_printed : List Cond := .code yX8_printed cX8_printed 3 (some .int) :: ((wsX8_printed_r1 ++ (wsX8_printed_r2 ++ (wsX8_printed_r3 ++ wsX8_printed_r4))) ++ wsX80 ++ wsX40 ++ wsX10 ++ wsX60 ++ wsX50)
def wsX8_count_r1 : List Cond := [Cond.fieldLink RX8 10 "AnchoredNotes" "page" "LAnchoredNotes$Page;", Cond.fieldLink RX8 92 "AnchoredNotes$Page" "letters" "LAnchoredNotes$Row;", Cond.fieldLink RX8 130 "AnchoredNotes$Row" "length" "I", Cond.fieldLink RX8 168 "AnchoredNotes$Page" "noteCount" "I", Cond.fieldLink RX8 19 "AnchoredNotes" "margin" "LAnchoredNotes$Margin;", Cond.fieldLink RX8 155 "AnchoredNotes$Page" "settings" "LAnchoredNotes$Row;", Cond.fieldLink RX8 181 "AnchoredNotes$Margin" "lastLine" "I", Cond.fieldLink RX8 184 "AnchoredNotes$Margin" "allLeaders" "I", Cond.fieldLink RX8 35 "AnchoredNotes" "pad" "LAnchoredNotes$Row;", Cond.fieldLink RX8 49 "AnchoredNotes" "history" "LAnchoredNotes$History;", Cond.fieldLink RX8 187 "AnchoredNotes$History" "size" "I", Cond.methodLink RX8 171 yX4_countState, Cond.instanceMethod yX4_countState, Cond.selects RX4 yX4_countState yX4_countState, Cond.initialized RX4, Cond.code yX4_countState cX4_countState 4 (some .int), Cond.fieldLink RX4 47 "AnchoredNotes$Page" "noteCount" "I", Cond.methodLink RX4 128 yX4_state, Cond.instanceMethod yX4_state, Cond.selects RX4 yX4_state yX4_state, Cond.code yX4_state cX4_state 3 (some .int), Cond.fieldLink RX4 154 "AnchoredNotes$Pieces" "letters" "I", Cond.methodLink RX4 51 yX4_find, Cond.instanceMethod yX4_find]
def wsX8_count_r2 : List Cond := [Cond.selects RX4 yX4_find yX4_find, Cond.code yX4_find cX4_find 2 (some (.object "AnchoredNotes$Note")), Cond.fieldLink RX4 28 "AnchoredNotes$Page" "notes" "[LAnchoredNotes$Note;", Cond.methodLink RX4 146 yX2_isReply, Cond.instanceMethod yX2_isReply, Cond.selects RX2 yX2_isReply yX2_isReply, Cond.initialized RX2, Cond.code yX2_isReply cX2_isReply 1 (some .boolean), Cond.fieldLink RX2 9 "AnchoredNotes$Note" "target" "I", Cond.methodLink RX4 150 yX4_piecesOf, Cond.instanceMethod yX4_piecesOf, Cond.selects RX4 yX4_piecesOf yX4_piecesOf, Cond.code yX4_piecesOf cX4_piecesOf 2 (some (.object "AnchoredNotes$Pieces")), Cond.fieldLink RX4 35 "AnchoredNotes$Page" "pieces" "LAnchoredNotes$Pieces;", Cond.fieldLink RX4 23 "AnchoredNotes$Page" "owners" "LAnchoredNotes$Row;", Cond.methodLink RX4 156 yX5_gather, Cond.instanceMethod yX5_gather, Cond.selects RX5 yX5_gather yX5_gather, Cond.initialized RX5, Cond.code yX5_gather cX5_gather 7 none, Cond.fieldLink RX5 9 "AnchoredNotes$Pieces" "pieces" "I", Cond.fieldLink RX5 15 "AnchoredNotes$Pieces" "letters" "I", Cond.fieldLink RX5 18 "AnchoredNotes$Pieces" "first" "I", Cond.fieldLink RX5 21 "AnchoredNotes$Pieces" "last" "I"]
def wsX8_count_r3 : List Cond := [Cond.fieldLink RX5 24 "AnchoredNotes$Row" "length" "I", Cond.methodLink RX5 29 yX6_item, Cond.instanceMethod yX6_item, Cond.selects RX6 yX6_item yX6_item, Cond.initialized RX6, Cond.code yX6_item cX6_item 2 (some .int), Cond.fieldLink RX6 15 "AnchoredNotes$Row" "length" "I", Cond.fieldLink RX6 9 "AnchoredNotes$Row" "items" "[I", Cond.static yX8_isIn, Cond.initialized RX8, Cond.code yX8_isIn cX8_isIn 2 (some .boolean), Cond.methodLink RX8 174 yX4_countParted, Cond.instanceMethod yX4_countParted, Cond.selects RX4 yX4_countParted yX4_countParted, Cond.code yX4_countParted cX4_countParted 3 (some .int), Cond.fieldLink RX4 163 "AnchoredNotes$Pieces" "pieces" "I", Cond.methodLink RX8 178 yX4_countLines, Cond.instanceMethod yX4_countLines, Cond.selects RX4 yX4_countLines yX4_countLines, Cond.code yX4_countLines cX4_countLines 1 (some .int), Cond.fieldLink RX4 20 "AnchoredNotes$Page" "letters" "LAnchoredNotes$Row;", Cond.fieldLink RX4 76 "AnchoredNotes$Row" "length" "I", Cond.methodLink RX4 165 yX4_lineOf, Cond.instanceMethod yX4_lineOf]
def wsX8_count_r4 : List Cond := [Cond.selects RX4 yX4_lineOf yX4_lineOf, Cond.code yX4_lineOf cX4_lineOf 3 (some .int), Cond.fieldLink RX4 14 "AnchoredNotes$Page" "settings" "LAnchoredNotes$Row;", Cond.methodLink RX4 69 yX6_item, Cond.methodLink RX8 95 yX6_item, Cond.methodLink RX8 158 yX1_layOut, Cond.instanceMethod yX1_layOut, Cond.selects RX1 yX1_layOut yX1_layOut, Cond.initialized RX1, Cond.code yX1_layOut cX1_layOut 5 none, Cond.fieldLink RX1 32 "AnchoredNotes$Page" "noteCount" "I", Cond.fieldLink RX1 23 "AnchoredNotes$Margin" "firsts" "LAnchoredNotes$Row;", Cond.fieldLink RX1 42 "AnchoredNotes$Pieces" "first" "I", Cond.fieldLink RX1 14 "AnchoredNotes$Margin" "lines" "LAnchoredNotes$Row;", Cond.fieldLink RX1 20 "AnchoredNotes$Margin" "leaders" "LAnchoredNotes$Row;", Cond.fieldLink RX1 50 "AnchoredNotes$Page" "letters" "LAnchoredNotes$Row;", Cond.fieldLink RX1 53 "AnchoredNotes$Row" "length" "I", Cond.methodLink RX1 29 yX1_empty, Cond.instanceMethod yX1_empty, Cond.selects RX1 yX1_empty yX1_empty, Cond.code yX1_empty cX1_empty 2 none, Cond.fieldLink RX1 26 "AnchoredNotes$Margin" "used" "LAnchoredNotes$Row;", Cond.fieldLink RX1 70 "AnchoredNotes$Margin" "lastLine" "I", Cond.fieldLink RX1 73 "AnchoredNotes$Margin" "allLeaders" "I"]
def wsX8_count_r5 : List Cond := [Cond.fieldLink RX1 76 "AnchoredNotes$Margin" "longestLeader" "I", Cond.methodLink RX1 67 yX6_clear, Cond.instanceMethod yX6_clear, Cond.selects RX6 yX6_clear yX6_clear, Cond.code yX6_clear cX6_clear 1 none, Cond.methodLink RX1 47 yX6_add, Cond.instanceMethod yX6_add, Cond.selects RX6 yX6_add yX6_add, Cond.code yX6_add cX6_add 2 none, Cond.methodLink RX1 38 yX4_piecesOf, Cond.methodLink RX1 56 yX6_item, Cond.methodLink RX1 60 yX4_lineOf, Cond.methodLink RX1 63 yX1_print, Cond.instanceMethod yX1_print, Cond.selects RX1 yX1_print yX1_print, Cond.code yX1_print cX1_print 5 none, Cond.methodLink RX1 83 Lib.Math.max.name, Cond.static Lib.Math.max.name, Cond.initialized "java/lang/Math", Cond.code Lib.Math.max.name Lib.Math.max.code 2 (some .int), Cond.methodLink RX1 79 yX6_replace, Cond.instanceMethod yX6_replace, Cond.selects RX6 yX6_replace yX6_replace, Cond.code yX6_replace cX6_replace 3 none]
def wsX8_count_r6 : List Cond := [Cond.methodLink RX6 19 yX6_has, Cond.instanceMethod yX6_has, Cond.selects RX6 yX6_has yX6_has, Cond.code yX6_has cX6_has 2 (some .boolean)]
def wsX8_count : List Cond := .code yX8_count cX8_count 2 (some .int) :: ((wsX8_count_r1 ++ (wsX8_count_r2 ++ (wsX8_count_r3 ++ (wsX8_count_r4 ++ (wsX8_count_r5 ++ wsX8_count_r6))))) ++ wsX80 ++ wsX40 ++ wsX60 ++ wsX10 ++ wsX00 ++ wsX50 ++ wsX20)
def wsX8_orphansIf : List Cond := .code yX8_orphansIf cX8_orphansIf 3 (some .int) :: ([.fieldLink RX8 10 "AnchoredNotes" "page" "LAnchoredNotes$Page;", .methodLink RX8 190 yX4_orphanedBy, .instanceMethod yX4_orphanedBy, .selects RX4 yX4_orphanedBy yX4_orphanedBy, .initialized RX4, .code yX4_orphanedBy cX4_orphanedBy 7 (some .int), .fieldLink RX4 23 "AnchoredNotes$Page" "owners" "LAnchoredNotes$Row;", .fieldLink RX4 76 "AnchoredNotes$Row" "length" "I", .methodLink RX4 94 yX4_passageError, .instanceMethod yX4_passageError, .selects RX4 yX4_passageError yX4_passageError, .code yX4_passageError cX4_passageError 3 (some .int), .fieldLink RX4 20 "AnchoredNotes$Page" "letters" "LAnchoredNotes$Row;", .methodLink RX4 58 yX6_has, .instanceMethod yX6_has, .selects RX6 yX6_has yX6_has, .initialized RX6, .code yX6_has cX6_has 2 (some .boolean), .fieldLink RX6 15 "AnchoredNotes$Row" "length" "I", .fieldLink RX6 9 "AnchoredNotes$Row" "items" "[I", .methodLink RX4 69 yX6_item, .instanceMethod yX6_item, .selects RX6 yX6_item yX6_item, .code yX6_item cX6_item 2 (some .int)] ++ wsX80 ++ wsX40 ++ wsX60)
def wsX8_could_r1 : List Cond := [Cond.fieldLink RX8 10 "AnchoredNotes" "page" "LAnchoredNotes$Page;", Cond.fieldLink RX8 26 "AnchoredNotes" "search" "LAnchoredNotes$Search;", Cond.fieldLink RX8 92 "AnchoredNotes$Page" "letters" "LAnchoredNotes$Row;", Cond.fieldLink RX8 197 "AnchoredNotes$Search" "places" "I", Cond.fieldLink RX8 200 "AnchoredNotes$Search" "place" "I", Cond.fieldLink RX8 203 "AnchoredNotes$Search" "likeness" "I", Cond.methodLink RX8 98 yX4_find, Cond.instanceMethod yX4_find, Cond.selects RX4 yX4_find yX4_find, Cond.initialized RX4, Cond.code yX4_find cX4_find 2 (some (.object "AnchoredNotes$Note")), Cond.fieldLink RX4 47 "AnchoredNotes$Page" "noteCount" "I", Cond.fieldLink RX4 28 "AnchoredNotes$Page" "notes" "[LAnchoredNotes$Note;", Cond.methodLink RX8 102 yX4_state, Cond.instanceMethod yX4_state, Cond.selects RX4 yX4_state yX4_state, Cond.code yX4_state cX4_state 3 (some .int), Cond.fieldLink RX4 154 "AnchoredNotes$Pieces" "letters" "I", Cond.methodLink RX4 51 yX4_find, Cond.methodLink RX4 146 yX2_isReply, Cond.instanceMethod yX2_isReply, Cond.selects RX2 yX2_isReply yX2_isReply, Cond.initialized RX2, Cond.code yX2_isReply cX2_isReply 1 (some .boolean)]
def wsX8_could_r2 : List Cond := [Cond.fieldLink RX2 9 "AnchoredNotes$Note" "target" "I", Cond.methodLink RX4 150 yX4_piecesOf, Cond.instanceMethod yX4_piecesOf, Cond.selects RX4 yX4_piecesOf yX4_piecesOf, Cond.code yX4_piecesOf cX4_piecesOf 2 (some (.object "AnchoredNotes$Pieces")), Cond.fieldLink RX4 35 "AnchoredNotes$Page" "pieces" "LAnchoredNotes$Pieces;", Cond.fieldLink RX4 23 "AnchoredNotes$Page" "owners" "LAnchoredNotes$Row;", Cond.methodLink RX4 156 yX5_gather, Cond.instanceMethod yX5_gather, Cond.selects RX5 yX5_gather yX5_gather, Cond.initialized RX5, Cond.code yX5_gather cX5_gather 7 none, Cond.fieldLink RX5 9 "AnchoredNotes$Pieces" "pieces" "I", Cond.fieldLink RX5 15 "AnchoredNotes$Pieces" "letters" "I", Cond.fieldLink RX5 18 "AnchoredNotes$Pieces" "first" "I", Cond.fieldLink RX5 21 "AnchoredNotes$Pieces" "last" "I", Cond.fieldLink RX5 24 "AnchoredNotes$Row" "length" "I", Cond.methodLink RX5 29 yX6_item, Cond.instanceMethod yX6_item, Cond.selects RX6 yX6_item yX6_item, Cond.initialized RX6, Cond.code yX6_item cX6_item 2 (some .int), Cond.fieldLink RX6 15 "AnchoredNotes$Row" "length" "I", Cond.fieldLink RX6 9 "AnchoredNotes$Row" "items" "[I"]
def wsX8_could_r3 : List Cond := [Cond.static yX8_isIn, Cond.initialized RX8, Cond.code yX8_isIn cX8_isIn 2 (some .boolean), Cond.methodLink RX8 193 yX7_look, Cond.instanceMethod yX7_look, Cond.selects RX7 yX7_look yX7_look, Cond.initialized RX7, Cond.code yX7_look cX7_look 6 none, Cond.fieldLink RX7 9 "AnchoredNotes$Search" "place" "I", Cond.fieldLink RX7 15 "AnchoredNotes$Search" "likeness" "I", Cond.fieldLink RX7 18 "AnchoredNotes$Search" "places" "I", Cond.fieldLink RX7 21 "AnchoredNotes$Note" "words" "LAnchoredNotes$Row;", Cond.fieldLink RX7 27 "AnchoredNotes$Row" "length" "I", Cond.fieldLink RX7 36 "AnchoredNotes$Note" "ahead" "LAnchoredNotes$Row;", Cond.fieldLink RX7 39 "AnchoredNotes$Note" "behind" "LAnchoredNotes$Row;", Cond.methodLink RX7 32 yX6_countAlike, Cond.instanceMethod yX6_countAlike, Cond.selects RX6 yX6_countAlike yX6_countAlike, Cond.code yX6_countAlike cX6_countAlike 5 (some .int), Cond.methodLink RX6 46 yX6_item]
def wsX8_could : List Cond := .code yX8_could cX8_could 4 (some .int) :: ((wsX8_could_r1 ++ (wsX8_could_r2 ++ wsX8_could_r3)) ++ wsX80 ++ wsX40 ++ wsX70 ++ wsX50 ++ wsX20 ++ wsX60)
def wsX8_leastRoom_r1 : List Cond := [Cond.fieldLink RX8 19 "AnchoredNotes" "margin" "LAnchoredNotes$Margin;", Cond.fieldLink RX8 10 "AnchoredNotes" "page" "LAnchoredNotes$Page;", Cond.fieldLink RX8 206 "AnchoredNotes$Margin" "longestLeader" "I", Cond.methodLink RX8 158 yX1_layOut, Cond.instanceMethod yX1_layOut, Cond.selects RX1 yX1_layOut yX1_layOut, Cond.initialized RX1, Cond.code yX1_layOut cX1_layOut 5 none, Cond.fieldLink RX1 32 "AnchoredNotes$Page" "noteCount" "I", Cond.fieldLink RX1 23 "AnchoredNotes$Margin" "firsts" "LAnchoredNotes$Row;", Cond.fieldLink RX1 42 "AnchoredNotes$Pieces" "first" "I", Cond.fieldLink RX1 14 "AnchoredNotes$Margin" "lines" "LAnchoredNotes$Row;", Cond.fieldLink RX1 20 "AnchoredNotes$Margin" "leaders" "LAnchoredNotes$Row;", Cond.fieldLink RX1 50 "AnchoredNotes$Page" "letters" "LAnchoredNotes$Row;", Cond.fieldLink RX1 53 "AnchoredNotes$Row" "length" "I", Cond.methodLink RX1 29 yX1_empty, Cond.instanceMethod yX1_empty, Cond.selects RX1 yX1_empty yX1_empty, Cond.code yX1_empty cX1_empty 2 none, Cond.fieldLink RX1 26 "AnchoredNotes$Margin" "used" "LAnchoredNotes$Row;", Cond.fieldLink RX1 70 "AnchoredNotes$Margin" "lastLine" "I", Cond.fieldLink RX1 73 "AnchoredNotes$Margin" "allLeaders" "I", Cond.fieldLink RX1 76 "AnchoredNotes$Margin" "longestLeader" "I", Cond.methodLink RX1 67 yX6_clear]
def wsX8_leastRoom_r2 : List Cond := [Cond.instanceMethod yX6_clear, Cond.selects RX6 yX6_clear yX6_clear, Cond.initialized RX6, Cond.code yX6_clear cX6_clear 1 none, Cond.fieldLink RX6 15 "AnchoredNotes$Row" "length" "I", Cond.methodLink RX1 47 yX6_add, Cond.instanceMethod yX6_add, Cond.selects RX6 yX6_add yX6_add, Cond.code yX6_add cX6_add 2 none, Cond.fieldLink RX6 9 "AnchoredNotes$Row" "items" "[I", Cond.methodLink RX1 38 yX4_piecesOf, Cond.instanceMethod yX4_piecesOf, Cond.selects RX4 yX4_piecesOf yX4_piecesOf, Cond.initialized RX4, Cond.code yX4_piecesOf cX4_piecesOf 2 (some (.object "AnchoredNotes$Pieces")), Cond.fieldLink RX4 35 "AnchoredNotes$Page" "pieces" "LAnchoredNotes$Pieces;", Cond.fieldLink RX4 23 "AnchoredNotes$Page" "owners" "LAnchoredNotes$Row;", Cond.methodLink RX4 156 yX5_gather, Cond.instanceMethod yX5_gather, Cond.selects RX5 yX5_gather yX5_gather, Cond.initialized RX5, Cond.code yX5_gather cX5_gather 7 none, Cond.fieldLink RX5 9 "AnchoredNotes$Pieces" "pieces" "I", Cond.fieldLink RX5 15 "AnchoredNotes$Pieces" "letters" "I"]
def wsX8_leastRoom_r3 : List Cond := [Cond.fieldLink RX5 18 "AnchoredNotes$Pieces" "first" "I", Cond.fieldLink RX5 21 "AnchoredNotes$Pieces" "last" "I", Cond.fieldLink RX5 24 "AnchoredNotes$Row" "length" "I", Cond.methodLink RX5 29 yX6_item, Cond.instanceMethod yX6_item, Cond.selects RX6 yX6_item yX6_item, Cond.code yX6_item cX6_item 2 (some .int), Cond.static yX8_isIn, Cond.initialized RX8, Cond.code yX8_isIn cX8_isIn 2 (some .boolean), Cond.methodLink RX1 56 yX6_item, Cond.methodLink RX1 60 yX4_lineOf, Cond.instanceMethod yX4_lineOf, Cond.selects RX4 yX4_lineOf yX4_lineOf, Cond.code yX4_lineOf cX4_lineOf 3 (some .int), Cond.fieldLink RX4 14 "AnchoredNotes$Page" "settings" "LAnchoredNotes$Row;", Cond.methodLink RX4 69 yX6_item, Cond.methodLink RX1 63 yX1_print, Cond.instanceMethod yX1_print, Cond.selects RX1 yX1_print yX1_print, Cond.code yX1_print cX1_print 5 none, Cond.methodLink RX1 83 Lib.Math.max.name, Cond.static Lib.Math.max.name, Cond.initialized "java/lang/Math"]
def wsX8_leastRoom_r4 : List Cond := [Cond.code Lib.Math.max.name Lib.Math.max.code 2 (some .int), Cond.methodLink RX1 79 yX6_replace, Cond.instanceMethod yX6_replace, Cond.selects RX6 yX6_replace yX6_replace, Cond.code yX6_replace cX6_replace 3 none, Cond.methodLink RX6 19 yX6_has, Cond.instanceMethod yX6_has, Cond.selects RX6 yX6_has yX6_has, Cond.code yX6_has cX6_has 2 (some .boolean)]
def wsX8_leastRoom : List Cond := .code yX8_leastRoom cX8_leastRoom 3 (some .int) :: ((wsX8_leastRoom_r1 ++ (wsX8_leastRoom_r2 ++ (wsX8_leastRoom_r3 ++ wsX8_leastRoom_r4))) ++ wsX80 ++ wsX10 ++ wsX40 ++ wsX50 ++ wsX60)
def wsX8_countCharacters : List Cond := .code yX8_countCharacters cX8_countCharacters 6 (some .int) :: ([.constantLong RX8 213 (255)])
def wsX8_put : List Cond := .code yX8_put cX8_put 5 (some .int) :: ([.fieldLink RX8 35 "AnchoredNotes" "pad" "LAnchoredNotes$Row;", .fieldLink RX8 130 "AnchoredNotes$Row" "length" "I", .constantLong RX8 213 (255), .methodLink RX8 209 yX8_countCharacters, .static yX8_countCharacters, .initialized RX8, .code yX8_countCharacters cX8_countCharacters 6 (some .int), .methodLink RX8 215 yX6_add, .instanceMethod yX6_add, .selects RX6 yX6_add yX6_add, .initialized RX6, .code yX6_add cX6_add 2 none, .fieldLink RX6 15 "AnchoredNotes$Row" "length" "I", .fieldLink RX6 9 "AnchoredNotes$Row" "items" "[I"] ++ wsX80 ++ wsX60)
def wsX8_wipe : List Cond := .code yX8_wipe cX8_wipe 2 (some .int) :: ([.fieldLink RX8 35 "AnchoredNotes" "pad" "LAnchoredNotes$Row;", .fieldLink RX8 130 "AnchoredNotes$Row" "length" "I", .methodLink RX8 218 yX6_clear, .instanceMethod yX6_clear, .selects RX6 yX6_clear yX6_clear, .initialized RX6, .code yX6_clear cX6_clear 1 none, .fieldLink RX6 15 "AnchoredNotes$Row" "length" "I"] ++ wsX80 ++ wsX60)
def wsX8_fault_r1 : List Cond := [Cond.fieldLink RX8 42 "AnchoredNotes" "reader" "LAnchoredNotes$OrderReader;", Cond.fieldLink RX8 35 "AnchoredNotes" "pad" "LAnchoredNotes$Row;", Cond.methodLink RX8 221 yX3_findFault, Cond.instanceMethod yX3_findFault, Cond.selects RX3 yX3_findFault yX3_findFault, Cond.initialized RX3, Cond.code yX3_findFault cX3_findFault 3 (some .int), Cond.fieldLink RX3 20 "AnchoredNotes$OrderReader" "next" "I", Cond.fieldLink RX3 31 "AnchoredNotes$Row" "length" "I", Cond.methodLink RX3 24 yX3_start, Cond.instanceMethod yX3_start, Cond.selects RX3 yX3_start yX3_start, Cond.code yX3_start cX3_start 1 none, Cond.methodLink RX3 27 yX3_readOrder, Cond.instanceMethod yX3_readOrder, Cond.selects RX3 yX3_readOrder yX3_readOrder, Cond.code yX3_readOrder cX3_readOrder 2 (some .boolean), Cond.fieldLink RX3 42 "AnchoredNotes$OrderReader" "kind" "I", Cond.fieldLink RX3 14 "AnchoredNotes$OrderReader" "numbers" "LAnchoredNotes$Row;", Cond.methodLink RX3 38 yX6_item, Cond.instanceMethod yX6_item, Cond.selects RX6 yX6_item yX6_item, Cond.initialized RX6, Cond.code yX6_item cX6_item 2 (some .int)]
def wsX8_fault_r2 : List Cond := [Cond.fieldLink RX6 15 "AnchoredNotes$Row" "length" "I", Cond.fieldLink RX6 9 "AnchoredNotes$Row" "items" "[I", Cond.methodLink RX3 45 yX6_clear, Cond.instanceMethod yX6_clear, Cond.selects RX6 yX6_clear yX6_clear, Cond.code yX6_clear cX6_clear 1 none, Cond.methodLink RX3 48 yX3_readNumber, Cond.instanceMethod yX3_readNumber, Cond.selects RX3 yX3_readNumber yX3_readNumber, Cond.code yX3_readNumber cX3_readNumber 3 (some .boolean), Cond.methodLink RX3 54 yX3_isDigit, Cond.static yX3_isDigit, Cond.code yX3_isDigit cX3_isDigit 1 (some .boolean), Cond.methodLink RX3 58 yX6_add, Cond.instanceMethod yX6_add, Cond.selects RX6 yX6_add yX6_add, Cond.code yX6_add cX6_add 2 none, Cond.methodLink RX3 34 yX3_skip, Cond.instanceMethod yX3_skip, Cond.selects RX3 yX3_skip yX3_skip, Cond.code yX3_skip cX3_skip 3 (some .boolean), Cond.methodLink RX3 51 yX3_readLetters, Cond.instanceMethod yX3_readLetters, Cond.selects RX3 yX3_readLetters yX3_readLetters]
def wsX8_fault_r3 : List Cond := [Cond.code yX3_readLetters cX3_readLetters 2 (some .boolean), Cond.fieldLink RX3 61 "AnchoredNotes$OrderReader" "lettersFrom" "I", Cond.methodLink RX3 64 yX3_isLetter, Cond.static yX3_isLetter, Cond.code yX3_isLetter cX3_isLetter 1 (some .boolean)]
def wsX8_fault : List Cond := .code yX8_fault cX8_fault 1 (some .int) :: ((wsX8_fault_r1 ++ (wsX8_fault_r2 ++ wsX8_fault_r3)) ++ wsX80 ++ wsX30 ++ wsX60)
def wsX8_writeRow_r1 : List Cond := [Cond.fieldLink RX8 42 "AnchoredNotes" "reader" "LAnchoredNotes$OrderReader;", Cond.fieldLink RX8 255 "AnchoredNotes$OrderReader" "lettersFrom" "I", Cond.fieldLink RX8 258 "AnchoredNotes$OrderReader" "next" "I", Cond.fieldLink RX8 10 "AnchoredNotes" "page" "LAnchoredNotes$Page;", Cond.fieldLink RX8 35 "AnchoredNotes" "pad" "LAnchoredNotes$Row;", Cond.methodLink RX8 95 yX6_item, Cond.instanceMethod yX6_item, Cond.selects RX6 yX6_item yX6_item, Cond.initialized RX6, Cond.code yX6_item cX6_item 2 (some .int), Cond.fieldLink RX6 15 "AnchoredNotes$Row" "length" "I", Cond.fieldLink RX6 9 "AnchoredNotes$Row" "items" "[I", Cond.methodLink RX8 69 yX4_writeLetter, Cond.instanceMethod yX4_writeLetter, Cond.selects RX4 yX4_writeLetter yX4_writeLetter, Cond.initialized RX4, Cond.code yX4_writeLetter cX4_writeLetter 3 (some .int), Cond.fieldLink RX4 20 "AnchoredNotes$Page" "letters" "LAnchoredNotes$Row;", Cond.fieldLink RX4 76 "AnchoredNotes$Row" "length" "I", Cond.fieldLink RX4 23 "AnchoredNotes$Page" "owners" "LAnchoredNotes$Row;", Cond.methodLink RX4 79 yX6_insert, Cond.instanceMethod yX6_insert, Cond.selects RX6 yX6_insert yX6_insert, Cond.code yX6_insert cX6_insert 3 none]
def wsX8_writeRow_r2 : List Cond := [Cond.methodLink RX6 23 arraycopyName, Cond.native arraycopyName, Cond.static arraycopyName, Cond.initialized "java/lang/System"]
def wsX8_writeRow : List Cond := .code yX8_writeRow cX8_writeRow 4 (some .int) :: ((wsX8_writeRow_r1 ++ wsX8_writeRow_r2) ++ wsX80 ++ wsX30 ++ wsX60 ++ wsX40)
def wsX8_obey_r1 : List Cond := [Cond.fieldLink RX8 42 "AnchoredNotes" "reader" "LAnchoredNotes$OrderReader;", Cond.fieldLink RX8 246 "AnchoredNotes$OrderReader" "numbers" "LAnchoredNotes$Row;", Cond.fieldLink RX8 249 "AnchoredNotes$OrderReader" "kind" "I", Cond.fieldLink RX8 10 "AnchoredNotes" "page" "LAnchoredNotes$Page;", Cond.fieldLink RX8 26 "AnchoredNotes" "search" "LAnchoredNotes$Search;", Cond.methodLink RX8 95 yX6_item, Cond.instanceMethod yX6_item, Cond.selects RX6 yX6_item yX6_item, Cond.initialized RX6, Cond.code yX6_item cX6_item 2 (some .int), Cond.fieldLink RX6 15 "AnchoredNotes$Row" "length" "I", Cond.fieldLink RX6 9 "AnchoredNotes$Row" "items" "[I", Cond.methodLink RX8 252 yX8_writeRow, Cond.instanceMethod yX8_writeRow, Cond.selects RX8 yX8_writeRow yX8_writeRow, Cond.initialized RX8, Cond.code yX8_writeRow cX8_writeRow 4 (some .int), Cond.fieldLink RX8 255 "AnchoredNotes$OrderReader" "lettersFrom" "I", Cond.fieldLink RX8 258 "AnchoredNotes$OrderReader" "next" "I", Cond.fieldLink RX8 35 "AnchoredNotes" "pad" "LAnchoredNotes$Row;", Cond.methodLink RX8 69 yX4_writeLetter, Cond.instanceMethod yX4_writeLetter, Cond.selects RX4 yX4_writeLetter yX4_writeLetter, Cond.initialized RX4]
def wsX8_obey_r2 : List Cond := [Cond.code yX4_writeLetter cX4_writeLetter 3 (some .int), Cond.fieldLink RX4 20 "AnchoredNotes$Page" "letters" "LAnchoredNotes$Row;", Cond.fieldLink RX4 76 "AnchoredNotes$Row" "length" "I", Cond.fieldLink RX4 23 "AnchoredNotes$Page" "owners" "LAnchoredNotes$Row;", Cond.methodLink RX4 79 yX6_insert, Cond.instanceMethod yX6_insert, Cond.selects RX6 yX6_insert yX6_insert, Cond.code yX6_insert cX6_insert 3 none, Cond.methodLink RX6 23 arraycopyName, Cond.native arraycopyName, Cond.static arraycopyName, Cond.initialized "java/lang/System", Cond.methodLink RX8 72 yX4_eraseLetters, Cond.instanceMethod yX4_eraseLetters, Cond.selects RX4 yX4_eraseLetters yX4_eraseLetters, Cond.code yX4_eraseLetters cX4_eraseLetters 4 (some .int), Cond.methodLink RX4 82 yX4_orphanedBy, Cond.instanceMethod yX4_orphanedBy, Cond.selects RX4 yX4_orphanedBy yX4_orphanedBy, Cond.code yX4_orphanedBy cX4_orphanedBy 7 (some .int), Cond.methodLink RX4 94 yX4_passageError, Cond.instanceMethod yX4_passageError, Cond.selects RX4 yX4_passageError yX4_passageError, Cond.code yX4_passageError cX4_passageError 3 (some .int)]
def wsX8_obey_r3 : List Cond := [Cond.methodLink RX4 58 yX6_has, Cond.instanceMethod yX6_has, Cond.selects RX6 yX6_has yX6_has, Cond.code yX6_has cX6_has 2 (some .boolean), Cond.methodLink RX4 69 yX6_item, Cond.methodLink RX4 86 yX6_cut, Cond.instanceMethod yX6_cut, Cond.selects RX6 yX6_cut yX6_cut, Cond.code yX6_cut cX6_cut 3 none, Cond.methodLink RX6 19 yX6_has, Cond.methodLink RX4 89 yJ6_bitCount_0f7a4, Cond.static yJ6_bitCount_0f7a4, Cond.initialized RJ6, Cond.code yJ6_bitCount_0f7a4 cJ6_bitCount_0f7a4 1 (some .int), Cond.constant RJ6 265 (1431655765), Cond.constant RJ6 266 (858993459), Cond.constant RJ6 267 (252645135), Cond.methodLink RX8 75 yX4_moveLetters, Cond.instanceMethod yX4_moveLetters, Cond.selects RX4 yX4_moveLetters yX4_moveLetters, Cond.code yX4_moveLetters cX4_moveLetters 6 (some .int), Cond.methodLink RX4 97 yX6_shift, Cond.instanceMethod yX6_shift, Cond.selects RX6 yX6_shift yX6_shift]
def wsX8_obey_r4 : List Cond := [Cond.code yX6_shift cX6_shift 4 none, Cond.methodLink RX6 29 yX6_exchange, Cond.instanceMethod yX6_exchange, Cond.selects RX6 yX6_exchange yX6_exchange, Cond.code yX6_exchange cX6_exchange 4 none, Cond.methodLink RX6 33 yX6_turn, Cond.instanceMethod yX6_turn, Cond.selects RX6 yX6_turn yX6_turn, Cond.code yX6_turn cX6_turn 6 none, Cond.methodLink RX4 101 yX4_countParted, Cond.instanceMethod yX4_countParted, Cond.selects RX4 yX4_countParted yX4_countParted, Cond.code yX4_countParted cX4_countParted 3 (some .int), Cond.fieldLink RX4 47 "AnchoredNotes$Page" "noteCount" "I", Cond.fieldLink RX4 163 "AnchoredNotes$Pieces" "pieces" "I", Cond.methodLink RX4 150 yX4_piecesOf, Cond.instanceMethod yX4_piecesOf, Cond.selects RX4 yX4_piecesOf yX4_piecesOf, Cond.code yX4_piecesOf cX4_piecesOf 2 (some (.object "AnchoredNotes$Pieces")), Cond.fieldLink RX4 35 "AnchoredNotes$Page" "pieces" "LAnchoredNotes$Pieces;", Cond.methodLink RX4 156 yX5_gather, Cond.instanceMethod yX5_gather, Cond.selects RX5 yX5_gather yX5_gather, Cond.initialized RX5]
def wsX8_obey_r5 : List Cond := [Cond.code yX5_gather cX5_gather 7 none, Cond.fieldLink RX5 9 "AnchoredNotes$Pieces" "pieces" "I", Cond.fieldLink RX5 15 "AnchoredNotes$Pieces" "letters" "I", Cond.fieldLink RX5 18 "AnchoredNotes$Pieces" "first" "I", Cond.fieldLink RX5 21 "AnchoredNotes$Pieces" "last" "I", Cond.fieldLink RX5 24 "AnchoredNotes$Row" "length" "I", Cond.methodLink RX5 29 yX6_item, Cond.static yX8_isIn, Cond.code yX8_isIn cX8_isIn 2 (some .boolean), Cond.methodLink RX8 79 yX4_addNote, Cond.instanceMethod yX4_addNote, Cond.selects RX4 yX4_addNote yX4_addNote, Cond.code yX4_addNote cX4_addNote 5 (some .int), Cond.methodLink RX4 105 yX4_anchor, Cond.instanceMethod yX4_anchor, Cond.selects RX4 yX4_anchor yX4_anchor, Cond.code yX4_anchor cX4_anchor 6 none, Cond.fieldLink RX4 14 "AnchoredNotes$Page" "settings" "LAnchoredNotes$Row;", Cond.methodLink RX4 51 yX4_find, Cond.instanceMethod yX4_find, Cond.selects RX4 yX4_find yX4_find, Cond.code yX4_find cX4_find 2 (some (.object "AnchoredNotes$Note")), Cond.fieldLink RX4 28 "AnchoredNotes$Page" "notes" "[LAnchoredNotes$Note;", Cond.methodLink RX4 108 yX2_remember]
def wsX8_obey_r6 : List Cond := [Cond.instanceMethod yX2_remember, Cond.selects RX2 yX2_remember yX2_remember, Cond.initialized RX2, Cond.code yX2_remember cX2_remember 5 none, Cond.fieldLink RX2 9 "AnchoredNotes$Note" "target" "I", Cond.fieldLink RX2 20 "AnchoredNotes$Note" "words" "LAnchoredNotes$Row;", Cond.fieldLink RX2 24 "AnchoredNotes$Note" "ahead" "LAnchoredNotes$Row;", Cond.fieldLink RX2 27 "AnchoredNotes$Note" "behind" "LAnchoredNotes$Row;", Cond.methodLink RX2 33 yX6_copyPart, Cond.instanceMethod yX6_copyPart, Cond.selects RX6 yX6_copyPart yX6_copyPart, Cond.code yX6_copyPart cX6_copyPart 6 none, Cond.methodLink RX6 43 yX6_clear, Cond.instanceMethod yX6_clear, Cond.selects RX6 yX6_clear yX6_clear, Cond.code yX6_clear cX6_clear 1 none, Cond.methodLink RX6 46 yX6_item, Cond.methodLink RX6 50 yX6_add, Cond.instanceMethod yX6_add, Cond.selects RX6 yX6_add yX6_add, Cond.code yX6_add cX6_add 2 none, Cond.methodLink RX4 72 yX6_replace, Cond.instanceMethod yX6_replace, Cond.selects RX6 yX6_replace yX6_replace]
def wsX8_obey_r7 : List Cond := [Cond.code yX6_replace cX6_replace 3 none, Cond.methodLink RX8 82 yX4_addReply, Cond.instanceMethod yX4_addReply, Cond.selects RX4 yX4_addReply yX4_addReply, Cond.code yX4_addReply cX4_addReply 4 (some .int), Cond.methodLink RX4 112 yX2_becomeReply, Cond.instanceMethod yX2_becomeReply, Cond.selects RX2 yX2_becomeReply yX2_becomeReply, Cond.code yX2_becomeReply cX2_becomeReply 2 none, Cond.methodLink RX2 30 yX6_clear, Cond.methodLink RX8 85 yX4_dropFamily, Cond.instanceMethod yX4_dropFamily, Cond.selects RX4 yX4_dropFamily yX4_dropFamily, Cond.code yX4_dropFamily cX4_dropFamily 4 (some .int), Cond.methodLink RX4 115 yX4_family, Cond.instanceMethod yX4_family, Cond.selects RX4 yX4_family yX4_family, Cond.code yX4_family cX4_family 5 (some .int), Cond.fieldLink RX4 125 "AnchoredNotes$Note" "target" "I", Cond.methodLink RX4 122 yX4_remove, Cond.instanceMethod yX4_remove, Cond.selects RX4 yX4_remove yX4_remove, Cond.code yX4_remove cX4_remove 6 none, Cond.methodLink RX8 88 yX4_reclaimNote]
def wsX8_obey_r8 : List Cond := [Cond.instanceMethod yX4_reclaimNote, Cond.selects RX4 yX4_reclaimNote yX4_reclaimNote, Cond.code yX4_reclaimNote cX4_reclaimNote 4 (some .int), Cond.fieldLink RX4 137 "AnchoredNotes$Search" "places" "I", Cond.fieldLink RX4 140 "AnchoredNotes$Search" "place" "I", Cond.fieldLink RX4 143 "AnchoredNotes$Note" "words" "LAnchoredNotes$Row;", Cond.methodLink RX4 128 yX4_state, Cond.instanceMethod yX4_state, Cond.selects RX4 yX4_state yX4_state, Cond.code yX4_state cX4_state 3 (some .int), Cond.fieldLink RX4 154 "AnchoredNotes$Pieces" "letters" "I", Cond.methodLink RX4 146 yX2_isReply, Cond.instanceMethod yX2_isReply, Cond.selects RX2 yX2_isReply yX2_isReply, Cond.code yX2_isReply cX2_isReply 1 (some .boolean), Cond.methodLink RX4 131 yX7_look, Cond.instanceMethod yX7_look, Cond.selects RX7 yX7_look yX7_look, Cond.initialized RX7, Cond.code yX7_look cX7_look 6 none, Cond.fieldLink RX7 9 "AnchoredNotes$Search" "place" "I", Cond.fieldLink RX7 15 "AnchoredNotes$Search" "likeness" "I", Cond.fieldLink RX7 18 "AnchoredNotes$Search" "places" "I", Cond.fieldLink RX7 21 "AnchoredNotes$Note" "words" "LAnchoredNotes$Row;"]
def wsX8_obey_r9 : List Cond := [Cond.fieldLink RX7 27 "AnchoredNotes$Row" "length" "I", Cond.fieldLink RX7 36 "AnchoredNotes$Note" "ahead" "LAnchoredNotes$Row;", Cond.fieldLink RX7 39 "AnchoredNotes$Note" "behind" "LAnchoredNotes$Row;", Cond.methodLink RX7 32 yX6_countAlike, Cond.instanceMethod yX6_countAlike, Cond.selects RX6 yX6_countAlike yX6_countAlike, Cond.code yX6_countAlike cX6_countAlike 5 (some .int)]
def wsX8_obey : List Cond := .code yX8_obey cX8_obey 3 (some .int) :: ((wsX8_obey_r1 ++ (wsX8_obey_r2 ++ (wsX8_obey_r3 ++ (wsX8_obey_r4 ++ (wsX8_obey_r5 ++ (wsX8_obey_r6 ++ (wsX8_obey_r7 ++ (wsX8_obey_r8 ++ wsX8_obey_r9)))))))) ++ wsX80 ++ wsX30 ++ wsX60 ++ wsX40 ++ wsX50 ++ wsX20 ++ wsX70)
def wsX8_carryOut_r1 : List Cond := [Cond.fieldLink RX8 42 "AnchoredNotes" "reader" "LAnchoredNotes$OrderReader;", Cond.fieldLink RX8 35 "AnchoredNotes" "pad" "LAnchoredNotes$Row;", Cond.fieldLink RX8 49 "AnchoredNotes" "history" "LAnchoredNotes$History;", Cond.fieldLink RX8 10 "AnchoredNotes" "page" "LAnchoredNotes$Page;", Cond.methodLink RX8 221 yX3_findFault, Cond.instanceMethod yX3_findFault, Cond.selects RX3 yX3_findFault yX3_findFault, Cond.initialized RX3, Cond.code yX3_findFault cX3_findFault 3 (some .int), Cond.fieldLink RX3 20 "AnchoredNotes$OrderReader" "next" "I", Cond.fieldLink RX3 31 "AnchoredNotes$Row" "length" "I", Cond.methodLink RX3 24 yX3_start, Cond.instanceMethod yX3_start, Cond.selects RX3 yX3_start yX3_start, Cond.code yX3_start cX3_start 1 none, Cond.methodLink RX3 27 yX3_readOrder, Cond.instanceMethod yX3_readOrder, Cond.selects RX3 yX3_readOrder yX3_readOrder, Cond.code yX3_readOrder cX3_readOrder 2 (some .boolean), Cond.fieldLink RX3 42 "AnchoredNotes$OrderReader" "kind" "I", Cond.fieldLink RX3 14 "AnchoredNotes$OrderReader" "numbers" "LAnchoredNotes$Row;", Cond.methodLink RX3 38 yX6_item, Cond.instanceMethod yX6_item, Cond.selects RX6 yX6_item yX6_item]
def wsX8_carryOut_r2 : List Cond := [Cond.initialized RX6, Cond.code yX6_item cX6_item 2 (some .int), Cond.fieldLink RX6 15 "AnchoredNotes$Row" "length" "I", Cond.fieldLink RX6 9 "AnchoredNotes$Row" "items" "[I", Cond.methodLink RX3 45 yX6_clear, Cond.instanceMethod yX6_clear, Cond.selects RX6 yX6_clear yX6_clear, Cond.code yX6_clear cX6_clear 1 none, Cond.methodLink RX3 48 yX3_readNumber, Cond.instanceMethod yX3_readNumber, Cond.selects RX3 yX3_readNumber yX3_readNumber, Cond.code yX3_readNumber cX3_readNumber 3 (some .boolean), Cond.methodLink RX3 54 yX3_isDigit, Cond.static yX3_isDigit, Cond.code yX3_isDigit cX3_isDigit 1 (some .boolean), Cond.methodLink RX3 58 yX6_add, Cond.instanceMethod yX6_add, Cond.selects RX6 yX6_add yX6_add, Cond.code yX6_add cX6_add 2 none, Cond.methodLink RX3 34 yX3_skip, Cond.instanceMethod yX3_skip, Cond.selects RX3 yX3_skip yX3_skip, Cond.code yX3_skip cX3_skip 3 (some .boolean), Cond.methodLink RX3 51 yX3_readLetters]
def wsX8_carryOut_r3 : List Cond := [Cond.instanceMethod yX3_readLetters, Cond.selects RX3 yX3_readLetters yX3_readLetters, Cond.code yX3_readLetters cX3_readLetters 2 (some .boolean), Cond.fieldLink RX3 61 "AnchoredNotes$OrderReader" "lettersFrom" "I", Cond.methodLink RX3 64 yX3_isLetter, Cond.static yX3_isLetter, Cond.code yX3_isLetter cX3_isLetter 1 (some .boolean), Cond.methodLink RX8 57 yX0_keep, Cond.instanceMethod yX0_keep, Cond.selects RX0 yX0_keep yX0_keep, Cond.initialized RX0, Cond.code yX0_keep cX0_keep 3 none, Cond.fieldLink RX0 17 "AnchoredNotes$History" "size" "I", Cond.fieldLink RX0 11 "AnchoredNotes$History" "states" "[LAnchoredNotes$Page;", Cond.classLink RX0 9 RX4, Cond.instantiable RX4 6, Cond.initialized RX4, Cond.methodLink RX0 21 yX4_init, Cond.instanceMethod yX4_init, Cond.code yX4_init cX4_init 2 none, Cond.methodLink RX4 3 objectInit, Cond.instanceMethod objectInit, Cond.code objectInit ⟨#[0xb1]⟩ 1 none, Cond.classLink RX4 9 RX6]
def wsX8_carryOut_r4 : List Cond := [Cond.instantiable RX6 2, Cond.fieldLink RX4 14 "AnchoredNotes$Page" "settings" "LAnchoredNotes$Row;", Cond.fieldLink RX4 20 "AnchoredNotes$Page" "letters" "LAnchoredNotes$Row;", Cond.fieldLink RX4 23 "AnchoredNotes$Page" "owners" "LAnchoredNotes$Row;", Cond.classLink RX4 26 RX2, Cond.fieldLink RX4 28 "AnchoredNotes$Page" "notes" "[LAnchoredNotes$Note;", Cond.classLink RX4 32 RX5, Cond.instantiable RX5 4, Cond.initialized RX5, Cond.fieldLink RX4 35 "AnchoredNotes$Page" "pieces" "LAnchoredNotes$Pieces;", Cond.instantiable RX2 4, Cond.initialized RX2, Cond.methodLink RX4 11 yX6_init, Cond.instanceMethod yX6_init, Cond.code yX6_init cX6_init 2 none, Cond.methodLink RX6 3 objectInit, Cond.arrayClass .int, Cond.instanceMethod yX5_init, Cond.code yX5_init cX5_init 1 none, Cond.methodLink RX5 3 objectInit, Cond.methodLink RX4 39 yX6_add, Cond.instanceMethod yX2_init, Cond.code yX2_init cX2_init 1 none, Cond.methodLink RX2 3 objectInit]
def wsX8_carryOut_r5 : List Cond := [Cond.fieldLink RX2 9 "AnchoredNotes$Note" "target" "I", Cond.classLink RX2 15 RX6, Cond.fieldLink RX2 20 "AnchoredNotes$Note" "words" "LAnchoredNotes$Row;", Cond.fieldLink RX2 24 "AnchoredNotes$Note" "ahead" "LAnchoredNotes$Row;", Cond.fieldLink RX2 27 "AnchoredNotes$Note" "behind" "LAnchoredNotes$Row;", Cond.methodLink RX2 17 yX6_init, Cond.methodLink RX0 22 yX4_copyFrom, Cond.instanceMethod yX4_copyFrom, Cond.selects RX4 yX4_copyFrom yX4_copyFrom, Cond.code yX4_copyFrom cX4_copyFrom 5 none, Cond.fieldLink RX4 47 "AnchoredNotes$Page" "noteCount" "I", Cond.methodLink RX4 43 yX6_copyFrom, Cond.instanceMethod yX6_copyFrom, Cond.selects RX6 yX6_copyFrom yX6_copyFrom, Cond.code yX6_copyFrom cX6_copyFrom 2 none, Cond.methodLink RX6 37 Lib.Math.min.name, Cond.static Lib.Math.min.name, Cond.initialized "java/lang/Math", Cond.code Lib.Math.min.name Lib.Math.min.code 2 (some .int), Cond.methodLink RX6 23 arraycopyName, Cond.native arraycopyName, Cond.static arraycopyName, Cond.initialized "java/lang/System", Cond.methodLink RX4 51 yX4_find]
def wsX8_carryOut_r6 : List Cond := [Cond.instanceMethod yX4_find, Cond.selects RX4 yX4_find yX4_find, Cond.code yX4_find cX4_find 2 (some (.object "AnchoredNotes$Note")), Cond.methodLink RX4 55 yX2_copyFrom, Cond.instanceMethod yX2_copyFrom, Cond.selects RX2 yX2_copyFrom yX2_copyFrom, Cond.code yX2_copyFrom cX2_copyFrom 2 none, Cond.methodLink RX2 37 yX6_copyFrom, Cond.methodLink RX8 225 yX3_start, Cond.methodLink RX8 228 yX3_readOrder, Cond.methodLink RX8 232 yX8_obey, Cond.instanceMethod yX8_obey, Cond.selects RX8 yX8_obey yX8_obey, Cond.initialized RX8, Cond.code yX8_obey cX8_obey 3 (some .int), Cond.fieldLink RX8 246 "AnchoredNotes$OrderReader" "numbers" "LAnchoredNotes$Row;", Cond.fieldLink RX8 249 "AnchoredNotes$OrderReader" "kind" "I", Cond.fieldLink RX8 26 "AnchoredNotes" "search" "LAnchoredNotes$Search;", Cond.methodLink RX8 95 yX6_item, Cond.methodLink RX8 252 yX8_writeRow, Cond.instanceMethod yX8_writeRow, Cond.selects RX8 yX8_writeRow yX8_writeRow, Cond.code yX8_writeRow cX8_writeRow 4 (some .int), Cond.fieldLink RX8 255 "AnchoredNotes$OrderReader" "lettersFrom" "I"]
def wsX8_carryOut_r7 : List Cond := [Cond.fieldLink RX8 258 "AnchoredNotes$OrderReader" "next" "I", Cond.methodLink RX8 69 yX4_writeLetter, Cond.instanceMethod yX4_writeLetter, Cond.selects RX4 yX4_writeLetter yX4_writeLetter, Cond.code yX4_writeLetter cX4_writeLetter 3 (some .int), Cond.fieldLink RX4 76 "AnchoredNotes$Row" "length" "I", Cond.methodLink RX4 79 yX6_insert, Cond.instanceMethod yX6_insert, Cond.selects RX6 yX6_insert yX6_insert, Cond.code yX6_insert cX6_insert 3 none, Cond.methodLink RX8 72 yX4_eraseLetters, Cond.instanceMethod yX4_eraseLetters, Cond.selects RX4 yX4_eraseLetters yX4_eraseLetters, Cond.code yX4_eraseLetters cX4_eraseLetters 4 (some .int), Cond.methodLink RX4 82 yX4_orphanedBy, Cond.instanceMethod yX4_orphanedBy, Cond.selects RX4 yX4_orphanedBy yX4_orphanedBy, Cond.code yX4_orphanedBy cX4_orphanedBy 7 (some .int), Cond.methodLink RX4 94 yX4_passageError, Cond.instanceMethod yX4_passageError, Cond.selects RX4 yX4_passageError yX4_passageError, Cond.code yX4_passageError cX4_passageError 3 (some .int), Cond.methodLink RX4 58 yX6_has, Cond.instanceMethod yX6_has]
def wsX8_carryOut_r8 : List Cond := [Cond.selects RX6 yX6_has yX6_has, Cond.code yX6_has cX6_has 2 (some .boolean), Cond.methodLink RX4 69 yX6_item, Cond.methodLink RX4 86 yX6_cut, Cond.instanceMethod yX6_cut, Cond.selects RX6 yX6_cut yX6_cut, Cond.code yX6_cut cX6_cut 3 none, Cond.methodLink RX6 19 yX6_has, Cond.methodLink RX4 89 yJ6_bitCount_0f7a4, Cond.static yJ6_bitCount_0f7a4, Cond.initialized RJ6, Cond.code yJ6_bitCount_0f7a4 cJ6_bitCount_0f7a4 1 (some .int), Cond.constant RJ6 265 (1431655765), Cond.constant RJ6 266 (858993459), Cond.constant RJ6 267 (252645135), Cond.methodLink RX8 75 yX4_moveLetters, Cond.instanceMethod yX4_moveLetters, Cond.selects RX4 yX4_moveLetters yX4_moveLetters, Cond.code yX4_moveLetters cX4_moveLetters 6 (some .int), Cond.methodLink RX4 97 yX6_shift, Cond.instanceMethod yX6_shift, Cond.selects RX6 yX6_shift yX6_shift, Cond.code yX6_shift cX6_shift 4 none, Cond.methodLink RX6 29 yX6_exchange]
def wsX8_carryOut_r9 : List Cond := [Cond.instanceMethod yX6_exchange, Cond.selects RX6 yX6_exchange yX6_exchange, Cond.code yX6_exchange cX6_exchange 4 none, Cond.methodLink RX6 33 yX6_turn, Cond.instanceMethod yX6_turn, Cond.selects RX6 yX6_turn yX6_turn, Cond.code yX6_turn cX6_turn 6 none, Cond.methodLink RX4 101 yX4_countParted, Cond.instanceMethod yX4_countParted, Cond.selects RX4 yX4_countParted yX4_countParted, Cond.code yX4_countParted cX4_countParted 3 (some .int), Cond.fieldLink RX4 163 "AnchoredNotes$Pieces" "pieces" "I", Cond.methodLink RX4 150 yX4_piecesOf, Cond.instanceMethod yX4_piecesOf, Cond.selects RX4 yX4_piecesOf yX4_piecesOf, Cond.code yX4_piecesOf cX4_piecesOf 2 (some (.object "AnchoredNotes$Pieces")), Cond.methodLink RX4 156 yX5_gather, Cond.instanceMethod yX5_gather, Cond.selects RX5 yX5_gather yX5_gather, Cond.code yX5_gather cX5_gather 7 none, Cond.fieldLink RX5 9 "AnchoredNotes$Pieces" "pieces" "I", Cond.fieldLink RX5 15 "AnchoredNotes$Pieces" "letters" "I", Cond.fieldLink RX5 18 "AnchoredNotes$Pieces" "first" "I", Cond.fieldLink RX5 21 "AnchoredNotes$Pieces" "last" "I"]
def wsX8_carryOut_r10 : List Cond := [Cond.fieldLink RX5 24 "AnchoredNotes$Row" "length" "I", Cond.methodLink RX5 29 yX6_item, Cond.static yX8_isIn, Cond.code yX8_isIn cX8_isIn 2 (some .boolean), Cond.methodLink RX8 79 yX4_addNote, Cond.instanceMethod yX4_addNote, Cond.selects RX4 yX4_addNote yX4_addNote, Cond.code yX4_addNote cX4_addNote 5 (some .int), Cond.methodLink RX4 105 yX4_anchor, Cond.instanceMethod yX4_anchor, Cond.selects RX4 yX4_anchor yX4_anchor, Cond.code yX4_anchor cX4_anchor 6 none, Cond.methodLink RX4 108 yX2_remember, Cond.instanceMethod yX2_remember, Cond.selects RX2 yX2_remember yX2_remember, Cond.code yX2_remember cX2_remember 5 none, Cond.methodLink RX2 33 yX6_copyPart, Cond.instanceMethod yX6_copyPart, Cond.selects RX6 yX6_copyPart yX6_copyPart, Cond.code yX6_copyPart cX6_copyPart 6 none, Cond.methodLink RX6 43 yX6_clear, Cond.methodLink RX6 46 yX6_item, Cond.methodLink RX6 50 yX6_add, Cond.methodLink RX4 72 yX6_replace]
def wsX8_carryOut_r11 : List Cond := [Cond.instanceMethod yX6_replace, Cond.selects RX6 yX6_replace yX6_replace, Cond.code yX6_replace cX6_replace 3 none, Cond.methodLink RX8 82 yX4_addReply, Cond.instanceMethod yX4_addReply, Cond.selects RX4 yX4_addReply yX4_addReply, Cond.code yX4_addReply cX4_addReply 4 (some .int), Cond.methodLink RX4 112 yX2_becomeReply, Cond.instanceMethod yX2_becomeReply, Cond.selects RX2 yX2_becomeReply yX2_becomeReply, Cond.code yX2_becomeReply cX2_becomeReply 2 none, Cond.methodLink RX2 30 yX6_clear, Cond.methodLink RX8 85 yX4_dropFamily, Cond.instanceMethod yX4_dropFamily, Cond.selects RX4 yX4_dropFamily yX4_dropFamily, Cond.code yX4_dropFamily cX4_dropFamily 4 (some .int), Cond.methodLink RX4 115 yX4_family, Cond.instanceMethod yX4_family, Cond.selects RX4 yX4_family yX4_family, Cond.code yX4_family cX4_family 5 (some .int), Cond.fieldLink RX4 125 "AnchoredNotes$Note" "target" "I", Cond.methodLink RX4 122 yX4_remove, Cond.instanceMethod yX4_remove, Cond.selects RX4 yX4_remove yX4_remove]
def wsX8_carryOut_r12 : List Cond := [Cond.code yX4_remove cX4_remove 6 none, Cond.methodLink RX8 88 yX4_reclaimNote, Cond.instanceMethod yX4_reclaimNote, Cond.selects RX4 yX4_reclaimNote yX4_reclaimNote, Cond.code yX4_reclaimNote cX4_reclaimNote 4 (some .int), Cond.fieldLink RX4 137 "AnchoredNotes$Search" "places" "I", Cond.fieldLink RX4 140 "AnchoredNotes$Search" "place" "I", Cond.fieldLink RX4 143 "AnchoredNotes$Note" "words" "LAnchoredNotes$Row;", Cond.methodLink RX4 128 yX4_state, Cond.instanceMethod yX4_state, Cond.selects RX4 yX4_state yX4_state, Cond.code yX4_state cX4_state 3 (some .int), Cond.fieldLink RX4 154 "AnchoredNotes$Pieces" "letters" "I", Cond.methodLink RX4 146 yX2_isReply, Cond.instanceMethod yX2_isReply, Cond.selects RX2 yX2_isReply yX2_isReply, Cond.code yX2_isReply cX2_isReply 1 (some .boolean), Cond.methodLink RX4 131 yX7_look, Cond.instanceMethod yX7_look, Cond.selects RX7 yX7_look yX7_look, Cond.initialized RX7, Cond.code yX7_look cX7_look 6 none, Cond.fieldLink RX7 9 "AnchoredNotes$Search" "place" "I", Cond.fieldLink RX7 15 "AnchoredNotes$Search" "likeness" "I"]
def wsX8_carryOut_r13 : List Cond := [Cond.fieldLink RX7 18 "AnchoredNotes$Search" "places" "I", Cond.fieldLink RX7 21 "AnchoredNotes$Note" "words" "LAnchoredNotes$Row;", Cond.fieldLink RX7 27 "AnchoredNotes$Row" "length" "I", Cond.fieldLink RX7 36 "AnchoredNotes$Note" "ahead" "LAnchoredNotes$Row;", Cond.fieldLink RX7 39 "AnchoredNotes$Note" "behind" "LAnchoredNotes$Row;", Cond.methodLink RX7 32 yX6_countAlike, Cond.instanceMethod yX6_countAlike, Cond.selects RX6 yX6_countAlike yX6_countAlike, Cond.code yX6_countAlike cX6_countAlike 5 (some .int), Cond.methodLink RX8 235 yX3_skip, Cond.methodLink RX8 218 yX6_clear, Cond.methodLink RX8 65 yX0_confirm, Cond.instanceMethod yX0_confirm, Cond.selects RX0 yX0_confirm yX0_confirm, Cond.code yX0_confirm cX0_confirm 2 (some .int), Cond.methodLink RX0 26 yX0_forgetOldest, Cond.instanceMethod yX0_forgetOldest, Cond.selects RX0 yX0_forgetOldest yX0_forgetOldest, Cond.code yX0_forgetOldest cX0_forgetOldest 3 none]
def wsX8_carryOut : List Cond := .code yX8_carryOut cX8_carryOut 2 (some .int) :: ((wsX8_carryOut_r1 ++ (wsX8_carryOut_r2 ++ (wsX8_carryOut_r3 ++ (wsX8_carryOut_r4 ++ (wsX8_carryOut_r5 ++ (wsX8_carryOut_r6 ++ (wsX8_carryOut_r7 ++ (wsX8_carryOut_r8 ++ (wsX8_carryOut_r9 ++ (wsX8_carryOut_r10 ++ (wsX8_carryOut_r11 ++ (wsX8_carryOut_r12 ++ wsX8_carryOut_r13)))))))))))) ++ wsX80 ++ wsX30 ++ wsX60 ++ wsX00 ++ wsX40 ++ wsX50 ++ wsX20 ++ wsX70)
def wsX8_undo_r1 : List Cond := [Cond.fieldLink RX8 49 "AnchoredNotes" "history" "LAnchoredNotes$History;", Cond.fieldLink RX8 10 "AnchoredNotes" "page" "LAnchoredNotes$Page;", Cond.fieldLink RX8 187 "AnchoredNotes$History" "size" "I", Cond.methodLink RX8 239 yX0_goBack, Cond.instanceMethod yX0_goBack, Cond.selects RX0 yX0_goBack yX0_goBack, Cond.initialized RX0, Cond.code yX0_goBack cX0_goBack 4 (some .boolean), Cond.fieldLink RX0 17 "AnchoredNotes$History" "size" "I", Cond.fieldLink RX0 11 "AnchoredNotes$History" "states" "[LAnchoredNotes$Page;", Cond.methodLink RX0 22 yX4_copyFrom, Cond.instanceMethod yX4_copyFrom, Cond.selects RX4 yX4_copyFrom yX4_copyFrom, Cond.initialized RX4, Cond.code yX4_copyFrom cX4_copyFrom 5 none, Cond.fieldLink RX4 14 "AnchoredNotes$Page" "settings" "LAnchoredNotes$Row;", Cond.fieldLink RX4 20 "AnchoredNotes$Page" "letters" "LAnchoredNotes$Row;", Cond.fieldLink RX4 23 "AnchoredNotes$Page" "owners" "LAnchoredNotes$Row;", Cond.fieldLink RX4 47 "AnchoredNotes$Page" "noteCount" "I", Cond.methodLink RX4 43 yX6_copyFrom, Cond.instanceMethod yX6_copyFrom, Cond.selects RX6 yX6_copyFrom yX6_copyFrom, Cond.initialized RX6, Cond.code yX6_copyFrom cX6_copyFrom 2 none]
def wsX8_undo_r2 : List Cond := [Cond.fieldLink RX6 15 "AnchoredNotes$Row" "length" "I", Cond.fieldLink RX6 9 "AnchoredNotes$Row" "items" "[I", Cond.methodLink RX6 37 Lib.Math.min.name, Cond.static Lib.Math.min.name, Cond.initialized "java/lang/Math", Cond.code Lib.Math.min.name Lib.Math.min.code 2 (some .int), Cond.methodLink RX6 23 arraycopyName, Cond.native arraycopyName, Cond.static arraycopyName, Cond.initialized "java/lang/System", Cond.methodLink RX4 51 yX4_find, Cond.instanceMethod yX4_find, Cond.selects RX4 yX4_find yX4_find, Cond.code yX4_find cX4_find 2 (some (.object "AnchoredNotes$Note")), Cond.fieldLink RX4 28 "AnchoredNotes$Page" "notes" "[LAnchoredNotes$Note;", Cond.methodLink RX4 55 yX2_copyFrom, Cond.instanceMethod yX2_copyFrom, Cond.selects RX2 yX2_copyFrom yX2_copyFrom, Cond.initialized RX2, Cond.code yX2_copyFrom cX2_copyFrom 2 none, Cond.fieldLink RX2 9 "AnchoredNotes$Note" "target" "I", Cond.fieldLink RX2 20 "AnchoredNotes$Note" "words" "LAnchoredNotes$Row;", Cond.fieldLink RX2 24 "AnchoredNotes$Note" "ahead" "LAnchoredNotes$Row;", Cond.fieldLink RX2 27 "AnchoredNotes$Note" "behind" "LAnchoredNotes$Row;"]
def wsX8_undo_r3 : List Cond := [Cond.methodLink RX2 37 yX6_copyFrom]
def wsX8_undo : List Cond := .code yX8_undo cX8_undo 1 (some .int) :: ((wsX8_undo_r1 ++ (wsX8_undo_r2 ++ wsX8_undo_r3)) ++ wsX80 ++ wsX00 ++ wsX40 ++ wsX60 ++ wsX20)
def wsX8_save_r1 : List Cond := [Cond.fieldLink RX8 53 "AnchoredNotes" "slots" "[LAnchoredNotes$Page;", Cond.classLink RX8 7 RX4, Cond.instantiable RX4 6, Cond.initialized RX4, Cond.fieldLink RX8 10 "AnchoredNotes" "page" "LAnchoredNotes$Page;", Cond.fieldLink RX8 92 "AnchoredNotes$Page" "letters" "LAnchoredNotes$Row;", Cond.fieldLink RX8 130 "AnchoredNotes$Row" "length" "I", Cond.methodLink RX8 9 yX4_init, Cond.instanceMethod yX4_init, Cond.code yX4_init cX4_init 2 none, Cond.methodLink RX4 3 objectInit, Cond.instanceMethod objectInit, Cond.code objectInit ⟨#[0xb1]⟩ 1 none, Cond.classLink RX4 9 RX6, Cond.instantiable RX6 2, Cond.initialized RX6, Cond.fieldLink RX4 14 "AnchoredNotes$Page" "settings" "LAnchoredNotes$Row;", Cond.fieldLink RX4 20 "AnchoredNotes$Page" "letters" "LAnchoredNotes$Row;", Cond.fieldLink RX4 23 "AnchoredNotes$Page" "owners" "LAnchoredNotes$Row;", Cond.classLink RX4 26 RX2, Cond.fieldLink RX4 28 "AnchoredNotes$Page" "notes" "[LAnchoredNotes$Note;", Cond.classLink RX4 32 RX5, Cond.instantiable RX5 4, Cond.initialized RX5]
def wsX8_save_r2 : List Cond := [Cond.fieldLink RX4 35 "AnchoredNotes$Page" "pieces" "LAnchoredNotes$Pieces;", Cond.instantiable RX2 4, Cond.initialized RX2, Cond.methodLink RX4 11 yX6_init, Cond.instanceMethod yX6_init, Cond.code yX6_init cX6_init 2 none, Cond.methodLink RX6 3 objectInit, Cond.arrayClass .int, Cond.fieldLink RX6 9 "AnchoredNotes$Row" "items" "[I", Cond.instanceMethod yX5_init, Cond.code yX5_init cX5_init 1 none, Cond.methodLink RX5 3 objectInit, Cond.methodLink RX4 39 yX6_add, Cond.instanceMethod yX6_add, Cond.selects RX6 yX6_add yX6_add, Cond.code yX6_add cX6_add 2 none, Cond.fieldLink RX6 15 "AnchoredNotes$Row" "length" "I", Cond.instanceMethod yX2_init, Cond.code yX2_init cX2_init 1 none, Cond.methodLink RX2 3 objectInit, Cond.fieldLink RX2 9 "AnchoredNotes$Note" "target" "I", Cond.classLink RX2 15 RX6, Cond.fieldLink RX2 20 "AnchoredNotes$Note" "words" "LAnchoredNotes$Row;", Cond.fieldLink RX2 24 "AnchoredNotes$Note" "ahead" "LAnchoredNotes$Row;"]
def wsX8_save_r3 : List Cond := [Cond.fieldLink RX2 27 "AnchoredNotes$Note" "behind" "LAnchoredNotes$Row;", Cond.methodLink RX2 17 yX6_init, Cond.methodLink RX8 243 yX4_copyFrom, Cond.instanceMethod yX4_copyFrom, Cond.selects RX4 yX4_copyFrom yX4_copyFrom, Cond.code yX4_copyFrom cX4_copyFrom 5 none, Cond.fieldLink RX4 47 "AnchoredNotes$Page" "noteCount" "I", Cond.methodLink RX4 43 yX6_copyFrom, Cond.instanceMethod yX6_copyFrom, Cond.selects RX6 yX6_copyFrom yX6_copyFrom, Cond.code yX6_copyFrom cX6_copyFrom 2 none, Cond.methodLink RX6 37 Lib.Math.min.name, Cond.static Lib.Math.min.name, Cond.initialized "java/lang/Math", Cond.code Lib.Math.min.name Lib.Math.min.code 2 (some .int), Cond.methodLink RX6 23 arraycopyName, Cond.native arraycopyName, Cond.static arraycopyName, Cond.initialized "java/lang/System", Cond.methodLink RX4 51 yX4_find, Cond.instanceMethod yX4_find, Cond.selects RX4 yX4_find yX4_find, Cond.code yX4_find cX4_find 2 (some (.object "AnchoredNotes$Note")), Cond.methodLink RX4 55 yX2_copyFrom]
def wsX8_save_r4 : List Cond := [Cond.instanceMethod yX2_copyFrom, Cond.selects RX2 yX2_copyFrom yX2_copyFrom, Cond.code yX2_copyFrom cX2_copyFrom 2 none, Cond.methodLink RX2 37 yX6_copyFrom]
def wsX8_save : List Cond := .code yX8_save cX8_save 3 (some .int) :: ((wsX8_save_r1 ++ (wsX8_save_r2 ++ (wsX8_save_r3 ++ wsX8_save_r4))) ++ wsX80 ++ wsX40 ++ wsX60 ++ wsX50 ++ wsX20)
def wsX8_restore_r1 : List Cond := [Cond.fieldLink RX8 53 "AnchoredNotes" "slots" "[LAnchoredNotes$Page;", Cond.fieldLink RX8 49 "AnchoredNotes" "history" "LAnchoredNotes$History;", Cond.fieldLink RX8 10 "AnchoredNotes" "page" "LAnchoredNotes$Page;", Cond.fieldLink RX8 92 "AnchoredNotes$Page" "letters" "LAnchoredNotes$Row;", Cond.fieldLink RX8 130 "AnchoredNotes$Row" "length" "I", Cond.methodLink RX8 57 yX0_keep, Cond.instanceMethod yX0_keep, Cond.selects RX0 yX0_keep yX0_keep, Cond.initialized RX0, Cond.code yX0_keep cX0_keep 3 none, Cond.fieldLink RX0 17 "AnchoredNotes$History" "size" "I", Cond.fieldLink RX0 11 "AnchoredNotes$History" "states" "[LAnchoredNotes$Page;", Cond.classLink RX0 9 RX4, Cond.instantiable RX4 6, Cond.initialized RX4, Cond.methodLink RX0 21 yX4_init, Cond.instanceMethod yX4_init, Cond.code yX4_init cX4_init 2 none, Cond.methodLink RX4 3 objectInit, Cond.instanceMethod objectInit, Cond.code objectInit ⟨#[0xb1]⟩ 1 none, Cond.classLink RX4 9 RX6, Cond.instantiable RX6 2, Cond.initialized RX6]
def wsX8_restore_r2 : List Cond := [Cond.fieldLink RX4 14 "AnchoredNotes$Page" "settings" "LAnchoredNotes$Row;", Cond.fieldLink RX4 20 "AnchoredNotes$Page" "letters" "LAnchoredNotes$Row;", Cond.fieldLink RX4 23 "AnchoredNotes$Page" "owners" "LAnchoredNotes$Row;", Cond.classLink RX4 26 RX2, Cond.fieldLink RX4 28 "AnchoredNotes$Page" "notes" "[LAnchoredNotes$Note;", Cond.classLink RX4 32 RX5, Cond.instantiable RX5 4, Cond.initialized RX5, Cond.fieldLink RX4 35 "AnchoredNotes$Page" "pieces" "LAnchoredNotes$Pieces;", Cond.instantiable RX2 4, Cond.initialized RX2, Cond.methodLink RX4 11 yX6_init, Cond.instanceMethod yX6_init, Cond.code yX6_init cX6_init 2 none, Cond.methodLink RX6 3 objectInit, Cond.arrayClass .int, Cond.fieldLink RX6 9 "AnchoredNotes$Row" "items" "[I", Cond.instanceMethod yX5_init, Cond.code yX5_init cX5_init 1 none, Cond.methodLink RX5 3 objectInit, Cond.methodLink RX4 39 yX6_add, Cond.instanceMethod yX6_add, Cond.selects RX6 yX6_add yX6_add, Cond.code yX6_add cX6_add 2 none]
def wsX8_restore_r3 : List Cond := [Cond.fieldLink RX6 15 "AnchoredNotes$Row" "length" "I", Cond.instanceMethod yX2_init, Cond.code yX2_init cX2_init 1 none, Cond.methodLink RX2 3 objectInit, Cond.fieldLink RX2 9 "AnchoredNotes$Note" "target" "I", Cond.classLink RX2 15 RX6, Cond.fieldLink RX2 20 "AnchoredNotes$Note" "words" "LAnchoredNotes$Row;", Cond.fieldLink RX2 24 "AnchoredNotes$Note" "ahead" "LAnchoredNotes$Row;", Cond.fieldLink RX2 27 "AnchoredNotes$Note" "behind" "LAnchoredNotes$Row;", Cond.methodLink RX2 17 yX6_init, Cond.methodLink RX0 22 yX4_copyFrom, Cond.instanceMethod yX4_copyFrom, Cond.selects RX4 yX4_copyFrom yX4_copyFrom, Cond.code yX4_copyFrom cX4_copyFrom 5 none, Cond.fieldLink RX4 47 "AnchoredNotes$Page" "noteCount" "I", Cond.methodLink RX4 43 yX6_copyFrom, Cond.instanceMethod yX6_copyFrom, Cond.selects RX6 yX6_copyFrom yX6_copyFrom, Cond.code yX6_copyFrom cX6_copyFrom 2 none, Cond.methodLink RX6 37 Lib.Math.min.name, Cond.static Lib.Math.min.name, Cond.initialized "java/lang/Math", Cond.code Lib.Math.min.name Lib.Math.min.code 2 (some .int), Cond.methodLink RX6 23 arraycopyName]
def wsX8_restore_r4 : List Cond := [Cond.native arraycopyName, Cond.static arraycopyName, Cond.initialized "java/lang/System", Cond.methodLink RX4 51 yX4_find, Cond.instanceMethod yX4_find, Cond.selects RX4 yX4_find yX4_find, Cond.code yX4_find cX4_find 2 (some (.object "AnchoredNotes$Note")), Cond.methodLink RX4 55 yX2_copyFrom, Cond.instanceMethod yX2_copyFrom, Cond.selects RX2 yX2_copyFrom yX2_copyFrom, Cond.code yX2_copyFrom cX2_copyFrom 2 none, Cond.methodLink RX2 37 yX6_copyFrom, Cond.methodLink RX8 243 yX4_copyFrom, Cond.methodLink RX8 65 yX0_confirm, Cond.instanceMethod yX0_confirm, Cond.selects RX0 yX0_confirm yX0_confirm, Cond.code yX0_confirm cX0_confirm 2 (some .int), Cond.methodLink RX0 26 yX0_forgetOldest, Cond.instanceMethod yX0_forgetOldest, Cond.selects RX0 yX0_forgetOldest yX0_forgetOldest, Cond.code yX0_forgetOldest cX0_forgetOldest 3 none]
def wsX8_restore : List Cond := .code yX8_restore cX8_restore 3 (some .int) :: ((wsX8_restore_r1 ++ (wsX8_restore_r2 ++ (wsX8_restore_r3 ++ wsX8_restore_r4))) ++ wsX80 ++ wsX40 ++ wsX60 ++ wsX00 ++ wsX50 ++ wsX20)
def wsX9_init : List Cond := .code yX9_init cX9_init 1 none :: ([.methodLink RX9 1 objectInit, .instanceMethod objectInit, .code objectInit ⟨#[0xb1]⟩ 1 none, .arrayClass .int, .fieldLink RX9 7 "AnchoredNotesModel" "now" "[I", .fieldLink RX9 13 "AnchoredNotesModel" "past" "[I", .fieldLink RX9 16 "AnchoredNotesModel" "slots" "[I", .arrayClass .boolean, .fieldLink RX9 19 "AnchoredNotesModel" "held" "[Z", .fieldLink RX9 23 "AnchoredNotesModel" "pad" "[I", .fieldLink RX9 26 "AnchoredNotesModel" "orders" "[I", .fieldLink RX9 29 "AnchoredNotesModel" "lines" "[I", .fieldLink RX9 32 "AnchoredNotesModel" "own" "[I", .fieldLink RX9 35 "AnchoredNotesModel" "full" "[I", .fieldLink RX9 38 "AnchoredNotesModel" "taken" "[I"] ++ wsX90)
def wsX9_in : List Cond := .code yX9_in cX9_in 3 (some .boolean) :: ([])
def wsX9_of0 : List Cond := .code yX9_of0 cX9_of0 3 (some .int) :: ([.fieldLink RX9 7 "AnchoredNotesModel" "now" "[I"] ++ wsX90)
def wsX9_isNote : List Cond := .code yX9_isNote cX9_isNote 2 (some .boolean) :: ([.fieldLink RX9 7 "AnchoredNotesModel" "now" "[I", .methodLink RX9 41 yX9_in, .static yX9_in, .initialized RX9, .code yX9_in cX9_in 3 (some .boolean)] ++ wsX90)
def wsX9_isReply : List Cond := .code yX9_isReply cX9_isReply 2 (some .boolean) :: ([.methodLink RX9 45 yX9_of0, .instanceMethod yX9_of0, .selects RX9 yX9_of0 yX9_of0, .initialized RX9, .code yX9_of0 cX9_of0 3 (some .int), .fieldLink RX9 7 "AnchoredNotesModel" "now" "[I"] ++ wsX90)
def wsX9_isPlace : List Cond := .code yX9_isPlace cX9_isPlace 2 (some .boolean) :: ([.fieldLink RX9 7 "AnchoredNotesModel" "now" "[I", .methodLink RX9 41 yX9_in, .static yX9_in, .initialized RX9, .code yX9_in cX9_in 3 (some .boolean)] ++ wsX90)
def wsX9_isOf : List Cond := .code yX9_isOf cX9_isOf 3 (some .boolean) :: ([.fieldLink RX9 7 "AnchoredNotesModel" "now" "[I"] ++ wsX90)
def wsX9_lays : List Cond := .code yX9_lays cX9_lays 5 none :: ([])
def wsX9_records : List Cond := .code yX9_records cX9_records 2 none :: ([.fieldLink RX9 49 "AnchoredNotesModel" "kept" "I", .fieldLink RX9 13 "AnchoredNotesModel" "past" "[I", .fieldLink RX9 7 "AnchoredNotesModel" "now" "[I", .methodLink RX9 53 yX9_lays, .static yX9_lays, .initialized RX9, .code yX9_lays cX9_lays 5 none] ++ wsX90)
def wsX9_undo : List Cond := .code yX9_undo cX9_undo 1 (some .int) :: ([.fieldLink RX9 49 "AnchoredNotesModel" "kept" "I", .fieldLink RX9 13 "AnchoredNotesModel" "past" "[I", .fieldLink RX9 7 "AnchoredNotesModel" "now" "[I", .methodLink RX9 53 yX9_lays, .static yX9_lays, .initialized RX9, .code yX9_lays cX9_lays 5 none] ++ wsX90)
def wsX9_save : List Cond := .code yX9_save cX9_save 2 (some .int) :: ([.fieldLink RX9 7 "AnchoredNotesModel" "now" "[I", .fieldLink RX9 16 "AnchoredNotesModel" "slots" "[I", .fieldLink RX9 19 "AnchoredNotesModel" "held" "[Z", .methodLink RX9 41 yX9_in, .static yX9_in, .initialized RX9, .code yX9_in cX9_in 3 (some .boolean), .methodLink RX9 53 yX9_lays, .static yX9_lays, .code yX9_lays cX9_lays 5 none] ++ wsX90)
def wsX9_restore : List Cond := .code yX9_restore cX9_restore 2 (some .int) :: ([.fieldLink RX9 19 "AnchoredNotesModel" "held" "[Z", .fieldLink RX9 16 "AnchoredNotesModel" "slots" "[I", .fieldLink RX9 7 "AnchoredNotesModel" "now" "[I", .methodLink RX9 41 yX9_in, .static yX9_in, .initialized RX9, .code yX9_in cX9_in 3 (some .boolean), .methodLink RX9 57 yX9_records, .instanceMethod yX9_records, .selects RX9 yX9_records yX9_records, .code yX9_records cX9_records 2 none, .fieldLink RX9 49 "AnchoredNotesModel" "kept" "I", .fieldLink RX9 13 "AnchoredNotesModel" "past" "[I", .methodLink RX9 53 yX9_lays, .static yX9_lays, .code yX9_lays cX9_lays 5 none] ++ wsX90)
def wsX9_present : List Cond := .code yX9_present cX9_present 4 (some .int) :: ([.fieldLink RX9 7 "AnchoredNotesModel" "now" "[I", .methodLink RX9 60 yX9_isOf, .instanceMethod yX9_isOf, .selects RX9 yX9_isOf yX9_isOf, .initialized RX9, .code yX9_isOf cX9_isOf 3 (some .boolean)] ++ wsX90)
def wsX9_isOrphan : List Cond := .code yX9_isOrphan cX9_isOrphan 2 (some .boolean) :: ([.methodLink RX9 64 yX9_isReply, .instanceMethod yX9_isReply, .selects RX9 yX9_isReply yX9_isReply, .initialized RX9, .code yX9_isReply cX9_isReply 2 (some .boolean), .methodLink RX9 45 yX9_of0, .instanceMethod yX9_of0, .selects RX9 yX9_of0 yX9_of0, .code yX9_of0 cX9_of0 3 (some .int), .fieldLink RX9 7 "AnchoredNotesModel" "now" "[I", .methodLink RX9 68 yX9_present, .instanceMethod yX9_present, .selects RX9 yX9_present yX9_present, .code yX9_present cX9_present 4 (some .int), .methodLink RX9 60 yX9_isOf, .instanceMethod yX9_isOf, .selects RX9 yX9_isOf yX9_isOf, .code yX9_isOf cX9_isOf 3 (some .boolean)] ++ wsX90)
def wsX9_finds : List Cond := .code yX9_finds cX9_finds 5 none :: ([.fieldLink RX9 72 "AnchoredNotesModel" "pieces" "I", .fieldLink RX9 75 "AnchoredNotesModel" "first" "I", .fieldLink RX9 78 "AnchoredNotesModel" "last" "I", .fieldLink RX9 7 "AnchoredNotesModel" "now" "[I", .methodLink RX9 60 yX9_isOf, .instanceMethod yX9_isOf, .selects RX9 yX9_isOf yX9_isOf, .initialized RX9, .code yX9_isOf cX9_isOf 3 (some .boolean)] ++ wsX90)
def wsX9_torn : List Cond := .code yX9_torn cX9_torn 3 (some .int) :: ([.fieldLink RX9 7 "AnchoredNotesModel" "now" "[I", .fieldLink RX9 72 "AnchoredNotesModel" "pieces" "I", .methodLink RX9 81 yX9_finds, .instanceMethod yX9_finds, .selects RX9 yX9_finds yX9_finds, .initialized RX9, .code yX9_finds cX9_finds 5 none, .fieldLink RX9 75 "AnchoredNotesModel" "first" "I", .fieldLink RX9 78 "AnchoredNotesModel" "last" "I", .methodLink RX9 60 yX9_isOf, .instanceMethod yX9_isOf, .selects RX9 yX9_isOf yX9_isOf, .code yX9_isOf cX9_isOf 3 (some .boolean)] ++ wsX90)
def wsX9_orphans : List Cond := .code yX9_orphans cX9_orphans 3 (some .int) :: ([.fieldLink RX9 7 "AnchoredNotesModel" "now" "[I", .methodLink RX9 85 yX9_isOrphan, .instanceMethod yX9_isOrphan, .selects RX9 yX9_isOrphan yX9_isOrphan, .initialized RX9, .code yX9_isOrphan cX9_isOrphan 2 (some .boolean), .methodLink RX9 64 yX9_isReply, .instanceMethod yX9_isReply, .selects RX9 yX9_isReply yX9_isReply, .code yX9_isReply cX9_isReply 2 (some .boolean), .methodLink RX9 45 yX9_of0, .instanceMethod yX9_of0, .selects RX9 yX9_of0 yX9_of0, .code yX9_of0 cX9_of0 3 (some .int), .methodLink RX9 68 yX9_present, .instanceMethod yX9_present, .selects RX9 yX9_present yX9_present, .code yX9_present cX9_present 4 (some .int), .methodLink RX9 60 yX9_isOf, .instanceMethod yX9_isOf, .selects RX9 yX9_isOf yX9_isOf, .code yX9_isOf cX9_isOf 3 (some .boolean)] ++ wsX90)
def wsX9_rootOf : List Cond := .code yX9_rootOf cX9_rootOf 5 (some .int) :: ([.methodLink RX9 64 yX9_isReply, .instanceMethod yX9_isReply, .selects RX9 yX9_isReply yX9_isReply, .initialized RX9, .code yX9_isReply cX9_isReply 2 (some .boolean), .methodLink RX9 45 yX9_of0, .instanceMethod yX9_of0, .selects RX9 yX9_of0 yX9_of0, .code yX9_of0 cX9_of0 3 (some .int), .fieldLink RX9 7 "AnchoredNotesModel" "now" "[I"] ++ wsX90)
def wsX9_isBelow : List Cond := .code yX9_isBelow cX9_isBelow 4 (some .boolean) :: ([.methodLink RX9 64 yX9_isReply, .instanceMethod yX9_isReply, .selects RX9 yX9_isReply yX9_isReply, .initialized RX9, .code yX9_isReply cX9_isReply 2 (some .boolean), .methodLink RX9 45 yX9_of0, .instanceMethod yX9_of0, .selects RX9 yX9_of0 yX9_of0, .code yX9_of0 cX9_of0 3 (some .int), .fieldLink RX9 7 "AnchoredNotesModel" "now" "[I"] ++ wsX90)
def wsX9_below : List Cond := .code yX9_below cX9_below 4 (some .int) :: ([.fieldLink RX9 7 "AnchoredNotesModel" "now" "[I", .methodLink RX9 88 yX9_isBelow, .instanceMethod yX9_isBelow, .selects RX9 yX9_isBelow yX9_isBelow, .initialized RX9, .code yX9_isBelow cX9_isBelow 4 (some .boolean), .methodLink RX9 64 yX9_isReply, .instanceMethod yX9_isReply, .selects RX9 yX9_isReply yX9_isReply, .code yX9_isReply cX9_isReply 2 (some .boolean), .methodLink RX9 45 yX9_of0, .instanceMethod yX9_of0, .selects RX9 yX9_of0 yX9_of0, .code yX9_of0 cX9_of0 3 (some .int)] ++ wsX90)
def wsX9_isFor : List Cond := .code yX9_isFor cX9_isFor 2 (some .boolean) :: ([.methodLink RX9 41 yX9_in, .static yX9_in, .initialized RX9, .code yX9_in cX9_in 3 (some .boolean)])
def wsX9_set : List Cond := .code yX9_set cX9_set 4 (some .int) :: ([.fieldLink RX9 7 "AnchoredNotesModel" "now" "[I", .methodLink RX9 41 yX9_in, .static yX9_in, .initialized RX9, .code yX9_in cX9_in 3 (some .boolean), .methodLink RX9 91 yX9_isFor, .static yX9_isFor, .code yX9_isFor cX9_isFor 2 (some .boolean), .methodLink RX9 57 yX9_records, .instanceMethod yX9_records, .selects RX9 yX9_records yX9_records, .code yX9_records cX9_records 2 none, .fieldLink RX9 49 "AnchoredNotesModel" "kept" "I", .fieldLink RX9 13 "AnchoredNotesModel" "past" "[I", .methodLink RX9 53 yX9_lays, .static yX9_lays, .code yX9_lays cX9_lays 5 none] ++ wsX90)
def wsX9_mayWrite : List Cond := .code yX9_mayWrite cX9_mayWrite 3 (some .int) :: ([.fieldLink RX9 7 "AnchoredNotesModel" "now" "[I", .methodLink RX9 41 yX9_in, .static yX9_in, .initialized RX9, .code yX9_in cX9_in 3 (some .boolean)] ++ wsX90)
def wsX9_comes : List Cond := .code yX9_comes cX9_comes 5 none :: ([.fieldLink RX9 7 "AnchoredNotesModel" "now" "[I"] ++ wsX90)
def wsX9_write : List Cond := .code yX9_write cX9_write 4 (some .int) :: ([.fieldLink RX9 7 "AnchoredNotesModel" "now" "[I", .methodLink RX9 94 yX9_mayWrite, .instanceMethod yX9_mayWrite, .selects RX9 yX9_mayWrite yX9_mayWrite, .initialized RX9, .code yX9_mayWrite cX9_mayWrite 3 (some .int), .methodLink RX9 41 yX9_in, .static yX9_in, .code yX9_in cX9_in 3 (some .boolean), .methodLink RX9 57 yX9_records, .instanceMethod yX9_records, .selects RX9 yX9_records yX9_records, .code yX9_records cX9_records 2 none, .fieldLink RX9 49 "AnchoredNotesModel" "kept" "I", .fieldLink RX9 13 "AnchoredNotesModel" "past" "[I", .methodLink RX9 53 yX9_lays, .static yX9_lays, .code yX9_lays cX9_lays 5 none, .methodLink RX9 97 yX9_comes, .instanceMethod yX9_comes, .selects RX9 yX9_comes yX9_comes, .code yX9_comes cX9_comes 5 none] ++ wsX90)
def wsX9_maySpan : List Cond := .code yX9_maySpan cX9_maySpan 3 (some .int) :: ([.methodLink RX9 101 yX9_isPlace, .instanceMethod yX9_isPlace, .selects RX9 yX9_isPlace yX9_isPlace, .initialized RX9, .code yX9_isPlace cX9_isPlace 2 (some .boolean), .fieldLink RX9 7 "AnchoredNotesModel" "now" "[I", .methodLink RX9 41 yX9_in, .static yX9_in, .code yX9_in cX9_in 3 (some .boolean)] ++ wsX90)
def wsX9_goes : List Cond := .code yX9_goes cX9_goes 5 none :: ([.fieldLink RX9 7 "AnchoredNotesModel" "now" "[I"] ++ wsX90)
def wsX9_erases_r1 : List Cond := [Cond.methodLink RX9 104 yX9_orphans, Cond.instanceMethod yX9_orphans, Cond.selects RX9 yX9_orphans yX9_orphans, Cond.initialized RX9, Cond.code yX9_orphans cX9_orphans 3 (some .int), Cond.fieldLink RX9 7 "AnchoredNotesModel" "now" "[I", Cond.methodLink RX9 85 yX9_isOrphan, Cond.instanceMethod yX9_isOrphan, Cond.selects RX9 yX9_isOrphan yX9_isOrphan, Cond.code yX9_isOrphan cX9_isOrphan 2 (some .boolean), Cond.methodLink RX9 64 yX9_isReply, Cond.instanceMethod yX9_isReply, Cond.selects RX9 yX9_isReply yX9_isReply, Cond.code yX9_isReply cX9_isReply 2 (some .boolean), Cond.methodLink RX9 45 yX9_of0, Cond.instanceMethod yX9_of0, Cond.selects RX9 yX9_of0 yX9_of0, Cond.code yX9_of0 cX9_of0 3 (some .int), Cond.methodLink RX9 68 yX9_present, Cond.instanceMethod yX9_present, Cond.selects RX9 yX9_present yX9_present, Cond.code yX9_present cX9_present 4 (some .int), Cond.methodLink RX9 60 yX9_isOf, Cond.instanceMethod yX9_isOf]
def wsX9_erases_r2 : List Cond := [Cond.selects RX9 yX9_isOf yX9_isOf, Cond.code yX9_isOf cX9_isOf 3 (some .boolean), Cond.methodLink RX9 108 yX9_goes, Cond.instanceMethod yX9_goes, Cond.selects RX9 yX9_goes yX9_goes, Cond.code yX9_goes cX9_goes 5 none]
def wsX9_erases : List Cond := .code yX9_erases cX9_erases 4 (some .int) :: ((wsX9_erases_r1 ++ wsX9_erases_r2) ++ wsX90)
def wsX9_erase_r1 : List Cond := [Cond.methodLink RX9 112 yX9_maySpan, Cond.instanceMethod yX9_maySpan, Cond.selects RX9 yX9_maySpan yX9_maySpan, Cond.initialized RX9, Cond.code yX9_maySpan cX9_maySpan 3 (some .int), Cond.methodLink RX9 101 yX9_isPlace, Cond.instanceMethod yX9_isPlace, Cond.selects RX9 yX9_isPlace yX9_isPlace, Cond.code yX9_isPlace cX9_isPlace 2 (some .boolean), Cond.fieldLink RX9 7 "AnchoredNotesModel" "now" "[I", Cond.methodLink RX9 41 yX9_in, Cond.static yX9_in, Cond.code yX9_in cX9_in 3 (some .boolean), Cond.methodLink RX9 57 yX9_records, Cond.instanceMethod yX9_records, Cond.selects RX9 yX9_records yX9_records, Cond.code yX9_records cX9_records 2 none, Cond.fieldLink RX9 49 "AnchoredNotesModel" "kept" "I", Cond.fieldLink RX9 13 "AnchoredNotesModel" "past" "[I", Cond.methodLink RX9 53 yX9_lays, Cond.static yX9_lays, Cond.code yX9_lays cX9_lays 5 none, Cond.methodLink RX9 115 yX9_erases, Cond.instanceMethod yX9_erases]
def wsX9_erase_r2 : List Cond := [Cond.selects RX9 yX9_erases yX9_erases, Cond.code yX9_erases cX9_erases 4 (some .int), Cond.methodLink RX9 104 yX9_orphans, Cond.instanceMethod yX9_orphans, Cond.selects RX9 yX9_orphans yX9_orphans, Cond.code yX9_orphans cX9_orphans 3 (some .int), Cond.methodLink RX9 85 yX9_isOrphan, Cond.instanceMethod yX9_isOrphan, Cond.selects RX9 yX9_isOrphan yX9_isOrphan, Cond.code yX9_isOrphan cX9_isOrphan 2 (some .boolean), Cond.methodLink RX9 64 yX9_isReply, Cond.instanceMethod yX9_isReply, Cond.selects RX9 yX9_isReply yX9_isReply, Cond.code yX9_isReply cX9_isReply 2 (some .boolean), Cond.methodLink RX9 45 yX9_of0, Cond.instanceMethod yX9_of0, Cond.selects RX9 yX9_of0 yX9_of0, Cond.code yX9_of0 cX9_of0 3 (some .int), Cond.methodLink RX9 68 yX9_present, Cond.instanceMethod yX9_present, Cond.selects RX9 yX9_present yX9_present, Cond.code yX9_present cX9_present 4 (some .int), Cond.methodLink RX9 60 yX9_isOf, Cond.instanceMethod yX9_isOf]
def wsX9_erase_r3 : List Cond := [Cond.selects RX9 yX9_isOf yX9_isOf, Cond.code yX9_isOf cX9_isOf 3 (some .boolean), Cond.methodLink RX9 108 yX9_goes, Cond.instanceMethod yX9_goes, Cond.selects RX9 yX9_goes yX9_goes, Cond.code yX9_goes cX9_goes 5 none]
def wsX9_erase : List Cond := .code yX9_erase cX9_erase 4 (some .int) :: ((wsX9_erase_r1 ++ (wsX9_erase_r2 ++ wsX9_erase_r3)) ++ wsX90)
def wsX9_mayMove : List Cond := .code yX9_mayMove cX9_mayMove 5 (some .int) :: ([.fieldLink RX9 7 "AnchoredNotesModel" "now" "[I", .methodLink RX9 112 yX9_maySpan, .instanceMethod yX9_maySpan, .selects RX9 yX9_maySpan yX9_maySpan, .initialized RX9, .code yX9_maySpan cX9_maySpan 3 (some .int), .methodLink RX9 101 yX9_isPlace, .instanceMethod yX9_isPlace, .selects RX9 yX9_isPlace yX9_isPlace, .code yX9_isPlace cX9_isPlace 2 (some .boolean), .methodLink RX9 41 yX9_in, .static yX9_in, .code yX9_in cX9_in 3 (some .boolean)] ++ wsX90)
def wsX9_moves : List Cond := .code yX9_moves cX9_moves 6 none :: ([.fieldLink RX9 38 "AnchoredNotesModel" "taken" "[I", .fieldLink RX9 7 "AnchoredNotesModel" "now" "[I", .methodLink RX9 108 yX9_goes, .instanceMethod yX9_goes, .selects RX9 yX9_goes yX9_goes, .initialized RX9, .code yX9_goes cX9_goes 5 none, .methodLink RX9 97 yX9_comes, .instanceMethod yX9_comes, .selects RX9 yX9_comes yX9_comes, .code yX9_comes cX9_comes 5 none] ++ wsX90)
def wsX9_move_r1 : List Cond := [Cond.methodLink RX9 118 yX9_mayMove, Cond.instanceMethod yX9_mayMove, Cond.selects RX9 yX9_mayMove yX9_mayMove, Cond.initialized RX9, Cond.code yX9_mayMove cX9_mayMove 5 (some .int), Cond.fieldLink RX9 7 "AnchoredNotesModel" "now" "[I", Cond.methodLink RX9 112 yX9_maySpan, Cond.instanceMethod yX9_maySpan, Cond.selects RX9 yX9_maySpan yX9_maySpan, Cond.code yX9_maySpan cX9_maySpan 3 (some .int), Cond.methodLink RX9 101 yX9_isPlace, Cond.instanceMethod yX9_isPlace, Cond.selects RX9 yX9_isPlace yX9_isPlace, Cond.code yX9_isPlace cX9_isPlace 2 (some .boolean), Cond.methodLink RX9 41 yX9_in, Cond.static yX9_in, Cond.code yX9_in cX9_in 3 (some .boolean), Cond.methodLink RX9 57 yX9_records, Cond.instanceMethod yX9_records, Cond.selects RX9 yX9_records yX9_records, Cond.code yX9_records cX9_records 2 none, Cond.fieldLink RX9 49 "AnchoredNotesModel" "kept" "I", Cond.fieldLink RX9 13 "AnchoredNotesModel" "past" "[I", Cond.methodLink RX9 53 yX9_lays]
def wsX9_move_r2 : List Cond := [Cond.static yX9_lays, Cond.code yX9_lays cX9_lays 5 none, Cond.methodLink RX9 122 yX9_moves, Cond.instanceMethod yX9_moves, Cond.selects RX9 yX9_moves yX9_moves, Cond.code yX9_moves cX9_moves 6 none, Cond.fieldLink RX9 38 "AnchoredNotesModel" "taken" "[I", Cond.methodLink RX9 108 yX9_goes, Cond.instanceMethod yX9_goes, Cond.selects RX9 yX9_goes yX9_goes, Cond.code yX9_goes cX9_goes 5 none, Cond.methodLink RX9 97 yX9_comes, Cond.instanceMethod yX9_comes, Cond.selects RX9 yX9_comes yX9_comes, Cond.code yX9_comes cX9_comes 5 none, Cond.methodLink RX9 125 yX9_torn, Cond.instanceMethod yX9_torn, Cond.selects RX9 yX9_torn yX9_torn, Cond.code yX9_torn cX9_torn 3 (some .int), Cond.fieldLink RX9 72 "AnchoredNotesModel" "pieces" "I", Cond.methodLink RX9 81 yX9_finds, Cond.instanceMethod yX9_finds, Cond.selects RX9 yX9_finds yX9_finds, Cond.code yX9_finds cX9_finds 5 none]
def wsX9_move_r3 : List Cond := [Cond.fieldLink RX9 75 "AnchoredNotesModel" "first" "I", Cond.fieldLink RX9 78 "AnchoredNotesModel" "last" "I", Cond.methodLink RX9 60 yX9_isOf, Cond.instanceMethod yX9_isOf, Cond.selects RX9 yX9_isOf yX9_isOf, Cond.code yX9_isOf cX9_isOf 3 (some .boolean)]
def wsX9_move : List Cond := .code yX9_move cX9_move 5 (some .int) :: ((wsX9_move_r1 ++ (wsX9_move_r2 ++ wsX9_move_r3)) ++ wsX90)
def wsX9_mayNote : List Cond := .code yX9_mayNote cX9_mayNote 4 (some .int) :: ([.fieldLink RX9 7 "AnchoredNotesModel" "now" "[I", .methodLink RX9 112 yX9_maySpan, .instanceMethod yX9_maySpan, .selects RX9 yX9_maySpan yX9_maySpan, .initialized RX9, .code yX9_maySpan cX9_maySpan 3 (some .int), .methodLink RX9 101 yX9_isPlace, .instanceMethod yX9_isPlace, .selects RX9 yX9_isPlace yX9_isPlace, .code yX9_isPlace cX9_isPlace 2 (some .boolean), .methodLink RX9 41 yX9_in, .static yX9_in, .code yX9_in cX9_in 3 (some .boolean)] ++ wsX90)
def wsX9_remembers : List Cond := .code yX9_remembers cX9_remembers 7 none :: ([.fieldLink RX9 7 "AnchoredNotesModel" "now" "[I"] ++ wsX90)
def wsX9_takes : List Cond := .code yX9_takes cX9_takes 5 none :: ([.fieldLink RX9 7 "AnchoredNotesModel" "now" "[I", .methodLink RX9 128 yX9_remembers, .instanceMethod yX9_remembers, .selects RX9 yX9_remembers yX9_remembers, .initialized RX9, .code yX9_remembers cX9_remembers 7 none] ++ wsX90)
def wsX9_notes : List Cond := .code yX9_notes cX9_notes 6 (some .int) :: ([.fieldLink RX9 7 "AnchoredNotesModel" "now" "[I", .methodLink RX9 131 yX9_takes, .instanceMethod yX9_takes, .selects RX9 yX9_takes yX9_takes, .initialized RX9, .code yX9_takes cX9_takes 5 none, .methodLink RX9 128 yX9_remembers, .instanceMethod yX9_remembers, .selects RX9 yX9_remembers yX9_remembers, .code yX9_remembers cX9_remembers 7 none] ++ wsX90)
def wsX9_note_r1 : List Cond := [Cond.methodLink RX9 134 yX9_mayNote, Cond.instanceMethod yX9_mayNote, Cond.selects RX9 yX9_mayNote yX9_mayNote, Cond.initialized RX9, Cond.code yX9_mayNote cX9_mayNote 4 (some .int), Cond.fieldLink RX9 7 "AnchoredNotesModel" "now" "[I", Cond.methodLink RX9 112 yX9_maySpan, Cond.instanceMethod yX9_maySpan, Cond.selects RX9 yX9_maySpan yX9_maySpan, Cond.code yX9_maySpan cX9_maySpan 3 (some .int), Cond.methodLink RX9 101 yX9_isPlace, Cond.instanceMethod yX9_isPlace, Cond.selects RX9 yX9_isPlace yX9_isPlace, Cond.code yX9_isPlace cX9_isPlace 2 (some .boolean), Cond.methodLink RX9 41 yX9_in, Cond.static yX9_in, Cond.code yX9_in cX9_in 3 (some .boolean), Cond.methodLink RX9 57 yX9_records, Cond.instanceMethod yX9_records, Cond.selects RX9 yX9_records yX9_records, Cond.code yX9_records cX9_records 2 none, Cond.fieldLink RX9 49 "AnchoredNotesModel" "kept" "I", Cond.fieldLink RX9 13 "AnchoredNotesModel" "past" "[I", Cond.methodLink RX9 53 yX9_lays]
def wsX9_note_r2 : List Cond := [Cond.static yX9_lays, Cond.code yX9_lays cX9_lays 5 none, Cond.methodLink RX9 137 yX9_notes, Cond.instanceMethod yX9_notes, Cond.selects RX9 yX9_notes yX9_notes, Cond.code yX9_notes cX9_notes 6 (some .int), Cond.methodLink RX9 131 yX9_takes, Cond.instanceMethod yX9_takes, Cond.selects RX9 yX9_takes yX9_takes, Cond.code yX9_takes cX9_takes 5 none, Cond.methodLink RX9 128 yX9_remembers, Cond.instanceMethod yX9_remembers, Cond.selects RX9 yX9_remembers yX9_remembers, Cond.code yX9_remembers cX9_remembers 7 none]
def wsX9_note : List Cond := .code yX9_note cX9_note 4 (some .int) :: ((wsX9_note_r1 ++ wsX9_note_r2) ++ wsX90)
def wsX9_mayReply : List Cond := .code yX9_mayReply cX9_mayReply 2 (some .int) :: ([.fieldLink RX9 7 "AnchoredNotesModel" "now" "[I", .methodLink RX9 140 yX9_isNote, .instanceMethod yX9_isNote, .selects RX9 yX9_isNote yX9_isNote, .initialized RX9, .code yX9_isNote cX9_isNote 2 (some .boolean), .methodLink RX9 41 yX9_in, .static yX9_in, .code yX9_in cX9_in 3 (some .boolean)] ++ wsX90)
def wsX9_replies : List Cond := .code yX9_replies cX9_replies 3 (some .int) :: ([.fieldLink RX9 7 "AnchoredNotesModel" "now" "[I"] ++ wsX90)
def wsX9_reply_r1 : List Cond := [Cond.methodLink RX9 143 yX9_mayReply, Cond.instanceMethod yX9_mayReply, Cond.selects RX9 yX9_mayReply yX9_mayReply, Cond.initialized RX9, Cond.code yX9_mayReply cX9_mayReply 2 (some .int), Cond.fieldLink RX9 7 "AnchoredNotesModel" "now" "[I", Cond.methodLink RX9 140 yX9_isNote, Cond.instanceMethod yX9_isNote, Cond.selects RX9 yX9_isNote yX9_isNote, Cond.code yX9_isNote cX9_isNote 2 (some .boolean), Cond.methodLink RX9 41 yX9_in, Cond.static yX9_in, Cond.code yX9_in cX9_in 3 (some .boolean), Cond.methodLink RX9 57 yX9_records, Cond.instanceMethod yX9_records, Cond.selects RX9 yX9_records yX9_records, Cond.code yX9_records cX9_records 2 none, Cond.fieldLink RX9 49 "AnchoredNotesModel" "kept" "I", Cond.fieldLink RX9 13 "AnchoredNotesModel" "past" "[I", Cond.methodLink RX9 53 yX9_lays, Cond.static yX9_lays, Cond.code yX9_lays cX9_lays 5 none, Cond.methodLink RX9 146 yX9_replies, Cond.instanceMethod yX9_replies]
def wsX9_reply_r2 : List Cond := [Cond.selects RX9 yX9_replies yX9_replies, Cond.code yX9_replies cX9_replies 3 (some .int)]
def wsX9_reply : List Cond := .code yX9_reply cX9_reply 3 (some .int) :: ((wsX9_reply_r1 ++ wsX9_reply_r2) ++ wsX90)
def wsX9_noteGoes : List Cond := .code yX9_noteGoes cX9_noteGoes 5 none :: ([.fieldLink RX9 7 "AnchoredNotesModel" "now" "[I", .methodLink RX9 45 yX9_of0, .instanceMethod yX9_of0, .selects RX9 yX9_of0 yX9_of0, .initialized RX9, .code yX9_of0 cX9_of0 3 (some .int)] ++ wsX90)
def wsX9_drops : List Cond := .code yX9_drops cX9_drops 4 (some .int) :: ([.fieldLink RX9 7 "AnchoredNotesModel" "now" "[I", .methodLink RX9 88 yX9_isBelow, .instanceMethod yX9_isBelow, .selects RX9 yX9_isBelow yX9_isBelow, .initialized RX9, .code yX9_isBelow cX9_isBelow 4 (some .boolean), .methodLink RX9 64 yX9_isReply, .instanceMethod yX9_isReply, .selects RX9 yX9_isReply yX9_isReply, .code yX9_isReply cX9_isReply 2 (some .boolean), .methodLink RX9 45 yX9_of0, .instanceMethod yX9_of0, .selects RX9 yX9_of0 yX9_of0, .code yX9_of0 cX9_of0 3 (some .int), .methodLink RX9 149 yX9_noteGoes, .instanceMethod yX9_noteGoes, .selects RX9 yX9_noteGoes yX9_noteGoes, .code yX9_noteGoes cX9_noteGoes 5 none] ++ wsX90)
def wsX9_drop_r1 : List Cond := [Cond.methodLink RX9 140 yX9_isNote, Cond.instanceMethod yX9_isNote, Cond.selects RX9 yX9_isNote yX9_isNote, Cond.initialized RX9, Cond.code yX9_isNote cX9_isNote 2 (some .boolean), Cond.fieldLink RX9 7 "AnchoredNotesModel" "now" "[I", Cond.methodLink RX9 41 yX9_in, Cond.static yX9_in, Cond.code yX9_in cX9_in 3 (some .boolean), Cond.methodLink RX9 57 yX9_records, Cond.instanceMethod yX9_records, Cond.selects RX9 yX9_records yX9_records, Cond.code yX9_records cX9_records 2 none, Cond.fieldLink RX9 49 "AnchoredNotesModel" "kept" "I", Cond.fieldLink RX9 13 "AnchoredNotesModel" "past" "[I", Cond.methodLink RX9 53 yX9_lays, Cond.static yX9_lays, Cond.code yX9_lays cX9_lays 5 none, Cond.methodLink RX9 152 yX9_drops, Cond.instanceMethod yX9_drops, Cond.selects RX9 yX9_drops yX9_drops, Cond.code yX9_drops cX9_drops 4 (some .int), Cond.methodLink RX9 88 yX9_isBelow, Cond.instanceMethod yX9_isBelow]
def wsX9_drop_r2 : List Cond := [Cond.selects RX9 yX9_isBelow yX9_isBelow, Cond.code yX9_isBelow cX9_isBelow 4 (some .boolean), Cond.methodLink RX9 64 yX9_isReply, Cond.instanceMethod yX9_isReply, Cond.selects RX9 yX9_isReply yX9_isReply, Cond.code yX9_isReply cX9_isReply 2 (some .boolean), Cond.methodLink RX9 45 yX9_of0, Cond.instanceMethod yX9_of0, Cond.selects RX9 yX9_of0 yX9_of0, Cond.code yX9_of0 cX9_of0 3 (some .int), Cond.methodLink RX9 149 yX9_noteGoes, Cond.instanceMethod yX9_noteGoes, Cond.selects RX9 yX9_noteGoes yX9_noteGoes, Cond.code yX9_noteGoes cX9_noteGoes 5 none]
def wsX9_drop : List Cond := .code yX9_drop cX9_drop 2 (some .int) :: ((wsX9_drop_r1 ++ wsX9_drop_r2) ++ wsX90)
def wsX9_looksLike : List Cond := .code yX9_looksLike cX9_looksLike 6 (some .boolean) :: ([.fieldLink RX9 7 "AnchoredNotesModel" "now" "[I", .methodLink RX9 45 yX9_of0, .instanceMethod yX9_of0, .selects RX9 yX9_of0 yX9_of0, .initialized RX9, .code yX9_of0 cX9_of0 3 (some .int)] ++ wsX90)
def wsX9_likeness : List Cond := .code yX9_likeness cX9_likeness 6 (some .int) :: ([.fieldLink RX9 7 "AnchoredNotesModel" "now" "[I", .methodLink RX9 45 yX9_of0, .instanceMethod yX9_of0, .selects RX9 yX9_of0 yX9_of0, .initialized RX9, .code yX9_of0 cX9_of0 3 (some .int)] ++ wsX90)
def wsX9_possible : List Cond := .code yX9_possible cX9_possible 7 (some .int) :: ([.fieldLink RX9 7 "AnchoredNotesModel" "now" "[I", .methodLink RX9 155 yX9_looksLike, .instanceMethod yX9_looksLike, .selects RX9 yX9_looksLike yX9_looksLike, .initialized RX9, .code yX9_looksLike cX9_looksLike 6 (some .boolean), .methodLink RX9 45 yX9_of0, .instanceMethod yX9_of0, .selects RX9 yX9_of0 yX9_of0, .code yX9_of0 cX9_of0 3 (some .int), .methodLink RX9 158 yX9_likeness, .instanceMethod yX9_likeness, .selects RX9 yX9_likeness yX9_likeness, .code yX9_likeness cX9_likeness 6 (some .int)] ++ wsX90)
def wsX9_mayReclaim_r1 : List Cond := [Cond.methodLink RX9 140 yX9_isNote, Cond.instanceMethod yX9_isNote, Cond.selects RX9 yX9_isNote yX9_isNote, Cond.initialized RX9, Cond.code yX9_isNote cX9_isNote 2 (some .boolean), Cond.fieldLink RX9 7 "AnchoredNotesModel" "now" "[I", Cond.methodLink RX9 41 yX9_in, Cond.static yX9_in, Cond.code yX9_in cX9_in 3 (some .boolean), Cond.methodLink RX9 85 yX9_isOrphan, Cond.instanceMethod yX9_isOrphan, Cond.selects RX9 yX9_isOrphan yX9_isOrphan, Cond.code yX9_isOrphan cX9_isOrphan 2 (some .boolean), Cond.methodLink RX9 64 yX9_isReply, Cond.instanceMethod yX9_isReply, Cond.selects RX9 yX9_isReply yX9_isReply, Cond.code yX9_isReply cX9_isReply 2 (some .boolean), Cond.methodLink RX9 45 yX9_of0, Cond.instanceMethod yX9_of0, Cond.selects RX9 yX9_of0 yX9_of0, Cond.code yX9_of0 cX9_of0 3 (some .int), Cond.methodLink RX9 68 yX9_present, Cond.instanceMethod yX9_present, Cond.selects RX9 yX9_present yX9_present]
def wsX9_mayReclaim_r2 : List Cond := [Cond.code yX9_present cX9_present 4 (some .int), Cond.methodLink RX9 60 yX9_isOf, Cond.instanceMethod yX9_isOf, Cond.selects RX9 yX9_isOf yX9_isOf, Cond.code yX9_isOf cX9_isOf 3 (some .boolean), Cond.methodLink RX9 161 yX9_possible, Cond.instanceMethod yX9_possible, Cond.selects RX9 yX9_possible yX9_possible, Cond.code yX9_possible cX9_possible 7 (some .int), Cond.methodLink RX9 155 yX9_looksLike, Cond.instanceMethod yX9_looksLike, Cond.selects RX9 yX9_looksLike yX9_looksLike, Cond.code yX9_looksLike cX9_looksLike 6 (some .boolean), Cond.methodLink RX9 158 yX9_likeness, Cond.instanceMethod yX9_likeness, Cond.selects RX9 yX9_likeness yX9_likeness, Cond.code yX9_likeness cX9_likeness 6 (some .int)]
def wsX9_mayReclaim : List Cond := .code yX9_mayReclaim cX9_mayReclaim 2 (some .int) :: ((wsX9_mayReclaim_r1 ++ wsX9_mayReclaim_r2) ++ wsX90)
def wsX9_reclaims_r1 : List Cond := [Cond.methodLink RX9 161 yX9_possible, Cond.instanceMethod yX9_possible, Cond.selects RX9 yX9_possible yX9_possible, Cond.initialized RX9, Cond.code yX9_possible cX9_possible 7 (some .int), Cond.fieldLink RX9 7 "AnchoredNotesModel" "now" "[I", Cond.methodLink RX9 155 yX9_looksLike, Cond.instanceMethod yX9_looksLike, Cond.selects RX9 yX9_looksLike yX9_looksLike, Cond.code yX9_looksLike cX9_looksLike 6 (some .boolean), Cond.methodLink RX9 45 yX9_of0, Cond.instanceMethod yX9_of0, Cond.selects RX9 yX9_of0 yX9_of0, Cond.code yX9_of0 cX9_of0 3 (some .int), Cond.methodLink RX9 158 yX9_likeness, Cond.instanceMethod yX9_likeness, Cond.selects RX9 yX9_likeness yX9_likeness, Cond.code yX9_likeness cX9_likeness 6 (some .int), Cond.methodLink RX9 131 yX9_takes, Cond.instanceMethod yX9_takes, Cond.selects RX9 yX9_takes yX9_takes, Cond.code yX9_takes cX9_takes 5 none, Cond.methodLink RX9 128 yX9_remembers, Cond.instanceMethod yX9_remembers]
def wsX9_reclaims_r2 : List Cond := [Cond.selects RX9 yX9_remembers yX9_remembers, Cond.code yX9_remembers cX9_remembers 7 none]
def wsX9_reclaims : List Cond := .code yX9_reclaims cX9_reclaims 3 (some .int) :: ((wsX9_reclaims_r1 ++ wsX9_reclaims_r2) ++ wsX90)
def wsX9_reclaim_r1 : List Cond := [Cond.methodLink RX9 164 yX9_mayReclaim, Cond.instanceMethod yX9_mayReclaim, Cond.selects RX9 yX9_mayReclaim yX9_mayReclaim, Cond.initialized RX9, Cond.code yX9_mayReclaim cX9_mayReclaim 2 (some .int), Cond.methodLink RX9 140 yX9_isNote, Cond.instanceMethod yX9_isNote, Cond.selects RX9 yX9_isNote yX9_isNote, Cond.code yX9_isNote cX9_isNote 2 (some .boolean), Cond.fieldLink RX9 7 "AnchoredNotesModel" "now" "[I", Cond.methodLink RX9 41 yX9_in, Cond.static yX9_in, Cond.code yX9_in cX9_in 3 (some .boolean), Cond.methodLink RX9 85 yX9_isOrphan, Cond.instanceMethod yX9_isOrphan, Cond.selects RX9 yX9_isOrphan yX9_isOrphan, Cond.code yX9_isOrphan cX9_isOrphan 2 (some .boolean), Cond.methodLink RX9 64 yX9_isReply, Cond.instanceMethod yX9_isReply, Cond.selects RX9 yX9_isReply yX9_isReply, Cond.code yX9_isReply cX9_isReply 2 (some .boolean), Cond.methodLink RX9 45 yX9_of0, Cond.instanceMethod yX9_of0, Cond.selects RX9 yX9_of0 yX9_of0]
def wsX9_reclaim_r2 : List Cond := [Cond.code yX9_of0 cX9_of0 3 (some .int), Cond.methodLink RX9 68 yX9_present, Cond.instanceMethod yX9_present, Cond.selects RX9 yX9_present yX9_present, Cond.code yX9_present cX9_present 4 (some .int), Cond.methodLink RX9 60 yX9_isOf, Cond.instanceMethod yX9_isOf, Cond.selects RX9 yX9_isOf yX9_isOf, Cond.code yX9_isOf cX9_isOf 3 (some .boolean), Cond.methodLink RX9 161 yX9_possible, Cond.instanceMethod yX9_possible, Cond.selects RX9 yX9_possible yX9_possible, Cond.code yX9_possible cX9_possible 7 (some .int), Cond.methodLink RX9 155 yX9_looksLike, Cond.instanceMethod yX9_looksLike, Cond.selects RX9 yX9_looksLike yX9_looksLike, Cond.code yX9_looksLike cX9_looksLike 6 (some .boolean), Cond.methodLink RX9 158 yX9_likeness, Cond.instanceMethod yX9_likeness, Cond.selects RX9 yX9_likeness yX9_likeness, Cond.code yX9_likeness cX9_likeness 6 (some .int), Cond.methodLink RX9 57 yX9_records, Cond.instanceMethod yX9_records, Cond.selects RX9 yX9_records yX9_records]
def wsX9_reclaim_r3 : List Cond := [Cond.code yX9_records cX9_records 2 none, Cond.fieldLink RX9 49 "AnchoredNotesModel" "kept" "I", Cond.fieldLink RX9 13 "AnchoredNotesModel" "past" "[I", Cond.methodLink RX9 53 yX9_lays, Cond.static yX9_lays, Cond.code yX9_lays cX9_lays 5 none, Cond.methodLink RX9 167 yX9_reclaims, Cond.instanceMethod yX9_reclaims, Cond.selects RX9 yX9_reclaims yX9_reclaims, Cond.code yX9_reclaims cX9_reclaims 3 (some .int), Cond.methodLink RX9 131 yX9_takes, Cond.instanceMethod yX9_takes, Cond.selects RX9 yX9_takes yX9_takes, Cond.code yX9_takes cX9_takes 5 none, Cond.methodLink RX9 128 yX9_remembers, Cond.instanceMethod yX9_remembers, Cond.selects RX9 yX9_remembers yX9_remembers, Cond.code yX9_remembers cX9_remembers 7 none]
def wsX9_reclaim : List Cond := .code yX9_reclaim cX9_reclaim 3 (some .int) :: ((wsX9_reclaim_r1 ++ (wsX9_reclaim_r2 ++ wsX9_reclaim_r3)) ++ wsX90)
def wsX9_prints : List Cond := .code yX9_prints cX9_prints 5 none :: ([.fieldLink RX9 35 "AnchoredNotesModel" "full" "[I", .fieldLink RX9 7 "AnchoredNotesModel" "now" "[I", .fieldLink RX9 29 "AnchoredNotesModel" "lines" "[I", .fieldLink RX9 75 "AnchoredNotesModel" "first" "I", .fieldLink RX9 32 "AnchoredNotesModel" "own" "[I", .methodLink RX9 81 yX9_finds, .instanceMethod yX9_finds, .selects RX9 yX9_finds yX9_finds, .initialized RX9, .code yX9_finds cX9_finds 5 none, .fieldLink RX9 72 "AnchoredNotesModel" "pieces" "I", .fieldLink RX9 78 "AnchoredNotesModel" "last" "I", .methodLink RX9 60 yX9_isOf, .instanceMethod yX9_isOf, .selects RX9 yX9_isOf yX9_isOf, .code yX9_isOf cX9_isOf 3 (some .boolean)] ++ wsX90)
def wsX9_leaders : List Cond := .code yX9_leaders cX9_leaders 6 (some .int) :: ([.fieldLink RX9 7 "AnchoredNotesModel" "now" "[I", .fieldLink RX9 29 "AnchoredNotesModel" "lines" "[I", .fieldLink RX9 32 "AnchoredNotesModel" "own" "[I"] ++ wsX90)
def wsX9_lastLine : List Cond := .code yX9_lastLine cX9_lastLine 3 (some .int) :: ([.fieldLink RX9 7 "AnchoredNotesModel" "now" "[I", .fieldLink RX9 29 "AnchoredNotesModel" "lines" "[I"] ++ wsX90)
def wsX9_letter : List Cond := .code yX9_letter cX9_letter 2 (some .int) :: ([.fieldLink RX9 7 "AnchoredNotesModel" "now" "[I", .methodLink RX9 101 yX9_isPlace, .instanceMethod yX9_isPlace, .selects RX9 yX9_isPlace yX9_isPlace, .initialized RX9, .code yX9_isPlace cX9_isPlace 2 (some .boolean), .methodLink RX9 41 yX9_in, .static yX9_in, .code yX9_in cX9_in 3 (some .boolean)] ++ wsX90)
def wsX9_ofNote_r1 : List Cond := [Cond.fieldLink RX9 75 "AnchoredNotesModel" "first" "I", Cond.fieldLink RX9 78 "AnchoredNotesModel" "last" "I", Cond.fieldLink RX9 72 "AnchoredNotesModel" "pieces" "I", Cond.methodLink RX9 64 yX9_isReply, Cond.instanceMethod yX9_isReply, Cond.selects RX9 yX9_isReply yX9_isReply, Cond.initialized RX9, Cond.code yX9_isReply cX9_isReply 2 (some .boolean), Cond.methodLink RX9 45 yX9_of0, Cond.instanceMethod yX9_of0, Cond.selects RX9 yX9_of0 yX9_of0, Cond.code yX9_of0 cX9_of0 3 (some .int), Cond.fieldLink RX9 7 "AnchoredNotesModel" "now" "[I", Cond.methodLink RX9 85 yX9_isOrphan, Cond.instanceMethod yX9_isOrphan, Cond.selects RX9 yX9_isOrphan yX9_isOrphan, Cond.code yX9_isOrphan cX9_isOrphan 2 (some .boolean), Cond.methodLink RX9 68 yX9_present, Cond.instanceMethod yX9_present, Cond.selects RX9 yX9_present yX9_present, Cond.code yX9_present cX9_present 4 (some .int), Cond.methodLink RX9 60 yX9_isOf, Cond.instanceMethod yX9_isOf, Cond.selects RX9 yX9_isOf yX9_isOf]
def wsX9_ofNote_r2 : List Cond := [Cond.code yX9_isOf cX9_isOf 3 (some .boolean), Cond.methodLink RX9 170 yX9_rootOf, Cond.instanceMethod yX9_rootOf, Cond.selects RX9 yX9_rootOf yX9_rootOf, Cond.code yX9_rootOf cX9_rootOf 5 (some .int), Cond.methodLink RX9 81 yX9_finds, Cond.instanceMethod yX9_finds, Cond.selects RX9 yX9_finds yX9_finds, Cond.code yX9_finds cX9_finds 5 none, Cond.methodLink RX9 174 yX9_below, Cond.instanceMethod yX9_below, Cond.selects RX9 yX9_below yX9_below, Cond.code yX9_below cX9_below 4 (some .int), Cond.methodLink RX9 88 yX9_isBelow, Cond.instanceMethod yX9_isBelow, Cond.selects RX9 yX9_isBelow yX9_isBelow, Cond.code yX9_isBelow cX9_isBelow 4 (some .boolean)]
def wsX9_ofNote : List Cond := .code yX9_ofNote cX9_ofNote 3 (some .int) :: ((wsX9_ofNote_r1 ++ wsX9_ofNote_r2) ++ wsX90)
def wsX9_of_r1 : List Cond := [Cond.methodLink RX9 140 yX9_isNote, Cond.instanceMethod yX9_isNote, Cond.selects RX9 yX9_isNote yX9_isNote, Cond.initialized RX9, Cond.code yX9_isNote cX9_isNote 2 (some .boolean), Cond.fieldLink RX9 7 "AnchoredNotesModel" "now" "[I", Cond.methodLink RX9 41 yX9_in, Cond.static yX9_in, Cond.code yX9_in cX9_in 3 (some .boolean), Cond.methodLink RX9 177 yX9_ofNote, Cond.instanceMethod yX9_ofNote, Cond.selects RX9 yX9_ofNote yX9_ofNote, Cond.code yX9_ofNote cX9_ofNote 3 (some .int), Cond.fieldLink RX9 75 "AnchoredNotesModel" "first" "I", Cond.fieldLink RX9 78 "AnchoredNotesModel" "last" "I", Cond.fieldLink RX9 72 "AnchoredNotesModel" "pieces" "I", Cond.methodLink RX9 64 yX9_isReply, Cond.instanceMethod yX9_isReply, Cond.selects RX9 yX9_isReply yX9_isReply, Cond.code yX9_isReply cX9_isReply 2 (some .boolean), Cond.methodLink RX9 45 yX9_of0, Cond.instanceMethod yX9_of0, Cond.selects RX9 yX9_of0 yX9_of0, Cond.code yX9_of0 cX9_of0 3 (some .int)]
def wsX9_of_r2 : List Cond := [Cond.methodLink RX9 85 yX9_isOrphan, Cond.instanceMethod yX9_isOrphan, Cond.selects RX9 yX9_isOrphan yX9_isOrphan, Cond.code yX9_isOrphan cX9_isOrphan 2 (some .boolean), Cond.methodLink RX9 68 yX9_present, Cond.instanceMethod yX9_present, Cond.selects RX9 yX9_present yX9_present, Cond.code yX9_present cX9_present 4 (some .int), Cond.methodLink RX9 60 yX9_isOf, Cond.instanceMethod yX9_isOf, Cond.selects RX9 yX9_isOf yX9_isOf, Cond.code yX9_isOf cX9_isOf 3 (some .boolean), Cond.methodLink RX9 170 yX9_rootOf, Cond.instanceMethod yX9_rootOf, Cond.selects RX9 yX9_rootOf yX9_rootOf, Cond.code yX9_rootOf cX9_rootOf 5 (some .int), Cond.methodLink RX9 81 yX9_finds, Cond.instanceMethod yX9_finds, Cond.selects RX9 yX9_finds yX9_finds, Cond.code yX9_finds cX9_finds 5 none, Cond.methodLink RX9 174 yX9_below, Cond.instanceMethod yX9_below, Cond.selects RX9 yX9_below yX9_below, Cond.code yX9_below cX9_below 4 (some .int)]
def wsX9_of_r3 : List Cond := [Cond.methodLink RX9 88 yX9_isBelow, Cond.instanceMethod yX9_isBelow, Cond.selects RX9 yX9_isBelow yX9_isBelow, Cond.code yX9_isBelow cX9_isBelow 4 (some .boolean)]
def wsX9_of : List Cond := .code yX9_of cX9_of 3 (some .int) :: ((wsX9_of_r1 ++ (wsX9_of_r2 ++ wsX9_of_r3)) ++ wsX90)
def wsX9_word : List Cond := .code yX9_word cX9_word 3 (some .int) :: ([.methodLink RX9 140 yX9_isNote, .instanceMethod yX9_isNote, .selects RX9 yX9_isNote yX9_isNote, .initialized RX9, .code yX9_isNote cX9_isNote 2 (some .boolean), .fieldLink RX9 7 "AnchoredNotesModel" "now" "[I", .methodLink RX9 41 yX9_in, .static yX9_in, .code yX9_in cX9_in 3 (some .boolean), .methodLink RX9 64 yX9_isReply, .instanceMethod yX9_isReply, .selects RX9 yX9_isReply yX9_isReply, .code yX9_isReply cX9_isReply 2 (some .boolean), .methodLink RX9 45 yX9_of0, .instanceMethod yX9_of0, .selects RX9 yX9_of0 yX9_of0, .code yX9_of0 cX9_of0 3 (some .int)] ++ wsX90)
def wsX9_at : List Cond := .code yX9_at cX9_at 2 (some .int) :: ([.fieldLink RX9 7 "AnchoredNotesModel" "now" "[I", .methodLink RX9 101 yX9_isPlace, .instanceMethod yX9_isPlace, .selects RX9 yX9_isPlace yX9_isPlace, .initialized RX9, .code yX9_isPlace cX9_isPlace 2 (some .boolean), .methodLink RX9 41 yX9_in, .static yX9_in, .code yX9_in cX9_in 3 (some .boolean)] ++ wsX90)
def wsX9_printed_r1 : List Cond := [Cond.fieldLink RX9 7 "AnchoredNotesModel" "now" "[I", Cond.fieldLink RX9 29 "AnchoredNotesModel" "lines" "[I", Cond.fieldLink RX9 32 "AnchoredNotesModel" "own" "[I", Cond.methodLink RX9 140 yX9_isNote, Cond.instanceMethod yX9_isNote, Cond.selects RX9 yX9_isNote yX9_isNote, Cond.initialized RX9, Cond.code yX9_isNote cX9_isNote 2 (some .boolean), Cond.methodLink RX9 41 yX9_in, Cond.static yX9_in, Cond.code yX9_in cX9_in 3 (some .boolean), Cond.methodLink RX9 180 yX9_prints, Cond.instanceMethod yX9_prints, Cond.selects RX9 yX9_prints yX9_prints, Cond.code yX9_prints cX9_prints 5 none, Cond.fieldLink RX9 35 "AnchoredNotesModel" "full" "[I", Cond.fieldLink RX9 75 "AnchoredNotesModel" "first" "I", Cond.methodLink RX9 81 yX9_finds, Cond.instanceMethod yX9_finds, Cond.selects RX9 yX9_finds yX9_finds, Cond.code yX9_finds cX9_finds 5 none, Cond.fieldLink RX9 72 "AnchoredNotesModel" "pieces" "I", Cond.fieldLink RX9 78 "AnchoredNotesModel" "last" "I", Cond.methodLink RX9 60 yX9_isOf]
def wsX9_printed_r2 : List Cond := [Cond.instanceMethod yX9_isOf, Cond.selects RX9 yX9_isOf yX9_isOf, Cond.code yX9_isOf cX9_isOf 3 (some .boolean)]
def wsX9_printed : List Cond := .code yX9_printed cX9_printed 3 (some .int) :: ((wsX9_printed_r1 ++ wsX9_printed_r2) ++ wsX90)
def wsX9_replyCount : List Cond := .code yX9_replyCount cX9_replyCount 3 (some .int) :: ([.fieldLink RX9 7 "AnchoredNotesModel" "now" "[I", .methodLink RX9 64 yX9_isReply, .instanceMethod yX9_isReply, .selects RX9 yX9_isReply yX9_isReply, .initialized RX9, .code yX9_isReply cX9_isReply 2 (some .boolean), .methodLink RX9 45 yX9_of0, .instanceMethod yX9_of0, .selects RX9 yX9_of0 yX9_of0, .code yX9_of0 cX9_of0 3 (some .int)] ++ wsX90)
def wsX9_count_r1 : List Cond := [Cond.fieldLink RX9 7 "AnchoredNotesModel" "now" "[I", Cond.fieldLink RX9 186 "AnchoredNotesModel" "padded" "I", Cond.fieldLink RX9 49 "AnchoredNotesModel" "kept" "I", Cond.methodLink RX9 41 yX9_in, Cond.static yX9_in, Cond.initialized RX9, Cond.code yX9_in cX9_in 3 (some .boolean), Cond.methodLink RX9 104 yX9_orphans, Cond.instanceMethod yX9_orphans, Cond.selects RX9 yX9_orphans yX9_orphans, Cond.code yX9_orphans cX9_orphans 3 (some .int), Cond.methodLink RX9 85 yX9_isOrphan, Cond.instanceMethod yX9_isOrphan, Cond.selects RX9 yX9_isOrphan yX9_isOrphan, Cond.code yX9_isOrphan cX9_isOrphan 2 (some .boolean), Cond.methodLink RX9 64 yX9_isReply, Cond.instanceMethod yX9_isReply, Cond.selects RX9 yX9_isReply yX9_isReply, Cond.code yX9_isReply cX9_isReply 2 (some .boolean), Cond.methodLink RX9 45 yX9_of0, Cond.instanceMethod yX9_of0, Cond.selects RX9 yX9_of0 yX9_of0, Cond.code yX9_of0 cX9_of0 3 (some .int), Cond.methodLink RX9 68 yX9_present]
def wsX9_count_r2 : List Cond := [Cond.instanceMethod yX9_present, Cond.selects RX9 yX9_present yX9_present, Cond.code yX9_present cX9_present 4 (some .int), Cond.methodLink RX9 60 yX9_isOf, Cond.instanceMethod yX9_isOf, Cond.selects RX9 yX9_isOf yX9_isOf, Cond.code yX9_isOf cX9_isOf 3 (some .boolean), Cond.methodLink RX9 183 yX9_replyCount, Cond.instanceMethod yX9_replyCount, Cond.selects RX9 yX9_replyCount yX9_replyCount, Cond.code yX9_replyCount cX9_replyCount 3 (some .int), Cond.methodLink RX9 180 yX9_prints, Cond.instanceMethod yX9_prints, Cond.selects RX9 yX9_prints yX9_prints, Cond.code yX9_prints cX9_prints 5 none, Cond.fieldLink RX9 35 "AnchoredNotesModel" "full" "[I", Cond.fieldLink RX9 29 "AnchoredNotesModel" "lines" "[I", Cond.fieldLink RX9 75 "AnchoredNotesModel" "first" "I", Cond.fieldLink RX9 32 "AnchoredNotesModel" "own" "[I", Cond.methodLink RX9 81 yX9_finds, Cond.instanceMethod yX9_finds, Cond.selects RX9 yX9_finds yX9_finds, Cond.code yX9_finds cX9_finds 5 none, Cond.fieldLink RX9 72 "AnchoredNotesModel" "pieces" "I"]
def wsX9_count_r3 : List Cond := [Cond.fieldLink RX9 78 "AnchoredNotesModel" "last" "I", Cond.methodLink RX9 125 yX9_torn, Cond.instanceMethod yX9_torn, Cond.selects RX9 yX9_torn yX9_torn, Cond.code yX9_torn cX9_torn 3 (some .int), Cond.methodLink RX9 189 yX9_lastLine, Cond.instanceMethod yX9_lastLine, Cond.selects RX9 yX9_lastLine yX9_lastLine, Cond.code yX9_lastLine cX9_lastLine 3 (some .int), Cond.methodLink RX9 192 yX9_leaders, Cond.instanceMethod yX9_leaders, Cond.selects RX9 yX9_leaders yX9_leaders, Cond.code yX9_leaders cX9_leaders 6 (some .int)]
def wsX9_count : List Cond := .code yX9_count cX9_count 2 (some .int) :: ((wsX9_count_r1 ++ (wsX9_count_r2 ++ wsX9_count_r3)) ++ wsX90)
def wsX9_orphansIf : List Cond := .code yX9_orphansIf cX9_orphansIf 7 (some .int) :: ([.fieldLink RX9 7 "AnchoredNotesModel" "now" "[I", .methodLink RX9 112 yX9_maySpan, .instanceMethod yX9_maySpan, .selects RX9 yX9_maySpan yX9_maySpan, .initialized RX9, .code yX9_maySpan cX9_maySpan 3 (some .int), .methodLink RX9 101 yX9_isPlace, .instanceMethod yX9_isPlace, .selects RX9 yX9_isPlace yX9_isPlace, .code yX9_isPlace cX9_isPlace 2 (some .boolean), .methodLink RX9 41 yX9_in, .static yX9_in, .code yX9_in cX9_in 3 (some .boolean)] ++ wsX90)
def wsX9_could_r1 : List Cond := [Cond.methodLink RX9 140 yX9_isNote, Cond.instanceMethod yX9_isNote, Cond.selects RX9 yX9_isNote yX9_isNote, Cond.initialized RX9, Cond.code yX9_isNote cX9_isNote 2 (some .boolean), Cond.fieldLink RX9 7 "AnchoredNotesModel" "now" "[I", Cond.methodLink RX9 41 yX9_in, Cond.static yX9_in, Cond.code yX9_in cX9_in 3 (some .boolean), Cond.methodLink RX9 85 yX9_isOrphan, Cond.instanceMethod yX9_isOrphan, Cond.selects RX9 yX9_isOrphan yX9_isOrphan, Cond.code yX9_isOrphan cX9_isOrphan 2 (some .boolean), Cond.methodLink RX9 64 yX9_isReply, Cond.instanceMethod yX9_isReply, Cond.selects RX9 yX9_isReply yX9_isReply, Cond.code yX9_isReply cX9_isReply 2 (some .boolean), Cond.methodLink RX9 45 yX9_of0, Cond.instanceMethod yX9_of0, Cond.selects RX9 yX9_of0 yX9_of0, Cond.code yX9_of0 cX9_of0 3 (some .int), Cond.methodLink RX9 68 yX9_present, Cond.instanceMethod yX9_present, Cond.selects RX9 yX9_present yX9_present]
def wsX9_could_r2 : List Cond := [Cond.code yX9_present cX9_present 4 (some .int), Cond.methodLink RX9 60 yX9_isOf, Cond.instanceMethod yX9_isOf, Cond.selects RX9 yX9_isOf yX9_isOf, Cond.code yX9_isOf cX9_isOf 3 (some .boolean), Cond.methodLink RX9 161 yX9_possible, Cond.instanceMethod yX9_possible, Cond.selects RX9 yX9_possible yX9_possible, Cond.code yX9_possible cX9_possible 7 (some .int), Cond.methodLink RX9 155 yX9_looksLike, Cond.instanceMethod yX9_looksLike, Cond.selects RX9 yX9_looksLike yX9_looksLike, Cond.code yX9_looksLike cX9_looksLike 6 (some .boolean), Cond.methodLink RX9 158 yX9_likeness, Cond.instanceMethod yX9_likeness, Cond.selects RX9 yX9_likeness yX9_likeness, Cond.code yX9_likeness cX9_likeness 6 (some .int)]
def wsX9_could : List Cond := .code yX9_could cX9_could 3 (some .int) :: ((wsX9_could_r1 ++ wsX9_could_r2) ++ wsX90)
def wsX9_leastRoom_r1 : List Cond := [Cond.methodLink RX9 41 yX9_in, Cond.static yX9_in, Cond.initialized RX9, Cond.code yX9_in cX9_in 3 (some .boolean), Cond.methodLink RX9 180 yX9_prints, Cond.instanceMethod yX9_prints, Cond.selects RX9 yX9_prints yX9_prints, Cond.code yX9_prints cX9_prints 5 none, Cond.fieldLink RX9 35 "AnchoredNotesModel" "full" "[I", Cond.fieldLink RX9 7 "AnchoredNotesModel" "now" "[I", Cond.fieldLink RX9 29 "AnchoredNotesModel" "lines" "[I", Cond.fieldLink RX9 75 "AnchoredNotesModel" "first" "I", Cond.fieldLink RX9 32 "AnchoredNotesModel" "own" "[I", Cond.methodLink RX9 81 yX9_finds, Cond.instanceMethod yX9_finds, Cond.selects RX9 yX9_finds yX9_finds, Cond.code yX9_finds cX9_finds 5 none, Cond.fieldLink RX9 72 "AnchoredNotesModel" "pieces" "I", Cond.fieldLink RX9 78 "AnchoredNotesModel" "last" "I", Cond.methodLink RX9 60 yX9_isOf, Cond.instanceMethod yX9_isOf, Cond.selects RX9 yX9_isOf yX9_isOf, Cond.code yX9_isOf cX9_isOf 3 (some .boolean), Cond.methodLink RX9 192 yX9_leaders]
def wsX9_leastRoom_r2 : List Cond := [Cond.instanceMethod yX9_leaders, Cond.selects RX9 yX9_leaders yX9_leaders, Cond.code yX9_leaders cX9_leaders 6 (some .int)]
def wsX9_leastRoom : List Cond := .code yX9_leastRoom cX9_leastRoom 3 (some .int) :: ((wsX9_leastRoom_r1 ++ wsX9_leastRoom_r2) ++ wsX90)
def wsX9_byteOf : List Cond := .code yX9_byteOf cX9_byteOf 3 (some .int) :: ([.constantLong RX9 196 (255)])
def wsX9_toldBy : List Cond := .code yX9_toldBy cX9_toldBy 4 (some .int) :: ([.methodLink RX9 198 yX9_byteOf, .static yX9_byteOf, .initialized RX9, .code yX9_byteOf cX9_byteOf 3 (some .int), .constantLong RX9 196 (255), .methodLink RX9 41 yX9_in, .static yX9_in, .code yX9_in cX9_in 3 (some .boolean)])
def wsX9_put : List Cond := .code yX9_put cX9_put 5 (some .int) :: ([.fieldLink RX9 186 "AnchoredNotesModel" "padded" "I", .fieldLink RX9 23 "AnchoredNotesModel" "pad" "[I", .methodLink RX9 202 yX9_toldBy, .static yX9_toldBy, .initialized RX9, .code yX9_toldBy cX9_toldBy 4 (some .int), .methodLink RX9 198 yX9_byteOf, .static yX9_byteOf, .code yX9_byteOf cX9_byteOf 3 (some .int), .constantLong RX9 196 (255), .methodLink RX9 41 yX9_in, .static yX9_in, .code yX9_in cX9_in 3 (some .boolean)] ++ wsX90)
def wsX9_wipe : List Cond := .code yX9_wipe cX9_wipe 2 (some .int) :: ([.fieldLink RX9 186 "AnchoredNotesModel" "padded" "I"] ++ wsX90)
def wsX9_isAt : List Cond := .code yX9_isAt cX9_isAt 3 (some .boolean) :: ([.fieldLink RX9 206 "AnchoredNotesModel" "at" "I", .fieldLink RX9 186 "AnchoredNotesModel" "padded" "I", .fieldLink RX9 23 "AnchoredNotesModel" "pad" "[I", .methodLink RX9 41 yX9_in, .static yX9_in, .initialized RX9, .code yX9_in cX9_in 3 (some .boolean)] ++ wsX90)
def wsX9_isSign : List Cond := .code yX9_isSign cX9_isSign 3 (some .boolean) :: ([.fieldLink RX9 206 "AnchoredNotesModel" "at" "I", .methodLink RX9 209 yX9_isAt, .instanceMethod yX9_isAt, .selects RX9 yX9_isAt yX9_isAt, .initialized RX9, .code yX9_isAt cX9_isAt 3 (some .boolean), .fieldLink RX9 186 "AnchoredNotesModel" "padded" "I", .fieldLink RX9 23 "AnchoredNotesModel" "pad" "[I", .methodLink RX9 41 yX9_in, .static yX9_in, .code yX9_in cX9_in 3 (some .boolean)] ++ wsX90)
def wsX9_isNumber : List Cond := .code yX9_isNumber cX9_isNumber 3 (some .boolean) :: ([.fieldLink RX9 23 "AnchoredNotesModel" "pad" "[I", .fieldLink RX9 206 "AnchoredNotesModel" "at" "I", .fieldLink RX9 26 "AnchoredNotesModel" "orders" "[I", .fieldLink RX9 212 "AnchoredNotesModel" "ordered" "I", .methodLink RX9 209 yX9_isAt, .instanceMethod yX9_isAt, .selects RX9 yX9_isAt yX9_isAt, .initialized RX9, .code yX9_isAt cX9_isAt 3 (some .boolean), .fieldLink RX9 186 "AnchoredNotesModel" "padded" "I", .methodLink RX9 41 yX9_in, .static yX9_in, .code yX9_in cX9_in 3 (some .boolean)] ++ wsX90)
def wsX9_isWord : List Cond := .code yX9_isWord cX9_isWord 1 (some .boolean) :: ([.fieldLink RX9 26 "AnchoredNotesModel" "orders" "[I", .fieldLink RX9 212 "AnchoredNotesModel" "ordered" "I", .fieldLink RX9 206 "AnchoredNotesModel" "at" "I", .methodLink RX9 209 yX9_isAt, .instanceMethod yX9_isAt, .selects RX9 yX9_isAt yX9_isAt, .initialized RX9, .code yX9_isAt cX9_isAt 3 (some .boolean), .fieldLink RX9 186 "AnchoredNotesModel" "padded" "I", .fieldLink RX9 23 "AnchoredNotesModel" "pad" "[I", .methodLink RX9 41 yX9_in, .static yX9_in, .code yX9_in cX9_in 3 (some .boolean)] ++ wsX90)
def wsX9_isSpan : List Cond := .code yX9_isSpan cX9_isSpan 1 (some .boolean) :: ([.methodLink RX9 215 yX9_isNumber, .instanceMethod yX9_isNumber, .selects RX9 yX9_isNumber yX9_isNumber, .initialized RX9, .code yX9_isNumber cX9_isNumber 3 (some .boolean), .fieldLink RX9 23 "AnchoredNotesModel" "pad" "[I", .fieldLink RX9 206 "AnchoredNotesModel" "at" "I", .fieldLink RX9 26 "AnchoredNotesModel" "orders" "[I", .fieldLink RX9 212 "AnchoredNotesModel" "ordered" "I", .methodLink RX9 209 yX9_isAt, .instanceMethod yX9_isAt, .selects RX9 yX9_isAt yX9_isAt, .code yX9_isAt cX9_isAt 3 (some .boolean), .fieldLink RX9 186 "AnchoredNotesModel" "padded" "I", .methodLink RX9 41 yX9_in, .static yX9_in, .code yX9_in cX9_in 3 (some .boolean), .methodLink RX9 218 yX9_isSign, .instanceMethod yX9_isSign, .selects RX9 yX9_isSign yX9_isSign, .code yX9_isSign cX9_isSign 3 (some .boolean)] ++ wsX90)
def wsX9_isOrder_r1 : List Cond := [Cond.fieldLink RX9 206 "AnchoredNotesModel" "at" "I", Cond.fieldLink RX9 186 "AnchoredNotesModel" "padded" "I", Cond.fieldLink RX9 23 "AnchoredNotesModel" "pad" "[I", Cond.fieldLink RX9 26 "AnchoredNotesModel" "orders" "[I", Cond.fieldLink RX9 212 "AnchoredNotesModel" "ordered" "I", Cond.methodLink RX9 215 yX9_isNumber, Cond.instanceMethod yX9_isNumber, Cond.selects RX9 yX9_isNumber yX9_isNumber, Cond.initialized RX9, Cond.code yX9_isNumber cX9_isNumber 3 (some .boolean), Cond.methodLink RX9 209 yX9_isAt, Cond.instanceMethod yX9_isAt, Cond.selects RX9 yX9_isAt yX9_isAt, Cond.code yX9_isAt cX9_isAt 3 (some .boolean), Cond.methodLink RX9 41 yX9_in, Cond.static yX9_in, Cond.code yX9_in cX9_in 3 (some .boolean), Cond.methodLink RX9 218 yX9_isSign, Cond.instanceMethod yX9_isSign, Cond.selects RX9 yX9_isSign yX9_isSign, Cond.code yX9_isSign cX9_isSign 3 (some .boolean), Cond.methodLink RX9 221 yX9_isWord, Cond.instanceMethod yX9_isWord, Cond.selects RX9 yX9_isWord yX9_isWord]
def wsX9_isOrder_r2 : List Cond := [Cond.code yX9_isWord cX9_isWord 1 (some .boolean), Cond.methodLink RX9 225 yX9_isSpan, Cond.instanceMethod yX9_isSpan, Cond.selects RX9 yX9_isSpan yX9_isSpan, Cond.code yX9_isSpan cX9_isSpan 1 (some .boolean)]
def wsX9_isOrder : List Cond := .code yX9_isOrder cX9_isOrder 2 (some .boolean) :: ((wsX9_isOrder_r1 ++ wsX9_isOrder_r2) ++ wsX90)
def wsX9_isText_r1 : List Cond := [Cond.fieldLink RX9 206 "AnchoredNotesModel" "at" "I", Cond.fieldLink RX9 212 "AnchoredNotesModel" "ordered" "I", Cond.fieldLink RX9 186 "AnchoredNotesModel" "padded" "I", Cond.methodLink RX9 228 yX9_isOrder, Cond.instanceMethod yX9_isOrder, Cond.selects RX9 yX9_isOrder yX9_isOrder, Cond.initialized RX9, Cond.code yX9_isOrder cX9_isOrder 2 (some .boolean), Cond.fieldLink RX9 23 "AnchoredNotesModel" "pad" "[I", Cond.fieldLink RX9 26 "AnchoredNotesModel" "orders" "[I", Cond.methodLink RX9 215 yX9_isNumber, Cond.instanceMethod yX9_isNumber, Cond.selects RX9 yX9_isNumber yX9_isNumber, Cond.code yX9_isNumber cX9_isNumber 3 (some .boolean), Cond.methodLink RX9 209 yX9_isAt, Cond.instanceMethod yX9_isAt, Cond.selects RX9 yX9_isAt yX9_isAt, Cond.code yX9_isAt cX9_isAt 3 (some .boolean), Cond.methodLink RX9 41 yX9_in, Cond.static yX9_in, Cond.code yX9_in cX9_in 3 (some .boolean), Cond.methodLink RX9 218 yX9_isSign, Cond.instanceMethod yX9_isSign, Cond.selects RX9 yX9_isSign yX9_isSign]
def wsX9_isText_r2 : List Cond := [Cond.code yX9_isSign cX9_isSign 3 (some .boolean), Cond.methodLink RX9 221 yX9_isWord, Cond.instanceMethod yX9_isWord, Cond.selects RX9 yX9_isWord yX9_isWord, Cond.code yX9_isWord cX9_isWord 1 (some .boolean), Cond.methodLink RX9 225 yX9_isSpan, Cond.instanceMethod yX9_isSpan, Cond.selects RX9 yX9_isSpan yX9_isSpan, Cond.code yX9_isSpan cX9_isSpan 1 (some .boolean)]
def wsX9_isText : List Cond := .code yX9_isText cX9_isText 2 (some .boolean) :: ((wsX9_isText_r1 ++ wsX9_isText_r2) ++ wsX90)
def wsX9_fault_r1 : List Cond := [Cond.fieldLink RX9 206 "AnchoredNotesModel" "at" "I", Cond.methodLink RX9 231 yX9_isText, Cond.instanceMethod yX9_isText, Cond.selects RX9 yX9_isText yX9_isText, Cond.initialized RX9, Cond.code yX9_isText cX9_isText 2 (some .boolean), Cond.fieldLink RX9 212 "AnchoredNotesModel" "ordered" "I", Cond.fieldLink RX9 186 "AnchoredNotesModel" "padded" "I", Cond.methodLink RX9 228 yX9_isOrder, Cond.instanceMethod yX9_isOrder, Cond.selects RX9 yX9_isOrder yX9_isOrder, Cond.code yX9_isOrder cX9_isOrder 2 (some .boolean), Cond.fieldLink RX9 23 "AnchoredNotesModel" "pad" "[I", Cond.fieldLink RX9 26 "AnchoredNotesModel" "orders" "[I", Cond.methodLink RX9 215 yX9_isNumber, Cond.instanceMethod yX9_isNumber, Cond.selects RX9 yX9_isNumber yX9_isNumber, Cond.code yX9_isNumber cX9_isNumber 3 (some .boolean), Cond.methodLink RX9 209 yX9_isAt, Cond.instanceMethod yX9_isAt, Cond.selects RX9 yX9_isAt yX9_isAt, Cond.code yX9_isAt cX9_isAt 3 (some .boolean), Cond.methodLink RX9 41 yX9_in, Cond.static yX9_in]
def wsX9_fault_r2 : List Cond := [Cond.code yX9_in cX9_in 3 (some .boolean), Cond.methodLink RX9 218 yX9_isSign, Cond.instanceMethod yX9_isSign, Cond.selects RX9 yX9_isSign yX9_isSign, Cond.code yX9_isSign cX9_isSign 3 (some .boolean), Cond.methodLink RX9 221 yX9_isWord, Cond.instanceMethod yX9_isWord, Cond.selects RX9 yX9_isWord yX9_isWord, Cond.code yX9_isWord cX9_isWord 1 (some .boolean), Cond.methodLink RX9 225 yX9_isSpan, Cond.instanceMethod yX9_isSpan, Cond.selects RX9 yX9_isSpan yX9_isSpan, Cond.code yX9_isSpan cX9_isSpan 1 (some .boolean)]
def wsX9_fault : List Cond := .code yX9_fault cX9_fault 1 (some .int) :: ((wsX9_fault_r1 ++ wsX9_fault_r2) ++ wsX90)
def wsX9_writes : List Cond := .code yX9_writes cX9_writes 6 (some .boolean) :: ([.fieldLink RX9 23 "AnchoredNotesModel" "pad" "[I", .methodLink RX9 94 yX9_mayWrite, .instanceMethod yX9_mayWrite, .selects RX9 yX9_mayWrite yX9_mayWrite, .initialized RX9, .code yX9_mayWrite cX9_mayWrite 3 (some .int), .fieldLink RX9 7 "AnchoredNotesModel" "now" "[I", .methodLink RX9 41 yX9_in, .static yX9_in, .code yX9_in cX9_in 3 (some .boolean), .methodLink RX9 97 yX9_comes, .instanceMethod yX9_comes, .selects RX9 yX9_comes yX9_comes, .code yX9_comes cX9_comes 5 none] ++ wsX90)
def wsX9_may_r1 : List Cond := [Cond.methodLink RX9 112 yX9_maySpan, Cond.instanceMethod yX9_maySpan, Cond.selects RX9 yX9_maySpan yX9_maySpan, Cond.initialized RX9, Cond.code yX9_maySpan cX9_maySpan 3 (some .int), Cond.methodLink RX9 101 yX9_isPlace, Cond.instanceMethod yX9_isPlace, Cond.selects RX9 yX9_isPlace yX9_isPlace, Cond.code yX9_isPlace cX9_isPlace 2 (some .boolean), Cond.fieldLink RX9 7 "AnchoredNotesModel" "now" "[I", Cond.methodLink RX9 41 yX9_in, Cond.static yX9_in, Cond.code yX9_in cX9_in 3 (some .boolean), Cond.methodLink RX9 118 yX9_mayMove, Cond.instanceMethod yX9_mayMove, Cond.selects RX9 yX9_mayMove yX9_mayMove, Cond.code yX9_mayMove cX9_mayMove 5 (some .int), Cond.methodLink RX9 134 yX9_mayNote, Cond.instanceMethod yX9_mayNote, Cond.selects RX9 yX9_mayNote yX9_mayNote, Cond.code yX9_mayNote cX9_mayNote 4 (some .int), Cond.methodLink RX9 143 yX9_mayReply, Cond.instanceMethod yX9_mayReply, Cond.selects RX9 yX9_mayReply yX9_mayReply]
def wsX9_may_r2 : List Cond := [Cond.code yX9_mayReply cX9_mayReply 2 (some .int), Cond.methodLink RX9 140 yX9_isNote, Cond.instanceMethod yX9_isNote, Cond.selects RX9 yX9_isNote yX9_isNote, Cond.code yX9_isNote cX9_isNote 2 (some .boolean), Cond.methodLink RX9 164 yX9_mayReclaim, Cond.instanceMethod yX9_mayReclaim, Cond.selects RX9 yX9_mayReclaim yX9_mayReclaim, Cond.code yX9_mayReclaim cX9_mayReclaim 2 (some .int), Cond.methodLink RX9 85 yX9_isOrphan, Cond.instanceMethod yX9_isOrphan, Cond.selects RX9 yX9_isOrphan yX9_isOrphan, Cond.code yX9_isOrphan cX9_isOrphan 2 (some .boolean), Cond.methodLink RX9 64 yX9_isReply, Cond.instanceMethod yX9_isReply, Cond.selects RX9 yX9_isReply yX9_isReply, Cond.code yX9_isReply cX9_isReply 2 (some .boolean), Cond.methodLink RX9 45 yX9_of0, Cond.instanceMethod yX9_of0, Cond.selects RX9 yX9_of0 yX9_of0, Cond.code yX9_of0 cX9_of0 3 (some .int), Cond.methodLink RX9 68 yX9_present, Cond.instanceMethod yX9_present, Cond.selects RX9 yX9_present yX9_present]
def wsX9_may_r3 : List Cond := [Cond.code yX9_present cX9_present 4 (some .int), Cond.methodLink RX9 60 yX9_isOf, Cond.instanceMethod yX9_isOf, Cond.selects RX9 yX9_isOf yX9_isOf, Cond.code yX9_isOf cX9_isOf 3 (some .boolean), Cond.methodLink RX9 161 yX9_possible, Cond.instanceMethod yX9_possible, Cond.selects RX9 yX9_possible yX9_possible, Cond.code yX9_possible cX9_possible 7 (some .int), Cond.methodLink RX9 155 yX9_looksLike, Cond.instanceMethod yX9_looksLike, Cond.selects RX9 yX9_looksLike yX9_looksLike, Cond.code yX9_looksLike cX9_looksLike 6 (some .boolean), Cond.methodLink RX9 158 yX9_likeness, Cond.instanceMethod yX9_likeness, Cond.selects RX9 yX9_likeness yX9_likeness, Cond.code yX9_likeness cX9_likeness 6 (some .int)]
def wsX9_may : List Cond := .code yX9_may cX9_may 5 (some .int) :: ((wsX9_may_r1 ++ (wsX9_may_r2 ++ wsX9_may_r3)) ++ wsX90)
def wsX9_does_r1 : List Cond := [Cond.fieldLink RX9 26 "AnchoredNotesModel" "orders" "[I", Cond.methodLink RX9 234 yX9_writes, Cond.instanceMethod yX9_writes, Cond.selects RX9 yX9_writes yX9_writes, Cond.initialized RX9, Cond.code yX9_writes cX9_writes 6 (some .boolean), Cond.fieldLink RX9 23 "AnchoredNotesModel" "pad" "[I", Cond.methodLink RX9 94 yX9_mayWrite, Cond.instanceMethod yX9_mayWrite, Cond.selects RX9 yX9_mayWrite yX9_mayWrite, Cond.code yX9_mayWrite cX9_mayWrite 3 (some .int), Cond.fieldLink RX9 7 "AnchoredNotesModel" "now" "[I", Cond.methodLink RX9 41 yX9_in, Cond.static yX9_in, Cond.code yX9_in cX9_in 3 (some .boolean), Cond.methodLink RX9 97 yX9_comes, Cond.instanceMethod yX9_comes, Cond.selects RX9 yX9_comes yX9_comes, Cond.code yX9_comes cX9_comes 5 none, Cond.methodLink RX9 237 yX9_may, Cond.instanceMethod yX9_may, Cond.selects RX9 yX9_may yX9_may, Cond.code yX9_may cX9_may 5 (some .int), Cond.methodLink RX9 112 yX9_maySpan]
def wsX9_does_r2 : List Cond := [Cond.instanceMethod yX9_maySpan, Cond.selects RX9 yX9_maySpan yX9_maySpan, Cond.code yX9_maySpan cX9_maySpan 3 (some .int), Cond.methodLink RX9 101 yX9_isPlace, Cond.instanceMethod yX9_isPlace, Cond.selects RX9 yX9_isPlace yX9_isPlace, Cond.code yX9_isPlace cX9_isPlace 2 (some .boolean), Cond.methodLink RX9 118 yX9_mayMove, Cond.instanceMethod yX9_mayMove, Cond.selects RX9 yX9_mayMove yX9_mayMove, Cond.code yX9_mayMove cX9_mayMove 5 (some .int), Cond.methodLink RX9 134 yX9_mayNote, Cond.instanceMethod yX9_mayNote, Cond.selects RX9 yX9_mayNote yX9_mayNote, Cond.code yX9_mayNote cX9_mayNote 4 (some .int), Cond.methodLink RX9 143 yX9_mayReply, Cond.instanceMethod yX9_mayReply, Cond.selects RX9 yX9_mayReply yX9_mayReply, Cond.code yX9_mayReply cX9_mayReply 2 (some .int), Cond.methodLink RX9 140 yX9_isNote, Cond.instanceMethod yX9_isNote, Cond.selects RX9 yX9_isNote yX9_isNote, Cond.code yX9_isNote cX9_isNote 2 (some .boolean), Cond.methodLink RX9 164 yX9_mayReclaim]
def wsX9_does_r3 : List Cond := [Cond.instanceMethod yX9_mayReclaim, Cond.selects RX9 yX9_mayReclaim yX9_mayReclaim, Cond.code yX9_mayReclaim cX9_mayReclaim 2 (some .int), Cond.methodLink RX9 85 yX9_isOrphan, Cond.instanceMethod yX9_isOrphan, Cond.selects RX9 yX9_isOrphan yX9_isOrphan, Cond.code yX9_isOrphan cX9_isOrphan 2 (some .boolean), Cond.methodLink RX9 64 yX9_isReply, Cond.instanceMethod yX9_isReply, Cond.selects RX9 yX9_isReply yX9_isReply, Cond.code yX9_isReply cX9_isReply 2 (some .boolean), Cond.methodLink RX9 45 yX9_of0, Cond.instanceMethod yX9_of0, Cond.selects RX9 yX9_of0 yX9_of0, Cond.code yX9_of0 cX9_of0 3 (some .int), Cond.methodLink RX9 68 yX9_present, Cond.instanceMethod yX9_present, Cond.selects RX9 yX9_present yX9_present, Cond.code yX9_present cX9_present 4 (some .int), Cond.methodLink RX9 60 yX9_isOf, Cond.instanceMethod yX9_isOf, Cond.selects RX9 yX9_isOf yX9_isOf, Cond.code yX9_isOf cX9_isOf 3 (some .boolean), Cond.methodLink RX9 161 yX9_possible]
def wsX9_does_r4 : List Cond := [Cond.instanceMethod yX9_possible, Cond.selects RX9 yX9_possible yX9_possible, Cond.code yX9_possible cX9_possible 7 (some .int), Cond.methodLink RX9 155 yX9_looksLike, Cond.instanceMethod yX9_looksLike, Cond.selects RX9 yX9_looksLike yX9_looksLike, Cond.code yX9_looksLike cX9_looksLike 6 (some .boolean), Cond.methodLink RX9 158 yX9_likeness, Cond.instanceMethod yX9_likeness, Cond.selects RX9 yX9_likeness yX9_likeness, Cond.code yX9_likeness cX9_likeness 6 (some .int), Cond.methodLink RX9 108 yX9_goes, Cond.instanceMethod yX9_goes, Cond.selects RX9 yX9_goes yX9_goes, Cond.code yX9_goes cX9_goes 5 none, Cond.methodLink RX9 122 yX9_moves, Cond.instanceMethod yX9_moves, Cond.selects RX9 yX9_moves yX9_moves, Cond.code yX9_moves cX9_moves 6 none, Cond.fieldLink RX9 38 "AnchoredNotesModel" "taken" "[I", Cond.methodLink RX9 137 yX9_notes, Cond.instanceMethod yX9_notes, Cond.selects RX9 yX9_notes yX9_notes, Cond.code yX9_notes cX9_notes 6 (some .int)]
def wsX9_does_r5 : List Cond := [Cond.methodLink RX9 131 yX9_takes, Cond.instanceMethod yX9_takes, Cond.selects RX9 yX9_takes yX9_takes, Cond.code yX9_takes cX9_takes 5 none, Cond.methodLink RX9 128 yX9_remembers, Cond.instanceMethod yX9_remembers, Cond.selects RX9 yX9_remembers yX9_remembers, Cond.code yX9_remembers cX9_remembers 7 none, Cond.methodLink RX9 146 yX9_replies, Cond.instanceMethod yX9_replies, Cond.selects RX9 yX9_replies yX9_replies, Cond.code yX9_replies cX9_replies 3 (some .int), Cond.methodLink RX9 152 yX9_drops, Cond.instanceMethod yX9_drops, Cond.selects RX9 yX9_drops yX9_drops, Cond.code yX9_drops cX9_drops 4 (some .int), Cond.methodLink RX9 88 yX9_isBelow, Cond.instanceMethod yX9_isBelow, Cond.selects RX9 yX9_isBelow yX9_isBelow, Cond.code yX9_isBelow cX9_isBelow 4 (some .boolean), Cond.methodLink RX9 149 yX9_noteGoes, Cond.instanceMethod yX9_noteGoes, Cond.selects RX9 yX9_noteGoes yX9_noteGoes, Cond.code yX9_noteGoes cX9_noteGoes 5 none]
def wsX9_does_r6 : List Cond := [Cond.methodLink RX9 167 yX9_reclaims, Cond.instanceMethod yX9_reclaims, Cond.selects RX9 yX9_reclaims yX9_reclaims, Cond.code yX9_reclaims cX9_reclaims 3 (some .int)]
def wsX9_does : List Cond := .code yX9_does cX9_does 6 (some .boolean) :: ((wsX9_does_r1 ++ (wsX9_does_r2 ++ (wsX9_does_r3 ++ (wsX9_does_r4 ++ (wsX9_does_r5 ++ wsX9_does_r6))))) ++ wsX90)
def wsX9_carryOut_r1 : List Cond := [Cond.fieldLink RX9 186 "AnchoredNotesModel" "padded" "I", Cond.fieldLink RX9 212 "AnchoredNotesModel" "ordered" "I", Cond.methodLink RX9 231 yX9_isText, Cond.instanceMethod yX9_isText, Cond.selects RX9 yX9_isText yX9_isText, Cond.initialized RX9, Cond.code yX9_isText cX9_isText 2 (some .boolean), Cond.fieldLink RX9 206 "AnchoredNotesModel" "at" "I", Cond.methodLink RX9 228 yX9_isOrder, Cond.instanceMethod yX9_isOrder, Cond.selects RX9 yX9_isOrder yX9_isOrder, Cond.code yX9_isOrder cX9_isOrder 2 (some .boolean), Cond.fieldLink RX9 23 "AnchoredNotesModel" "pad" "[I", Cond.fieldLink RX9 26 "AnchoredNotesModel" "orders" "[I", Cond.methodLink RX9 215 yX9_isNumber, Cond.instanceMethod yX9_isNumber, Cond.selects RX9 yX9_isNumber yX9_isNumber, Cond.code yX9_isNumber cX9_isNumber 3 (some .boolean), Cond.methodLink RX9 209 yX9_isAt, Cond.instanceMethod yX9_isAt, Cond.selects RX9 yX9_isAt yX9_isAt, Cond.code yX9_isAt cX9_isAt 3 (some .boolean), Cond.methodLink RX9 41 yX9_in, Cond.static yX9_in]
def wsX9_carryOut_r2 : List Cond := [Cond.code yX9_in cX9_in 3 (some .boolean), Cond.methodLink RX9 218 yX9_isSign, Cond.instanceMethod yX9_isSign, Cond.selects RX9 yX9_isSign yX9_isSign, Cond.code yX9_isSign cX9_isSign 3 (some .boolean), Cond.methodLink RX9 221 yX9_isWord, Cond.instanceMethod yX9_isWord, Cond.selects RX9 yX9_isWord yX9_isWord, Cond.code yX9_isWord cX9_isWord 1 (some .boolean), Cond.methodLink RX9 225 yX9_isSpan, Cond.instanceMethod yX9_isSpan, Cond.selects RX9 yX9_isSpan yX9_isSpan, Cond.code yX9_isSpan cX9_isSpan 1 (some .boolean), Cond.methodLink RX9 57 yX9_records, Cond.instanceMethod yX9_records, Cond.selects RX9 yX9_records yX9_records, Cond.code yX9_records cX9_records 2 none, Cond.fieldLink RX9 49 "AnchoredNotesModel" "kept" "I", Cond.fieldLink RX9 13 "AnchoredNotesModel" "past" "[I", Cond.fieldLink RX9 7 "AnchoredNotesModel" "now" "[I", Cond.methodLink RX9 53 yX9_lays, Cond.static yX9_lays, Cond.code yX9_lays cX9_lays 5 none, Cond.methodLink RX9 241 yX9_does]
def wsX9_carryOut_r3 : List Cond := [Cond.instanceMethod yX9_does, Cond.selects RX9 yX9_does yX9_does, Cond.code yX9_does cX9_does 6 (some .boolean), Cond.methodLink RX9 234 yX9_writes, Cond.instanceMethod yX9_writes, Cond.selects RX9 yX9_writes yX9_writes, Cond.code yX9_writes cX9_writes 6 (some .boolean), Cond.methodLink RX9 94 yX9_mayWrite, Cond.instanceMethod yX9_mayWrite, Cond.selects RX9 yX9_mayWrite yX9_mayWrite, Cond.code yX9_mayWrite cX9_mayWrite 3 (some .int), Cond.methodLink RX9 97 yX9_comes, Cond.instanceMethod yX9_comes, Cond.selects RX9 yX9_comes yX9_comes, Cond.code yX9_comes cX9_comes 5 none, Cond.methodLink RX9 237 yX9_may, Cond.instanceMethod yX9_may, Cond.selects RX9 yX9_may yX9_may, Cond.code yX9_may cX9_may 5 (some .int), Cond.methodLink RX9 112 yX9_maySpan, Cond.instanceMethod yX9_maySpan, Cond.selects RX9 yX9_maySpan yX9_maySpan, Cond.code yX9_maySpan cX9_maySpan 3 (some .int), Cond.methodLink RX9 101 yX9_isPlace]
def wsX9_carryOut_r4 : List Cond := [Cond.instanceMethod yX9_isPlace, Cond.selects RX9 yX9_isPlace yX9_isPlace, Cond.code yX9_isPlace cX9_isPlace 2 (some .boolean), Cond.methodLink RX9 118 yX9_mayMove, Cond.instanceMethod yX9_mayMove, Cond.selects RX9 yX9_mayMove yX9_mayMove, Cond.code yX9_mayMove cX9_mayMove 5 (some .int), Cond.methodLink RX9 134 yX9_mayNote, Cond.instanceMethod yX9_mayNote, Cond.selects RX9 yX9_mayNote yX9_mayNote, Cond.code yX9_mayNote cX9_mayNote 4 (some .int), Cond.methodLink RX9 143 yX9_mayReply, Cond.instanceMethod yX9_mayReply, Cond.selects RX9 yX9_mayReply yX9_mayReply, Cond.code yX9_mayReply cX9_mayReply 2 (some .int), Cond.methodLink RX9 140 yX9_isNote, Cond.instanceMethod yX9_isNote, Cond.selects RX9 yX9_isNote yX9_isNote, Cond.code yX9_isNote cX9_isNote 2 (some .boolean), Cond.methodLink RX9 164 yX9_mayReclaim, Cond.instanceMethod yX9_mayReclaim, Cond.selects RX9 yX9_mayReclaim yX9_mayReclaim, Cond.code yX9_mayReclaim cX9_mayReclaim 2 (some .int), Cond.methodLink RX9 85 yX9_isOrphan]
def wsX9_carryOut_r5 : List Cond := [Cond.instanceMethod yX9_isOrphan, Cond.selects RX9 yX9_isOrphan yX9_isOrphan, Cond.code yX9_isOrphan cX9_isOrphan 2 (some .boolean), Cond.methodLink RX9 64 yX9_isReply, Cond.instanceMethod yX9_isReply, Cond.selects RX9 yX9_isReply yX9_isReply, Cond.code yX9_isReply cX9_isReply 2 (some .boolean), Cond.methodLink RX9 45 yX9_of0, Cond.instanceMethod yX9_of0, Cond.selects RX9 yX9_of0 yX9_of0, Cond.code yX9_of0 cX9_of0 3 (some .int), Cond.methodLink RX9 68 yX9_present, Cond.instanceMethod yX9_present, Cond.selects RX9 yX9_present yX9_present, Cond.code yX9_present cX9_present 4 (some .int), Cond.methodLink RX9 60 yX9_isOf, Cond.instanceMethod yX9_isOf, Cond.selects RX9 yX9_isOf yX9_isOf, Cond.code yX9_isOf cX9_isOf 3 (some .boolean), Cond.methodLink RX9 161 yX9_possible, Cond.instanceMethod yX9_possible, Cond.selects RX9 yX9_possible yX9_possible, Cond.code yX9_possible cX9_possible 7 (some .int), Cond.methodLink RX9 155 yX9_looksLike]
def wsX9_carryOut_r6 : List Cond := [Cond.instanceMethod yX9_looksLike, Cond.selects RX9 yX9_looksLike yX9_looksLike, Cond.code yX9_looksLike cX9_looksLike 6 (some .boolean), Cond.methodLink RX9 158 yX9_likeness, Cond.instanceMethod yX9_likeness, Cond.selects RX9 yX9_likeness yX9_likeness, Cond.code yX9_likeness cX9_likeness 6 (some .int), Cond.methodLink RX9 108 yX9_goes, Cond.instanceMethod yX9_goes, Cond.selects RX9 yX9_goes yX9_goes, Cond.code yX9_goes cX9_goes 5 none, Cond.methodLink RX9 122 yX9_moves, Cond.instanceMethod yX9_moves, Cond.selects RX9 yX9_moves yX9_moves, Cond.code yX9_moves cX9_moves 6 none, Cond.fieldLink RX9 38 "AnchoredNotesModel" "taken" "[I", Cond.methodLink RX9 137 yX9_notes, Cond.instanceMethod yX9_notes, Cond.selects RX9 yX9_notes yX9_notes, Cond.code yX9_notes cX9_notes 6 (some .int), Cond.methodLink RX9 131 yX9_takes, Cond.instanceMethod yX9_takes, Cond.selects RX9 yX9_takes yX9_takes, Cond.code yX9_takes cX9_takes 5 none]
def wsX9_carryOut_r7 : List Cond := [Cond.methodLink RX9 128 yX9_remembers, Cond.instanceMethod yX9_remembers, Cond.selects RX9 yX9_remembers yX9_remembers, Cond.code yX9_remembers cX9_remembers 7 none, Cond.methodLink RX9 146 yX9_replies, Cond.instanceMethod yX9_replies, Cond.selects RX9 yX9_replies yX9_replies, Cond.code yX9_replies cX9_replies 3 (some .int), Cond.methodLink RX9 152 yX9_drops, Cond.instanceMethod yX9_drops, Cond.selects RX9 yX9_drops yX9_drops, Cond.code yX9_drops cX9_drops 4 (some .int), Cond.methodLink RX9 88 yX9_isBelow, Cond.instanceMethod yX9_isBelow, Cond.selects RX9 yX9_isBelow yX9_isBelow, Cond.code yX9_isBelow cX9_isBelow 4 (some .boolean), Cond.methodLink RX9 149 yX9_noteGoes, Cond.instanceMethod yX9_noteGoes, Cond.selects RX9 yX9_noteGoes yX9_noteGoes, Cond.code yX9_noteGoes cX9_noteGoes 5 none, Cond.methodLink RX9 167 yX9_reclaims, Cond.instanceMethod yX9_reclaims, Cond.selects RX9 yX9_reclaims yX9_reclaims, Cond.code yX9_reclaims cX9_reclaims 3 (some .int)]
def wsX9_carryOut : List Cond := .code yX9_carryOut cX9_carryOut 2 (some .int) :: ((wsX9_carryOut_r1 ++ (wsX9_carryOut_r2 ++ (wsX9_carryOut_r3 ++ (wsX9_carryOut_r4 ++ (wsX9_carryOut_r5 ++ (wsX9_carryOut_r6 ++ wsX9_carryOut_r7)))))) ++ wsX90)
def wsJ9_max_7cf53 : List Cond := .code yJ9_max_7cf53 cJ9_max_7cf53 2 (some .int) :: ([])
def wsJ9_min_7cf53 : List Cond := .code yJ9_min_7cf53 cJ9_min_7cf53 2 (some .int) :: ([])
def wsL_law_r1 : List Cond := [Cond.classLink RL 7 RX8, Cond.instantiable RX8 7, Cond.initialized RX8, Cond.classLink RL 10 RX9, Cond.instantiable RX9 17, Cond.initialized RX9, Cond.constantLong RL 84 (4294967295), Cond.methodLink RL 9 yX8_init, Cond.instanceMethod yX8_init, Cond.code yX8_init cX8_init 1 none, Cond.methodLink RX8 1 objectInit, Cond.instanceMethod objectInit, Cond.code objectInit ⟨#[0xb1]⟩ 1 none, Cond.classLink RX8 7 RX4, Cond.instantiable RX4 6, Cond.initialized RX4, Cond.fieldLink RX8 10 "AnchoredNotes" "page" "LAnchoredNotes$Page;", Cond.classLink RX8 16 RX1, Cond.instantiable RX1 7, Cond.initialized RX1, Cond.fieldLink RX8 19 "AnchoredNotes" "margin" "LAnchoredNotes$Margin;", Cond.classLink RX8 23 RX7, Cond.instantiable RX7 3, Cond.initialized RX7]
def wsL_law_r2 : List Cond := [Cond.fieldLink RX8 26 "AnchoredNotes" "search" "LAnchoredNotes$Search;", Cond.classLink RX8 30 RX6, Cond.instantiable RX6 2, Cond.initialized RX6, Cond.fieldLink RX8 35 "AnchoredNotes" "pad" "LAnchoredNotes$Row;", Cond.classLink RX8 39 RX3, Cond.instantiable RX3 4, Cond.initialized RX3, Cond.fieldLink RX8 42 "AnchoredNotes" "reader" "LAnchoredNotes$OrderReader;", Cond.classLink RX8 46 RX0, Cond.instantiable RX0 2, Cond.initialized RX0, Cond.fieldLink RX8 49 "AnchoredNotes" "history" "LAnchoredNotes$History;", Cond.fieldLink RX8 53 "AnchoredNotes" "slots" "[LAnchoredNotes$Page;", Cond.methodLink RX8 9 yX4_init, Cond.instanceMethod yX4_init, Cond.code yX4_init cX4_init 2 none, Cond.methodLink RX4 3 objectInit, Cond.classLink RX4 9 RX6, Cond.fieldLink RX4 14 "AnchoredNotes$Page" "settings" "LAnchoredNotes$Row;", Cond.fieldLink RX4 20 "AnchoredNotes$Page" "letters" "LAnchoredNotes$Row;", Cond.fieldLink RX4 23 "AnchoredNotes$Page" "owners" "LAnchoredNotes$Row;", Cond.classLink RX4 26 RX2, Cond.fieldLink RX4 28 "AnchoredNotes$Page" "notes" "[LAnchoredNotes$Note;"]
def wsL_law_r3 : List Cond := [Cond.classLink RX4 32 RX5, Cond.instantiable RX5 4, Cond.initialized RX5, Cond.fieldLink RX4 35 "AnchoredNotes$Page" "pieces" "LAnchoredNotes$Pieces;", Cond.instantiable RX2 4, Cond.initialized RX2, Cond.methodLink RX4 11 yX6_init, Cond.instanceMethod yX6_init, Cond.code yX6_init cX6_init 2 none, Cond.methodLink RX6 3 objectInit, Cond.arrayClass .int, Cond.fieldLink RX6 9 "AnchoredNotes$Row" "items" "[I", Cond.instanceMethod yX5_init, Cond.code yX5_init cX5_init 1 none, Cond.methodLink RX5 3 objectInit, Cond.methodLink RX4 39 yX6_add, Cond.instanceMethod yX6_add, Cond.selects RX6 yX6_add yX6_add, Cond.code yX6_add cX6_add 2 none, Cond.fieldLink RX6 15 "AnchoredNotes$Row" "length" "I", Cond.instanceMethod yX2_init, Cond.code yX2_init cX2_init 1 none, Cond.methodLink RX2 3 objectInit, Cond.fieldLink RX2 9 "AnchoredNotes$Note" "target" "I"]
def wsL_law_r4 : List Cond := [Cond.classLink RX2 15 RX6, Cond.fieldLink RX2 20 "AnchoredNotes$Note" "words" "LAnchoredNotes$Row;", Cond.fieldLink RX2 24 "AnchoredNotes$Note" "ahead" "LAnchoredNotes$Row;", Cond.fieldLink RX2 27 "AnchoredNotes$Note" "behind" "LAnchoredNotes$Row;", Cond.methodLink RX2 17 yX6_init, Cond.instanceMethod yX1_init, Cond.code yX1_init cX1_init 1 none, Cond.methodLink RX1 3 objectInit, Cond.classLink RX1 9 RX6, Cond.fieldLink RX1 14 "AnchoredNotes$Margin" "lines" "LAnchoredNotes$Row;", Cond.fieldLink RX1 20 "AnchoredNotes$Margin" "leaders" "LAnchoredNotes$Row;", Cond.fieldLink RX1 23 "AnchoredNotes$Margin" "firsts" "LAnchoredNotes$Row;", Cond.fieldLink RX1 26 "AnchoredNotes$Margin" "used" "LAnchoredNotes$Row;", Cond.methodLink RX1 11 yX6_init, Cond.instanceMethod yX7_init, Cond.code yX7_init cX7_init 1 none, Cond.methodLink RX7 3 objectInit, Cond.methodLink RX8 32 yX6_init, Cond.instanceMethod yX3_init, Cond.code yX3_init cX3_init 1 none, Cond.methodLink RX3 3 objectInit, Cond.classLink RX3 9 RX6, Cond.fieldLink RX3 14 "AnchoredNotes$OrderReader" "numbers" "LAnchoredNotes$Row;", Cond.methodLink RX3 11 yX6_init]
def wsL_law_r5 : List Cond := [Cond.instanceMethod yX0_init, Cond.code yX0_init cX0_init 1 none, Cond.methodLink RX0 3 objectInit, Cond.classLink RX0 9 RX4, Cond.fieldLink RX0 11 "AnchoredNotes$History" "states" "[LAnchoredNotes$Page;", Cond.methodLink RL 12 yX9_init, Cond.instanceMethod yX9_init, Cond.code yX9_init cX9_init 1 none, Cond.methodLink RX9 1 objectInit, Cond.fieldLink RX9 7 "AnchoredNotesModel" "now" "[I", Cond.fieldLink RX9 13 "AnchoredNotesModel" "past" "[I", Cond.fieldLink RX9 16 "AnchoredNotesModel" "slots" "[I", Cond.arrayClass .boolean, Cond.fieldLink RX9 19 "AnchoredNotesModel" "held" "[Z", Cond.fieldLink RX9 23 "AnchoredNotesModel" "pad" "[I", Cond.fieldLink RX9 26 "AnchoredNotesModel" "orders" "[I", Cond.fieldLink RX9 29 "AnchoredNotesModel" "lines" "[I", Cond.fieldLink RX9 32 "AnchoredNotesModel" "own" "[I", Cond.fieldLink RX9 35 "AnchoredNotesModel" "full" "[I", Cond.fieldLink RX9 38 "AnchoredNotesModel" "taken" "[I", Cond.methodLink RL 13 yX8_set, Cond.instanceMethod yX8_set, Cond.selects RX8 yX8_set yX8_set, Cond.code yX8_set cX8_set 3 (some .int)]
def wsL_law_r6 : List Cond := [Cond.methodLink RX8 57 yX0_keep, Cond.instanceMethod yX0_keep, Cond.selects RX0 yX0_keep yX0_keep, Cond.code yX0_keep cX0_keep 3 none, Cond.fieldLink RX0 17 "AnchoredNotes$History" "size" "I", Cond.methodLink RX0 21 yX4_init, Cond.methodLink RX0 22 yX4_copyFrom, Cond.instanceMethod yX4_copyFrom, Cond.selects RX4 yX4_copyFrom yX4_copyFrom, Cond.code yX4_copyFrom cX4_copyFrom 5 none, Cond.fieldLink RX4 47 "AnchoredNotes$Page" "noteCount" "I", Cond.methodLink RX4 43 yX6_copyFrom, Cond.instanceMethod yX6_copyFrom, Cond.selects RX6 yX6_copyFrom yX6_copyFrom, Cond.code yX6_copyFrom cX6_copyFrom 2 none, Cond.methodLink RX6 37 Lib.Math.min.name, Cond.static Lib.Math.min.name, Cond.initialized "java/lang/Math", Cond.code Lib.Math.min.name Lib.Math.min.code 2 (some .int), Cond.methodLink RX6 23 arraycopyName, Cond.native arraycopyName, Cond.static arraycopyName, Cond.initialized "java/lang/System", Cond.methodLink RX4 51 yX4_find]
def wsL_law_r7 : List Cond := [Cond.instanceMethod yX4_find, Cond.selects RX4 yX4_find yX4_find, Cond.code yX4_find cX4_find 2 (some (.object "AnchoredNotes$Note")), Cond.methodLink RX4 55 yX2_copyFrom, Cond.instanceMethod yX2_copyFrom, Cond.selects RX2 yX2_copyFrom yX2_copyFrom, Cond.code yX2_copyFrom cX2_copyFrom 2 none, Cond.methodLink RX2 37 yX6_copyFrom, Cond.methodLink RX8 61 yX4_changeSetting, Cond.instanceMethod yX4_changeSetting, Cond.selects RX4 yX4_changeSetting yX4_changeSetting, Cond.code yX4_changeSetting cX4_changeSetting 4 (some .int), Cond.methodLink RX4 58 yX6_has, Cond.instanceMethod yX6_has, Cond.selects RX6 yX6_has yX6_has, Cond.code yX6_has cX6_has 2 (some .boolean), Cond.methodLink RX4 62 yX4_leastOf, Cond.static yX4_leastOf, Cond.code yX4_leastOf cX4_leastOf 1 (some .int), Cond.methodLink RX4 66 yX4_mostOf, Cond.static yX4_mostOf, Cond.code yX4_mostOf cX4_mostOf 1 (some .int), Cond.methodLink RX4 69 yX6_item, Cond.instanceMethod yX6_item]
def wsL_law_r8 : List Cond := [Cond.selects RX6 yX6_item yX6_item, Cond.code yX6_item cX6_item 2 (some .int), Cond.methodLink RX4 72 yX6_replace, Cond.instanceMethod yX6_replace, Cond.selects RX6 yX6_replace yX6_replace, Cond.code yX6_replace cX6_replace 3 none, Cond.methodLink RX6 19 yX6_has, Cond.methodLink RX8 65 yX0_confirm, Cond.instanceMethod yX0_confirm, Cond.selects RX0 yX0_confirm yX0_confirm, Cond.code yX0_confirm cX0_confirm 2 (some .int), Cond.methodLink RX0 26 yX0_forgetOldest, Cond.instanceMethod yX0_forgetOldest, Cond.selects RX0 yX0_forgetOldest yX0_forgetOldest, Cond.code yX0_forgetOldest cX0_forgetOldest 3 none, Cond.methodLink RL 17 yX9_set, Cond.instanceMethod yX9_set, Cond.selects RX9 yX9_set yX9_set, Cond.code yX9_set cX9_set 4 (some .int), Cond.methodLink RX9 41 yX9_in, Cond.static yX9_in, Cond.code yX9_in cX9_in 3 (some .boolean), Cond.methodLink RX9 91 yX9_isFor, Cond.static yX9_isFor]
def wsL_law_r9 : List Cond := [Cond.code yX9_isFor cX9_isFor 2 (some .boolean), Cond.methodLink RX9 57 yX9_records, Cond.instanceMethod yX9_records, Cond.selects RX9 yX9_records yX9_records, Cond.code yX9_records cX9_records 2 none, Cond.fieldLink RX9 49 "AnchoredNotesModel" "kept" "I", Cond.methodLink RX9 53 yX9_lays, Cond.static yX9_lays, Cond.code yX9_lays cX9_lays 5 none, Cond.methodLink RL 18 yX8_write, Cond.instanceMethod yX8_write, Cond.selects RX8 yX8_write yX8_write, Cond.code yX8_write cX8_write 3 (some .int), Cond.methodLink RX8 69 yX4_writeLetter, Cond.instanceMethod yX4_writeLetter, Cond.selects RX4 yX4_writeLetter yX4_writeLetter, Cond.code yX4_writeLetter cX4_writeLetter 3 (some .int), Cond.fieldLink RX4 76 "AnchoredNotes$Row" "length" "I", Cond.methodLink RX4 79 yX6_insert, Cond.instanceMethod yX6_insert, Cond.selects RX6 yX6_insert yX6_insert, Cond.code yX6_insert cX6_insert 3 none, Cond.methodLink RL 21 yX9_write, Cond.instanceMethod yX9_write]
def wsL_law_r10 : List Cond := [Cond.selects RX9 yX9_write yX9_write, Cond.code yX9_write cX9_write 4 (some .int), Cond.methodLink RX9 94 yX9_mayWrite, Cond.instanceMethod yX9_mayWrite, Cond.selects RX9 yX9_mayWrite yX9_mayWrite, Cond.code yX9_mayWrite cX9_mayWrite 3 (some .int), Cond.methodLink RX9 97 yX9_comes, Cond.instanceMethod yX9_comes, Cond.selects RX9 yX9_comes yX9_comes, Cond.code yX9_comes cX9_comes 5 none, Cond.methodLink RL 22 yX8_erase, Cond.instanceMethod yX8_erase, Cond.selects RX8 yX8_erase yX8_erase, Cond.code yX8_erase cX8_erase 3 (some .int), Cond.methodLink RX8 72 yX4_eraseLetters, Cond.instanceMethod yX4_eraseLetters, Cond.selects RX4 yX4_eraseLetters yX4_eraseLetters, Cond.code yX4_eraseLetters cX4_eraseLetters 4 (some .int), Cond.methodLink RX4 82 yX4_orphanedBy, Cond.instanceMethod yX4_orphanedBy, Cond.selects RX4 yX4_orphanedBy yX4_orphanedBy, Cond.code yX4_orphanedBy cX4_orphanedBy 7 (some .int), Cond.methodLink RX4 94 yX4_passageError, Cond.instanceMethod yX4_passageError]
def wsL_law_r11 : List Cond := [Cond.selects RX4 yX4_passageError yX4_passageError, Cond.code yX4_passageError cX4_passageError 3 (some .int), Cond.methodLink RX4 86 yX6_cut, Cond.instanceMethod yX6_cut, Cond.selects RX6 yX6_cut yX6_cut, Cond.code yX6_cut cX6_cut 3 none, Cond.methodLink RX4 89 yJ6_bitCount_0f7a4, Cond.static yJ6_bitCount_0f7a4, Cond.initialized RJ6, Cond.code yJ6_bitCount_0f7a4 cJ6_bitCount_0f7a4 1 (some .int), Cond.constant RJ6 265 (1431655765), Cond.constant RJ6 266 (858993459), Cond.constant RJ6 267 (252645135), Cond.methodLink RL 25 yX9_erase, Cond.instanceMethod yX9_erase, Cond.selects RX9 yX9_erase yX9_erase, Cond.code yX9_erase cX9_erase 4 (some .int), Cond.methodLink RX9 112 yX9_maySpan, Cond.instanceMethod yX9_maySpan, Cond.selects RX9 yX9_maySpan yX9_maySpan, Cond.code yX9_maySpan cX9_maySpan 3 (some .int), Cond.methodLink RX9 101 yX9_isPlace, Cond.instanceMethod yX9_isPlace, Cond.selects RX9 yX9_isPlace yX9_isPlace]
def wsL_law_r12 : List Cond := [Cond.code yX9_isPlace cX9_isPlace 2 (some .boolean), Cond.methodLink RX9 115 yX9_erases, Cond.instanceMethod yX9_erases, Cond.selects RX9 yX9_erases yX9_erases, Cond.code yX9_erases cX9_erases 4 (some .int), Cond.methodLink RX9 104 yX9_orphans, Cond.instanceMethod yX9_orphans, Cond.selects RX9 yX9_orphans yX9_orphans, Cond.code yX9_orphans cX9_orphans 3 (some .int), Cond.methodLink RX9 85 yX9_isOrphan, Cond.instanceMethod yX9_isOrphan, Cond.selects RX9 yX9_isOrphan yX9_isOrphan, Cond.code yX9_isOrphan cX9_isOrphan 2 (some .boolean), Cond.methodLink RX9 64 yX9_isReply, Cond.instanceMethod yX9_isReply, Cond.selects RX9 yX9_isReply yX9_isReply, Cond.code yX9_isReply cX9_isReply 2 (some .boolean), Cond.methodLink RX9 45 yX9_of0, Cond.instanceMethod yX9_of0, Cond.selects RX9 yX9_of0 yX9_of0, Cond.code yX9_of0 cX9_of0 3 (some .int), Cond.methodLink RX9 68 yX9_present, Cond.instanceMethod yX9_present, Cond.selects RX9 yX9_present yX9_present]
def wsL_law_r13 : List Cond := [Cond.code yX9_present cX9_present 4 (some .int), Cond.methodLink RX9 60 yX9_isOf, Cond.instanceMethod yX9_isOf, Cond.selects RX9 yX9_isOf yX9_isOf, Cond.code yX9_isOf cX9_isOf 3 (some .boolean), Cond.methodLink RX9 108 yX9_goes, Cond.instanceMethod yX9_goes, Cond.selects RX9 yX9_goes yX9_goes, Cond.code yX9_goes cX9_goes 5 none, Cond.methodLink RL 26 yX8_move, Cond.instanceMethod yX8_move, Cond.selects RX8 yX8_move yX8_move, Cond.code yX8_move cX8_move 4 (some .int), Cond.methodLink RX8 75 yX4_moveLetters, Cond.instanceMethod yX4_moveLetters, Cond.selects RX4 yX4_moveLetters yX4_moveLetters, Cond.code yX4_moveLetters cX4_moveLetters 6 (some .int), Cond.methodLink RX4 97 yX6_shift, Cond.instanceMethod yX6_shift, Cond.selects RX6 yX6_shift yX6_shift, Cond.code yX6_shift cX6_shift 4 none, Cond.methodLink RX6 29 yX6_exchange, Cond.instanceMethod yX6_exchange, Cond.selects RX6 yX6_exchange yX6_exchange]
def wsL_law_r14 : List Cond := [Cond.code yX6_exchange cX6_exchange 4 none, Cond.methodLink RX6 33 yX6_turn, Cond.instanceMethod yX6_turn, Cond.selects RX6 yX6_turn yX6_turn, Cond.code yX6_turn cX6_turn 6 none, Cond.methodLink RX4 101 yX4_countParted, Cond.instanceMethod yX4_countParted, Cond.selects RX4 yX4_countParted yX4_countParted, Cond.code yX4_countParted cX4_countParted 3 (some .int), Cond.fieldLink RX4 163 "AnchoredNotes$Pieces" "pieces" "I", Cond.methodLink RX4 150 yX4_piecesOf, Cond.instanceMethod yX4_piecesOf, Cond.selects RX4 yX4_piecesOf yX4_piecesOf, Cond.code yX4_piecesOf cX4_piecesOf 2 (some (.object "AnchoredNotes$Pieces")), Cond.methodLink RX4 156 yX5_gather, Cond.instanceMethod yX5_gather, Cond.selects RX5 yX5_gather yX5_gather, Cond.code yX5_gather cX5_gather 7 none, Cond.fieldLink RX5 9 "AnchoredNotes$Pieces" "pieces" "I", Cond.fieldLink RX5 15 "AnchoredNotes$Pieces" "letters" "I", Cond.fieldLink RX5 18 "AnchoredNotes$Pieces" "first" "I", Cond.fieldLink RX5 21 "AnchoredNotes$Pieces" "last" "I", Cond.fieldLink RX5 24 "AnchoredNotes$Row" "length" "I", Cond.methodLink RX5 29 yX6_item]
def wsL_law_r15 : List Cond := [Cond.static yX8_isIn, Cond.code yX8_isIn cX8_isIn 2 (some .boolean), Cond.methodLink RL 30 yX9_move, Cond.instanceMethod yX9_move, Cond.selects RX9 yX9_move yX9_move, Cond.code yX9_move cX9_move 5 (some .int), Cond.methodLink RX9 118 yX9_mayMove, Cond.instanceMethod yX9_mayMove, Cond.selects RX9 yX9_mayMove yX9_mayMove, Cond.code yX9_mayMove cX9_mayMove 5 (some .int), Cond.methodLink RX9 122 yX9_moves, Cond.instanceMethod yX9_moves, Cond.selects RX9 yX9_moves yX9_moves, Cond.code yX9_moves cX9_moves 6 none, Cond.methodLink RX9 125 yX9_torn, Cond.instanceMethod yX9_torn, Cond.selects RX9 yX9_torn yX9_torn, Cond.code yX9_torn cX9_torn 3 (some .int), Cond.fieldLink RX9 72 "AnchoredNotesModel" "pieces" "I", Cond.methodLink RX9 81 yX9_finds, Cond.instanceMethod yX9_finds, Cond.selects RX9 yX9_finds yX9_finds, Cond.code yX9_finds cX9_finds 5 none, Cond.fieldLink RX9 75 "AnchoredNotesModel" "first" "I"]
def wsL_law_r16 : List Cond := [Cond.fieldLink RX9 78 "AnchoredNotesModel" "last" "I", Cond.methodLink RL 31 yX8_note, Cond.instanceMethod yX8_note, Cond.selects RX8 yX8_note yX8_note, Cond.code yX8_note cX8_note 3 (some .int), Cond.methodLink RX8 79 yX4_addNote, Cond.instanceMethod yX4_addNote, Cond.selects RX4 yX4_addNote yX4_addNote, Cond.code yX4_addNote cX4_addNote 5 (some .int), Cond.methodLink RX4 105 yX4_anchor, Cond.instanceMethod yX4_anchor, Cond.selects RX4 yX4_anchor yX4_anchor, Cond.code yX4_anchor cX4_anchor 6 none, Cond.methodLink RX4 108 yX2_remember, Cond.instanceMethod yX2_remember, Cond.selects RX2 yX2_remember yX2_remember, Cond.code yX2_remember cX2_remember 5 none, Cond.methodLink RX2 33 yX6_copyPart, Cond.instanceMethod yX6_copyPart, Cond.selects RX6 yX6_copyPart yX6_copyPart, Cond.code yX6_copyPart cX6_copyPart 6 none, Cond.methodLink RX6 43 yX6_clear, Cond.instanceMethod yX6_clear, Cond.selects RX6 yX6_clear yX6_clear]
def wsL_law_r17 : List Cond := [Cond.code yX6_clear cX6_clear 1 none, Cond.methodLink RX6 46 yX6_item, Cond.methodLink RX6 50 yX6_add, Cond.methodLink RL 34 yX9_note, Cond.instanceMethod yX9_note, Cond.selects RX9 yX9_note yX9_note, Cond.code yX9_note cX9_note 4 (some .int), Cond.methodLink RX9 134 yX9_mayNote, Cond.instanceMethod yX9_mayNote, Cond.selects RX9 yX9_mayNote yX9_mayNote, Cond.code yX9_mayNote cX9_mayNote 4 (some .int), Cond.methodLink RX9 137 yX9_notes, Cond.instanceMethod yX9_notes, Cond.selects RX9 yX9_notes yX9_notes, Cond.code yX9_notes cX9_notes 6 (some .int), Cond.methodLink RX9 131 yX9_takes, Cond.instanceMethod yX9_takes, Cond.selects RX9 yX9_takes yX9_takes, Cond.code yX9_takes cX9_takes 5 none, Cond.methodLink RX9 128 yX9_remembers, Cond.instanceMethod yX9_remembers, Cond.selects RX9 yX9_remembers yX9_remembers, Cond.code yX9_remembers cX9_remembers 7 none, Cond.methodLink RL 35 yX8_reply]
def wsL_law_r18 : List Cond := [Cond.instanceMethod yX8_reply, Cond.selects RX8 yX8_reply yX8_reply, Cond.code yX8_reply cX8_reply 2 (some .int), Cond.methodLink RX8 82 yX4_addReply, Cond.instanceMethod yX4_addReply, Cond.selects RX4 yX4_addReply yX4_addReply, Cond.code yX4_addReply cX4_addReply 4 (some .int), Cond.methodLink RX4 112 yX2_becomeReply, Cond.instanceMethod yX2_becomeReply, Cond.selects RX2 yX2_becomeReply yX2_becomeReply, Cond.code yX2_becomeReply cX2_becomeReply 2 none, Cond.methodLink RX2 30 yX6_clear, Cond.methodLink RL 39 yX9_reply, Cond.instanceMethod yX9_reply, Cond.selects RX9 yX9_reply yX9_reply, Cond.code yX9_reply cX9_reply 3 (some .int), Cond.methodLink RX9 143 yX9_mayReply, Cond.instanceMethod yX9_mayReply, Cond.selects RX9 yX9_mayReply yX9_mayReply, Cond.code yX9_mayReply cX9_mayReply 2 (some .int), Cond.methodLink RX9 140 yX9_isNote, Cond.instanceMethod yX9_isNote, Cond.selects RX9 yX9_isNote yX9_isNote, Cond.code yX9_isNote cX9_isNote 2 (some .boolean)]
def wsL_law_r19 : List Cond := [Cond.methodLink RX9 146 yX9_replies, Cond.instanceMethod yX9_replies, Cond.selects RX9 yX9_replies yX9_replies, Cond.code yX9_replies cX9_replies 3 (some .int), Cond.methodLink RL 40 yX8_drop, Cond.instanceMethod yX8_drop, Cond.selects RX8 yX8_drop yX8_drop, Cond.code yX8_drop cX8_drop 2 (some .int), Cond.methodLink RX8 85 yX4_dropFamily, Cond.instanceMethod yX4_dropFamily, Cond.selects RX4 yX4_dropFamily yX4_dropFamily, Cond.code yX4_dropFamily cX4_dropFamily 4 (some .int), Cond.methodLink RX4 115 yX4_family, Cond.instanceMethod yX4_family, Cond.selects RX4 yX4_family yX4_family, Cond.code yX4_family cX4_family 5 (some .int), Cond.fieldLink RX4 125 "AnchoredNotes$Note" "target" "I", Cond.methodLink RX4 122 yX4_remove, Cond.instanceMethod yX4_remove, Cond.selects RX4 yX4_remove yX4_remove, Cond.code yX4_remove cX4_remove 6 none, Cond.methodLink RL 43 yX9_drop, Cond.instanceMethod yX9_drop, Cond.selects RX9 yX9_drop yX9_drop]
def wsL_law_r20 : List Cond := [Cond.code yX9_drop cX9_drop 2 (some .int), Cond.methodLink RX9 152 yX9_drops, Cond.instanceMethod yX9_drops, Cond.selects RX9 yX9_drops yX9_drops, Cond.code yX9_drops cX9_drops 4 (some .int), Cond.methodLink RX9 88 yX9_isBelow, Cond.instanceMethod yX9_isBelow, Cond.selects RX9 yX9_isBelow yX9_isBelow, Cond.code yX9_isBelow cX9_isBelow 4 (some .boolean), Cond.methodLink RX9 149 yX9_noteGoes, Cond.instanceMethod yX9_noteGoes, Cond.selects RX9 yX9_noteGoes yX9_noteGoes, Cond.code yX9_noteGoes cX9_noteGoes 5 none, Cond.methodLink RL 44 yX8_reclaim, Cond.instanceMethod yX8_reclaim, Cond.selects RX8 yX8_reclaim yX8_reclaim, Cond.code yX8_reclaim cX8_reclaim 2 (some .int), Cond.methodLink RX8 88 yX4_reclaimNote, Cond.instanceMethod yX4_reclaimNote, Cond.selects RX4 yX4_reclaimNote yX4_reclaimNote, Cond.code yX4_reclaimNote cX4_reclaimNote 4 (some .int), Cond.fieldLink RX4 137 "AnchoredNotes$Search" "places" "I", Cond.fieldLink RX4 140 "AnchoredNotes$Search" "place" "I", Cond.fieldLink RX4 143 "AnchoredNotes$Note" "words" "LAnchoredNotes$Row;"]
def wsL_law_r21 : List Cond := [Cond.methodLink RX4 128 yX4_state, Cond.instanceMethod yX4_state, Cond.selects RX4 yX4_state yX4_state, Cond.code yX4_state cX4_state 3 (some .int), Cond.fieldLink RX4 154 "AnchoredNotes$Pieces" "letters" "I", Cond.methodLink RX4 146 yX2_isReply, Cond.instanceMethod yX2_isReply, Cond.selects RX2 yX2_isReply yX2_isReply, Cond.code yX2_isReply cX2_isReply 1 (some .boolean), Cond.methodLink RX4 131 yX7_look, Cond.instanceMethod yX7_look, Cond.selects RX7 yX7_look yX7_look, Cond.code yX7_look cX7_look 6 none, Cond.fieldLink RX7 9 "AnchoredNotes$Search" "place" "I", Cond.fieldLink RX7 15 "AnchoredNotes$Search" "likeness" "I", Cond.fieldLink RX7 18 "AnchoredNotes$Search" "places" "I", Cond.fieldLink RX7 21 "AnchoredNotes$Note" "words" "LAnchoredNotes$Row;", Cond.fieldLink RX7 27 "AnchoredNotes$Row" "length" "I", Cond.fieldLink RX7 36 "AnchoredNotes$Note" "ahead" "LAnchoredNotes$Row;", Cond.fieldLink RX7 39 "AnchoredNotes$Note" "behind" "LAnchoredNotes$Row;", Cond.methodLink RX7 32 yX6_countAlike, Cond.instanceMethod yX6_countAlike, Cond.selects RX6 yX6_countAlike yX6_countAlike, Cond.code yX6_countAlike cX6_countAlike 5 (some .int)]
def wsL_law_r22 : List Cond := [Cond.methodLink RL 47 yX9_reclaim, Cond.instanceMethod yX9_reclaim, Cond.selects RX9 yX9_reclaim yX9_reclaim, Cond.code yX9_reclaim cX9_reclaim 3 (some .int), Cond.methodLink RX9 164 yX9_mayReclaim, Cond.instanceMethod yX9_mayReclaim, Cond.selects RX9 yX9_mayReclaim yX9_mayReclaim, Cond.code yX9_mayReclaim cX9_mayReclaim 2 (some .int), Cond.methodLink RX9 161 yX9_possible, Cond.instanceMethod yX9_possible, Cond.selects RX9 yX9_possible yX9_possible, Cond.code yX9_possible cX9_possible 7 (some .int), Cond.methodLink RX9 155 yX9_looksLike, Cond.instanceMethod yX9_looksLike, Cond.selects RX9 yX9_looksLike yX9_looksLike, Cond.code yX9_looksLike cX9_looksLike 6 (some .boolean), Cond.methodLink RX9 158 yX9_likeness, Cond.instanceMethod yX9_likeness, Cond.selects RX9 yX9_likeness yX9_likeness, Cond.code yX9_likeness cX9_likeness 6 (some .int), Cond.methodLink RX9 167 yX9_reclaims, Cond.instanceMethod yX9_reclaims, Cond.selects RX9 yX9_reclaims yX9_reclaims, Cond.code yX9_reclaims cX9_reclaims 3 (some .int)]
def wsL_law_r23 : List Cond := [Cond.methodLink RL 48 yX8_letter, Cond.instanceMethod yX8_letter, Cond.selects RX8 yX8_letter yX8_letter, Cond.code yX8_letter cX8_letter 2 (some .int), Cond.fieldLink RX8 92 "AnchoredNotes$Page" "letters" "LAnchoredNotes$Row;", Cond.methodLink RX8 95 yX6_item, Cond.methodLink RL 51 yX9_letter, Cond.instanceMethod yX9_letter, Cond.selects RX9 yX9_letter yX9_letter, Cond.code yX9_letter cX9_letter 2 (some .int), Cond.methodLink RL 52 yX8_of, Cond.instanceMethod yX8_of, Cond.selects RX8 yX8_of yX8_of, Cond.code yX8_of cX8_of 4 (some .int), Cond.fieldLink RX8 112 "AnchoredNotes$Pieces" "first" "I", Cond.fieldLink RX8 118 "AnchoredNotes$Pieces" "last" "I", Cond.fieldLink RX8 127 "AnchoredNotes$Note" "words" "LAnchoredNotes$Row;", Cond.fieldLink RX8 130 "AnchoredNotes$Row" "length" "I", Cond.fieldLink RX8 133 "AnchoredNotes$Pieces" "letters" "I", Cond.fieldLink RX8 135 "AnchoredNotes$Pieces" "pieces" "I", Cond.fieldLink RX8 138 "AnchoredNotes$Note" "target" "I", Cond.methodLink RX8 98 yX4_find, Cond.methodLink RX8 102 yX4_state, Cond.methodLink RX8 105 yX4_root]
def wsL_law_r24 : List Cond := [Cond.instanceMethod yX4_root, Cond.selects RX4 yX4_root yX4_root, Cond.code yX4_root cX4_root 5 (some .int), Cond.methodLink RX4 160 yX4_depth, Cond.instanceMethod yX4_depth, Cond.selects RX4 yX4_depth yX4_depth, Cond.code yX4_depth cX4_depth 4 (some .int), Cond.methodLink RX8 108 yX4_piecesOf, Cond.methodLink RX8 121 yX2_isReply, Cond.methodLink RX8 141 yX4_family, Cond.methodLink RX8 144 yJ6_bitCount_0f7a4, Cond.methodLink RX8 149 yX4_depth, Cond.methodLink RL 55 yX9_of, Cond.instanceMethod yX9_of, Cond.selects RX9 yX9_of yX9_of, Cond.code yX9_of cX9_of 3 (some .int), Cond.methodLink RX9 177 yX9_ofNote, Cond.instanceMethod yX9_ofNote, Cond.selects RX9 yX9_ofNote yX9_ofNote, Cond.code yX9_ofNote cX9_ofNote 3 (some .int), Cond.methodLink RX9 170 yX9_rootOf, Cond.instanceMethod yX9_rootOf, Cond.selects RX9 yX9_rootOf yX9_rootOf, Cond.code yX9_rootOf cX9_rootOf 5 (some .int)]
def wsL_law_r25 : List Cond := [Cond.methodLink RX9 174 yX9_below, Cond.instanceMethod yX9_below, Cond.selects RX9 yX9_below yX9_below, Cond.code yX9_below cX9_below 4 (some .int), Cond.methodLink RL 56 yX8_word, Cond.instanceMethod yX8_word, Cond.selects RX8 yX8_word yX8_word, Cond.code yX8_word cX8_word 4 (some .int), Cond.methodLink RL 59 yX9_word, Cond.instanceMethod yX9_word, Cond.selects RX9 yX9_word yX9_word, Cond.code yX9_word cX9_word 3 (some .int), Cond.methodLink RL 60 yX8_at, Cond.instanceMethod yX8_at, Cond.selects RX8 yX8_at yX8_at, Cond.code yX8_at cX8_at 2 (some .int), Cond.fieldLink RX8 152 "AnchoredNotes$Page" "owners" "LAnchoredNotes$Row;", Cond.methodLink RL 63 yX9_at, Cond.instanceMethod yX9_at, Cond.selects RX9 yX9_at yX9_at, Cond.code yX9_at cX9_at 2 (some .int), Cond.methodLink RL 64 yX8_printed, Cond.instanceMethod yX8_printed, Cond.selects RX8 yX8_printed yX8_printed]
def wsL_law_r26 : List Cond := [Cond.code yX8_printed cX8_printed 3 (some .int), Cond.fieldLink RX8 155 "AnchoredNotes$Page" "settings" "LAnchoredNotes$Row;", Cond.fieldLink RX8 162 "AnchoredNotes$Margin" "lines" "LAnchoredNotes$Row;", Cond.fieldLink RX8 165 "AnchoredNotes$Margin" "leaders" "LAnchoredNotes$Row;", Cond.methodLink RX8 158 yX1_layOut, Cond.instanceMethod yX1_layOut, Cond.selects RX1 yX1_layOut yX1_layOut, Cond.code yX1_layOut cX1_layOut 5 none, Cond.fieldLink RX1 32 "AnchoredNotes$Page" "noteCount" "I", Cond.fieldLink RX1 42 "AnchoredNotes$Pieces" "first" "I", Cond.fieldLink RX1 50 "AnchoredNotes$Page" "letters" "LAnchoredNotes$Row;", Cond.fieldLink RX1 53 "AnchoredNotes$Row" "length" "I", Cond.methodLink RX1 29 yX1_empty, Cond.instanceMethod yX1_empty, Cond.selects RX1 yX1_empty yX1_empty, Cond.code yX1_empty cX1_empty 2 none, Cond.fieldLink RX1 70 "AnchoredNotes$Margin" "lastLine" "I", Cond.fieldLink RX1 73 "AnchoredNotes$Margin" "allLeaders" "I", Cond.fieldLink RX1 76 "AnchoredNotes$Margin" "longestLeader" "I", Cond.methodLink RX1 67 yX6_clear, Cond.methodLink RX1 47 yX6_add, Cond.methodLink RX1 38 yX4_piecesOf, Cond.methodLink RX1 56 yX6_item, Cond.methodLink RX1 60 yX4_lineOf]
def wsL_law_r27 : List Cond := [Cond.instanceMethod yX4_lineOf, Cond.selects RX4 yX4_lineOf yX4_lineOf, Cond.code yX4_lineOf cX4_lineOf 3 (some .int), Cond.methodLink RX1 63 yX1_print, Cond.instanceMethod yX1_print, Cond.selects RX1 yX1_print yX1_print, Cond.code yX1_print cX1_print 5 none, Cond.methodLink RX1 83 Lib.Math.max.name, Cond.static Lib.Math.max.name, Cond.code Lib.Math.max.name Lib.Math.max.code 2 (some .int), Cond.methodLink RX1 79 yX6_replace, Cond.methodLink RL 67 yX9_printed, Cond.instanceMethod yX9_printed, Cond.selects RX9 yX9_printed yX9_printed, Cond.code yX9_printed cX9_printed 3 (some .int), Cond.methodLink RX9 180 yX9_prints, Cond.instanceMethod yX9_prints, Cond.selects RX9 yX9_prints yX9_prints, Cond.code yX9_prints cX9_prints 5 none, Cond.methodLink RL 68 yX8_count, Cond.instanceMethod yX8_count, Cond.selects RX8 yX8_count yX8_count, Cond.code yX8_count cX8_count 2 (some .int), Cond.fieldLink RX8 168 "AnchoredNotes$Page" "noteCount" "I"]
def wsL_law_r28 : List Cond := [Cond.fieldLink RX8 181 "AnchoredNotes$Margin" "lastLine" "I", Cond.fieldLink RX8 184 "AnchoredNotes$Margin" "allLeaders" "I", Cond.fieldLink RX8 187 "AnchoredNotes$History" "size" "I", Cond.methodLink RX8 171 yX4_countState, Cond.instanceMethod yX4_countState, Cond.selects RX4 yX4_countState yX4_countState, Cond.code yX4_countState cX4_countState 4 (some .int), Cond.methodLink RX8 174 yX4_countParted, Cond.methodLink RX8 178 yX4_countLines, Cond.instanceMethod yX4_countLines, Cond.selects RX4 yX4_countLines yX4_countLines, Cond.code yX4_countLines cX4_countLines 1 (some .int), Cond.methodLink RX4 165 yX4_lineOf, Cond.methodLink RL 71 yX9_count, Cond.instanceMethod yX9_count, Cond.selects RX9 yX9_count yX9_count, Cond.code yX9_count cX9_count 2 (some .int), Cond.fieldLink RX9 186 "AnchoredNotesModel" "padded" "I", Cond.methodLink RX9 183 yX9_replyCount, Cond.instanceMethod yX9_replyCount, Cond.selects RX9 yX9_replyCount yX9_replyCount, Cond.code yX9_replyCount cX9_replyCount 3 (some .int), Cond.methodLink RX9 189 yX9_lastLine, Cond.instanceMethod yX9_lastLine]
def wsL_law_r29 : List Cond := [Cond.selects RX9 yX9_lastLine yX9_lastLine, Cond.code yX9_lastLine cX9_lastLine 3 (some .int), Cond.methodLink RX9 192 yX9_leaders, Cond.instanceMethod yX9_leaders, Cond.selects RX9 yX9_leaders yX9_leaders, Cond.code yX9_leaders cX9_leaders 6 (some .int), Cond.methodLink RL 72 yX8_orphansIf, Cond.instanceMethod yX8_orphansIf, Cond.selects RX8 yX8_orphansIf yX8_orphansIf, Cond.code yX8_orphansIf cX8_orphansIf 3 (some .int), Cond.methodLink RX8 190 yX4_orphanedBy, Cond.methodLink RL 75 yX9_orphansIf, Cond.instanceMethod yX9_orphansIf, Cond.selects RX9 yX9_orphansIf yX9_orphansIf, Cond.code yX9_orphansIf cX9_orphansIf 7 (some .int), Cond.methodLink RL 76 yX8_could, Cond.instanceMethod yX8_could, Cond.selects RX8 yX8_could yX8_could, Cond.code yX8_could cX8_could 4 (some .int), Cond.fieldLink RX8 197 "AnchoredNotes$Search" "places" "I", Cond.fieldLink RX8 200 "AnchoredNotes$Search" "place" "I", Cond.fieldLink RX8 203 "AnchoredNotes$Search" "likeness" "I", Cond.methodLink RX8 193 yX7_look, Cond.methodLink RL 79 yX9_could]
def wsL_law_r30 : List Cond := [Cond.instanceMethod yX9_could, Cond.selects RX9 yX9_could yX9_could, Cond.code yX9_could cX9_could 3 (some .int), Cond.methodLink RL 80 yX8_leastRoom, Cond.instanceMethod yX8_leastRoom, Cond.selects RX8 yX8_leastRoom yX8_leastRoom, Cond.code yX8_leastRoom cX8_leastRoom 3 (some .int), Cond.fieldLink RX8 206 "AnchoredNotes$Margin" "longestLeader" "I", Cond.methodLink RL 83 yX9_leastRoom, Cond.instanceMethod yX9_leastRoom, Cond.selects RX9 yX9_leastRoom yX9_leastRoom, Cond.code yX9_leastRoom cX9_leastRoom 3 (some .int), Cond.methodLink RL 86 yX8_put, Cond.instanceMethod yX8_put, Cond.selects RX8 yX8_put yX8_put, Cond.code yX8_put cX8_put 5 (some .int), Cond.constantLong RX8 213 (255), Cond.methodLink RX8 209 yX8_countCharacters, Cond.static yX8_countCharacters, Cond.code yX8_countCharacters cX8_countCharacters 6 (some .int), Cond.methodLink RX8 215 yX6_add, Cond.methodLink RL 90 yX9_put, Cond.instanceMethod yX9_put, Cond.selects RX9 yX9_put yX9_put]
def wsL_law_r31 : List Cond := [Cond.code yX9_put cX9_put 5 (some .int), Cond.methodLink RX9 202 yX9_toldBy, Cond.static yX9_toldBy, Cond.code yX9_toldBy cX9_toldBy 4 (some .int), Cond.methodLink RX9 198 yX9_byteOf, Cond.static yX9_byteOf, Cond.code yX9_byteOf cX9_byteOf 3 (some .int), Cond.constantLong RX9 196 (255), Cond.methodLink RL 91 yX8_wipe, Cond.instanceMethod yX8_wipe, Cond.selects RX8 yX8_wipe yX8_wipe, Cond.code yX8_wipe cX8_wipe 2 (some .int), Cond.methodLink RX8 218 yX6_clear, Cond.methodLink RL 95 yX9_wipe, Cond.instanceMethod yX9_wipe, Cond.selects RX9 yX9_wipe yX9_wipe, Cond.code yX9_wipe cX9_wipe 2 (some .int), Cond.methodLink RL 96 yX8_fault, Cond.instanceMethod yX8_fault, Cond.selects RX8 yX8_fault yX8_fault, Cond.code yX8_fault cX8_fault 1 (some .int), Cond.methodLink RX8 221 yX3_findFault, Cond.instanceMethod yX3_findFault, Cond.selects RX3 yX3_findFault yX3_findFault]
def wsL_law_r32 : List Cond := [Cond.code yX3_findFault cX3_findFault 3 (some .int), Cond.fieldLink RX3 20 "AnchoredNotes$OrderReader" "next" "I", Cond.fieldLink RX3 31 "AnchoredNotes$Row" "length" "I", Cond.methodLink RX3 24 yX3_start, Cond.instanceMethod yX3_start, Cond.selects RX3 yX3_start yX3_start, Cond.code yX3_start cX3_start 1 none, Cond.methodLink RX3 27 yX3_readOrder, Cond.instanceMethod yX3_readOrder, Cond.selects RX3 yX3_readOrder yX3_readOrder, Cond.code yX3_readOrder cX3_readOrder 2 (some .boolean), Cond.fieldLink RX3 42 "AnchoredNotes$OrderReader" "kind" "I", Cond.methodLink RX3 38 yX6_item, Cond.methodLink RX3 45 yX6_clear, Cond.methodLink RX3 48 yX3_readNumber, Cond.instanceMethod yX3_readNumber, Cond.selects RX3 yX3_readNumber yX3_readNumber, Cond.code yX3_readNumber cX3_readNumber 3 (some .boolean), Cond.methodLink RX3 54 yX3_isDigit, Cond.static yX3_isDigit, Cond.code yX3_isDigit cX3_isDigit 1 (some .boolean), Cond.methodLink RX3 58 yX6_add, Cond.methodLink RX3 34 yX3_skip, Cond.instanceMethod yX3_skip]
def wsL_law_r33 : List Cond := [Cond.selects RX3 yX3_skip yX3_skip, Cond.code yX3_skip cX3_skip 3 (some .boolean), Cond.methodLink RX3 51 yX3_readLetters, Cond.instanceMethod yX3_readLetters, Cond.selects RX3 yX3_readLetters yX3_readLetters, Cond.code yX3_readLetters cX3_readLetters 2 (some .boolean), Cond.fieldLink RX3 61 "AnchoredNotes$OrderReader" "lettersFrom" "I", Cond.methodLink RX3 64 yX3_isLetter, Cond.static yX3_isLetter, Cond.code yX3_isLetter cX3_isLetter 1 (some .boolean), Cond.methodLink RL 99 yX9_fault, Cond.instanceMethod yX9_fault, Cond.selects RX9 yX9_fault yX9_fault, Cond.code yX9_fault cX9_fault 1 (some .int), Cond.fieldLink RX9 206 "AnchoredNotesModel" "at" "I", Cond.methodLink RX9 231 yX9_isText, Cond.instanceMethod yX9_isText, Cond.selects RX9 yX9_isText yX9_isText, Cond.code yX9_isText cX9_isText 2 (some .boolean), Cond.fieldLink RX9 212 "AnchoredNotesModel" "ordered" "I", Cond.methodLink RX9 228 yX9_isOrder, Cond.instanceMethod yX9_isOrder, Cond.selects RX9 yX9_isOrder yX9_isOrder, Cond.code yX9_isOrder cX9_isOrder 2 (some .boolean)]
def wsL_law_r34 : List Cond := [Cond.methodLink RX9 215 yX9_isNumber, Cond.instanceMethod yX9_isNumber, Cond.selects RX9 yX9_isNumber yX9_isNumber, Cond.code yX9_isNumber cX9_isNumber 3 (some .boolean), Cond.methodLink RX9 209 yX9_isAt, Cond.instanceMethod yX9_isAt, Cond.selects RX9 yX9_isAt yX9_isAt, Cond.code yX9_isAt cX9_isAt 3 (some .boolean), Cond.methodLink RX9 218 yX9_isSign, Cond.instanceMethod yX9_isSign, Cond.selects RX9 yX9_isSign yX9_isSign, Cond.code yX9_isSign cX9_isSign 3 (some .boolean), Cond.methodLink RX9 221 yX9_isWord, Cond.instanceMethod yX9_isWord, Cond.selects RX9 yX9_isWord yX9_isWord, Cond.code yX9_isWord cX9_isWord 1 (some .boolean), Cond.methodLink RX9 225 yX9_isSpan, Cond.instanceMethod yX9_isSpan, Cond.selects RX9 yX9_isSpan yX9_isSpan, Cond.code yX9_isSpan cX9_isSpan 1 (some .boolean), Cond.methodLink RL 100 yX8_carryOut, Cond.instanceMethod yX8_carryOut, Cond.selects RX8 yX8_carryOut yX8_carryOut, Cond.code yX8_carryOut cX8_carryOut 2 (some .int)]
def wsL_law_r35 : List Cond := [Cond.methodLink RX8 225 yX3_start, Cond.methodLink RX8 228 yX3_readOrder, Cond.methodLink RX8 232 yX8_obey, Cond.instanceMethod yX8_obey, Cond.selects RX8 yX8_obey yX8_obey, Cond.code yX8_obey cX8_obey 3 (some .int), Cond.fieldLink RX8 246 "AnchoredNotes$OrderReader" "numbers" "LAnchoredNotes$Row;", Cond.fieldLink RX8 249 "AnchoredNotes$OrderReader" "kind" "I", Cond.methodLink RX8 252 yX8_writeRow, Cond.instanceMethod yX8_writeRow, Cond.selects RX8 yX8_writeRow yX8_writeRow, Cond.code yX8_writeRow cX8_writeRow 4 (some .int), Cond.fieldLink RX8 255 "AnchoredNotes$OrderReader" "lettersFrom" "I", Cond.fieldLink RX8 258 "AnchoredNotes$OrderReader" "next" "I", Cond.methodLink RX8 235 yX3_skip, Cond.methodLink RL 103 yX9_carryOut, Cond.instanceMethod yX9_carryOut, Cond.selects RX9 yX9_carryOut yX9_carryOut, Cond.code yX9_carryOut cX9_carryOut 2 (some .int), Cond.methodLink RX9 241 yX9_does, Cond.instanceMethod yX9_does, Cond.selects RX9 yX9_does yX9_does, Cond.code yX9_does cX9_does 6 (some .boolean), Cond.methodLink RX9 234 yX9_writes]
def wsL_law_r36 : List Cond := [Cond.instanceMethod yX9_writes, Cond.selects RX9 yX9_writes yX9_writes, Cond.code yX9_writes cX9_writes 6 (some .boolean), Cond.methodLink RX9 237 yX9_may, Cond.instanceMethod yX9_may, Cond.selects RX9 yX9_may yX9_may, Cond.code yX9_may cX9_may 5 (some .int), Cond.methodLink RL 104 yX8_undo, Cond.instanceMethod yX8_undo, Cond.selects RX8 yX8_undo yX8_undo, Cond.code yX8_undo cX8_undo 1 (some .int), Cond.methodLink RX8 239 yX0_goBack, Cond.instanceMethod yX0_goBack, Cond.selects RX0 yX0_goBack yX0_goBack, Cond.code yX0_goBack cX0_goBack 4 (some .boolean), Cond.methodLink RL 107 yX9_undo, Cond.instanceMethod yX9_undo, Cond.selects RX9 yX9_undo yX9_undo, Cond.code yX9_undo cX9_undo 1 (some .int), Cond.methodLink RL 108 yX8_save, Cond.instanceMethod yX8_save, Cond.selects RX8 yX8_save yX8_save, Cond.code yX8_save cX8_save 3 (some .int), Cond.methodLink RX8 243 yX4_copyFrom]
def wsL_law_r37 : List Cond := [Cond.methodLink RL 111 yX9_save, Cond.instanceMethod yX9_save, Cond.selects RX9 yX9_save yX9_save, Cond.code yX9_save cX9_save 2 (some .int), Cond.methodLink RL 112 yX8_restore, Cond.instanceMethod yX8_restore, Cond.selects RX8 yX8_restore yX8_restore, Cond.code yX8_restore cX8_restore 3 (some .int), Cond.methodLink RL 115 yX9_restore, Cond.instanceMethod yX9_restore, Cond.selects RX9 yX9_restore yX9_restore, Cond.code yX9_restore cX9_restore 2 (some .int)]
def wsL_law : List Cond := (wsL_law_r1 ++ (wsL_law_r2 ++ (wsL_law_r3 ++ (wsL_law_r4 ++ (wsL_law_r5 ++ (wsL_law_r6 ++ (wsL_law_r7 ++ (wsL_law_r8 ++ (wsL_law_r9 ++ (wsL_law_r10 ++ (wsL_law_r11 ++ (wsL_law_r12 ++ (wsL_law_r13 ++ (wsL_law_r14 ++ (wsL_law_r15 ++ (wsL_law_r16 ++ (wsL_law_r17 ++ (wsL_law_r18 ++ (wsL_law_r19 ++ (wsL_law_r20 ++ (wsL_law_r21 ++ (wsL_law_r22 ++ (wsL_law_r23 ++ (wsL_law_r24 ++ (wsL_law_r25 ++ (wsL_law_r26 ++ (wsL_law_r27 ++ (wsL_law_r28 ++ (wsL_law_r29 ++ (wsL_law_r30 ++ (wsL_law_r31 ++ (wsL_law_r32 ++ (wsL_law_r33 ++ (wsL_law_r34 ++ (wsL_law_r35 ++ (wsL_law_r36 ++ wsL_law_r37)))))))))))))))))))))))))))))))))))) ++ wsX80 ++ wsX90 ++ wsX40 ++ wsX10 ++ wsX70 ++ wsX60 ++ wsX30 ++ wsX00 ++ wsX50 ++ wsX20 ++ ([] : List Cond)
abbrev vwCl : List vw_C := [(RX0, TX0, 2), (RX1, TX1, 7), (RX2, TX2, 4), (RX3, TX3, 4), (RX4, TX4, 6), (RX5, TX5, 4), (RX6, TX6, 2), (RX7, TX7, 3), (RX8, TX8, 7), (RX9, TX9, 17)]
end
section
/-! my layer: one goal G over the heap, one row an instruction; numbers are whole numbers behind J -/
abbrev J (z : Int) : Int32 := Int32.ofInt z
abbrev rg (z : Int) : Prop := -2147483648 ≤ z ∧ z < 2147483648
theorem J_toInt {z : Int} (h : rg z) : (J z).toInt = z := by
  unfold J
  rw [Int32.toInt_ofInt]
  show z.bmod (2 ^ 32) = z
  rw [Int.bmod_eq_of_le (by omega) (by omega)]
theorem J_of (x : Int32) : x = J x.toInt := (Int32.ofInt_toInt x).symm
theorem rg_toInt (x : Int32) : rg x.toInt := by
  have h1 := Int32.le_toInt x
  have h2 := Int32.toInt_lt x
  exact ⟨by omega, by omega⟩
theorem J_add (a b : Int) : J a + J b = J (a + b) := (Int32.ofInt_add a b).symm
theorem J_sub (a b : Int) : J a - J b = J (a - b) := (Int32.ofInt_sub a b).symm
theorem J_mul (a b : Int) : J a * J b = J (a * b) := (Int32.ofInt_mul a b).symm
theorem J_inj {a b : Int} (ha : rg a) (hb : rg b) : J a = J b ↔ a = b := by
  constructor
  · intro h
    have h2 := congrArg Int32.toInt h
    rwa [J_toInt ha, J_toInt hb] at h2
  · intro h; rw [h]
theorem J_lt {a b : Int} (ha : rg a) (hb : rg b) : J a < J b ↔ a < b := by
  rw [Int32.lt_iff_toInt_lt, J_toInt ha, J_toInt hb]
theorem J_le {a b : Int} (ha : rg a) (hb : rg b) : J a ≤ J b ↔ a ≤ b := by
  rw [Int32.le_iff_toInt_le, J_toInt ha, J_toInt hb]
theorem J_0 : (0 : Int32) = J 0 := rfl
theorem J_cl {z : Int} (h : rg z) : (J z).toNatClampNeg = z.toNat := by
  show (J z).toInt.toNat = z.toNat
  rw [J_toInt h]
theorem J_in {z : Int} {n : Nat} (h0 : 0 ≤ z) (h1 : z < n) (hn : n < 2147483648) : vp_in (J z) n := by
  rw [vp_in_iff, J_toInt ⟨by omega, by omega⟩]
  exact ⟨h0, h1⟩
theorem J_nat (n : Nat) : Int32.ofNat n = J (n : Int) := by
  apply Int32.toInt_inj.mp
  first | rfl | simp [J, Int32.toInt_ofInt, Int32.toInt_ofNat']
/-- which classes, slots, array classes -/
abbrev zD : Type := (Nat → ClassId) × (Nat → Nat → Nat) × (Nat → ClassId)
def zTys (D : zD) : List (ClassId × FieldType) := [(D.2.2 0, .int), (D.2.2 1, .boolean), (D.2.2 2, .object "AnchoredNotes$Note"), (D.2.2 3, .object "AnchoredNotes$Page")]
def zKn (D : zD) (U : State) : Prop := va_K (D.1, D.2.1) vwCl (zTys D) U ∧ va_AO "AnchoredNotes$Note" U ∧ va_AO "AnchoredNotes$Page" U
theorem zKn.moved {D : zD} {u U : State} (hvm : u.vm.Alike U.vm) (h : zKn D u) : zKn D U := ⟨h.1.moved hvm, h.2.1.moved hvm, h.2.2.moved hvm⟩
/-- an object; a row of ints; a row of flags; a row of references -/
def Ob (D : zD) (q ci : Nat) (fs : List Value) (H : Heap) : Prop := va_at (D.1, D.2.1) vwCl (q, .inr (ci, fs)) H
def Ia (D : zD) (q N : Nat) (f : Int → Int) (H : Heap) : Prop := va_at (D.1, D.2.1) vwCl (q, .inl (D.2.2 0, N, .inl (fun j => J (f j)))) H
def Ba (D : zD) (q N : Nat) (f : Int → Int) (H : Heap) : Prop := va_at (D.1, D.2.1) vwCl (q, .inl (D.2.2 1, N, .inl (fun j => J (f j)))) H
def Ra (D : zD) (q t N : Nat) (f : Int → Option Nat) (H : Heap) : Prop := va_at (D.1, D.2.1) vwCl (q, .inl (D.2.2 t, N, .inr (.inr (.inr (.inr (fun j => f j)))))) H
/-- one cell is written; some cells may be written -/
def Up1 (a : Nat) (H H' : Heap) : Prop := H'.size = H.size ∧ ∀ q : Nat, q ≠ a → H'[q]? = H[q]?
def Iv (a b : Nat) : Nat → Prop := fun q => a ≤ q ∧ q < b
/-- outside F all stays; d cells are new -/
def Fr (F : Nat → Prop) (d : Nat) (H H' : Heap) : Prop := H'.size = H.size + d ∧ ∀ q : Nat, q < H.size → ¬ F q → H'[q]? = H[q]?
theorem va_at_fit {D : va_G} {cl : List vw_C} {q : Nat × va_E} {H : Heap} (h : va_at D cl q H) : q.1 < H.size := h.lt
theorem Ob.lt {D : zD} {q ci : Nat} {fs : List Value} {H : Heap} (h : Ob D q ci fs H) : q < H.size := va_at_fit (q := (q, _)) h
theorem Ia.lt {D : zD} {q N : Nat} {f : Int → Int} {H : Heap} (h : Ia D q N f H) : q < H.size := va_at_fit (q := (q, _)) h
theorem Ba.lt {D : zD} {q N : Nat} {f : Int → Int} {H : Heap} (h : Ba D q N f H) : q < H.size := va_at_fit (q := (q, _)) h
theorem Ra.lt {D : zD} {q t N : Nat} {f : Int → Option Nat} {H : Heap} (h : Ra D q t N f H) : q < H.size := va_at_fit (q := (q, _)) h
theorem Ob.kept {D : zD} {q ci : Nat} {fs : List Value} {H H' : Heap} (h : Ob D q ci fs H) (e : H'[q]? = H[q]?) : Ob D q ci fs H' := va_at.kept (q := (q, _)) h e
theorem Ia.kept {D : zD} {q N : Nat} {f : Int → Int} {H H' : Heap} (h : Ia D q N f H) (e : H'[q]? = H[q]?) : Ia D q N f H' := va_at.kept (q := (q, _)) h e
theorem Ba.kept {D : zD} {q N : Nat} {f : Int → Int} {H H' : Heap} (h : Ba D q N f H) (e : H'[q]? = H[q]?) : Ba D q N f H' := va_at.kept (q := (q, _)) h e
theorem Ra.kept {D : zD} {q t N : Nat} {f : Int → Option Nat} {H H' : Heap} (h : Ra D q t N f H) (e : H'[q]? = H[q]?) : Ra D q t N f H' := va_at.kept (q := (q, _)) h e
theorem Iv.off {a b q : Nat} (h : q < a ∨ b ≤ q) : ¬ Iv a b q := fun e => by have h1 := e.1; have h2 := e.2; omega
theorem Up1.fr {a : Nat} {H H' : Heap} (h : Up1 a H H') : Fr (Iv a (a + 1)) 0 H H' := ⟨h.1, fun q _ hq => h.2 q (fun e => hq ⟨by omega, by omega⟩)⟩
theorem Fr.refl (F : Nat → Prop) (H : Heap) : Fr F 0 H H := ⟨rfl, fun _ _ _ => rfl⟩
theorem Fr.trans {F : Nat → Prop} {d d' : Nat} {H1 H2 H3 : Heap} (h : Fr F d H1 H2) (h' : Fr F d' H2 H3) : Fr F (d + d') H1 H3 := ⟨by rw [h'.1, h.1, Nat.add_assoc], fun q h1 h2 => (h'.2 q (by rw [h.1]; omega) h2).trans (h.2 q h1 h2)⟩
theorem Fr.trans0 {F : Nat → Prop} {H1 H2 H3 : Heap} (h : Fr F 0 H1 H2) (h' : Fr F 0 H2 H3) : Fr F 0 H1 H3 := h.trans h'
theorem Fr.mono {F F' : Nat → Prop} {d : Nat} {H1 H2 : Heap} (h : Fr F d H1 H2) (hF : ∀ q, q < H1.size → F q → F' q) : Fr F' d H1 H2 := ⟨h.1, fun q h1 h2 => h.2 q h1 (fun e => h2 (hF q h1 e))⟩
theorem Fr.wide {a b a' b' d : Nat} {H1 H2 : Heap} (h : Fr (Iv a b) d H1 H2) (h1 : a' ≤ a) (h2 : b ≤ b') : Fr (Iv a' b') d H1 H2 := h.mono (fun q _ e => ⟨Nat.le_trans h1 e.1, Nat.lt_of_lt_of_le e.2 h2⟩)
theorem Fr.new {H H1 : Heap} {a b d : Nat} (h : H1.size = H.size + d) (o : ∀ q : Nat, q < H.size → H1[q]? = H[q]?) : Fr (Iv a b) d H H1 := ⟨h, fun q h1 _ => o q h1⟩
theorem Fr.any {F : Nat → Prop} {d : Nat} {H H1 : Heap} (h : Fr (Iv 0 0) d H H1) : Fr F d H H1 := ⟨h.1, fun q h1 _ => h.2 q h1 (Iv.off (Or.inr (Nat.zero_le q)))⟩
theorem Ob.fr {D : zD} {q ci a b d : Nat} {fs : List Value} {H H' : Heap} (h : Ob D q ci fs H) (f : Fr (Iv a b) d H H') (e : q < a ∨ b ≤ q) : Ob D q ci fs H' := h.kept (f.2 q h.lt (Iv.off e))
theorem Ia.fr {D : zD} {q N a b d : Nat} {g : Int → Int} {H H' : Heap} (h : Ia D q N g H) (f : Fr (Iv a b) d H H') (e : q < a ∨ b ≤ q) : Ia D q N g H' := h.kept (f.2 q h.lt (Iv.off e))
theorem Ba.fr {D : zD} {q N a b d : Nat} {g : Int → Int} {H H' : Heap} (h : Ba D q N g H) (f : Fr (Iv a b) d H H') (e : q < a ∨ b ≤ q) : Ba D q N g H' := h.kept (f.2 q h.lt (Iv.off e))
theorem Ra.fr {D : zD} {q t N a b d : Nat} {g : Int → Option Nat} {H H' : Heap} (h : Ra D q t N g H) (f : Fr (Iv a b) d H H') (e : q < a ∨ b ≤ q) : Ra D q t N g H' := h.kept (f.2 q h.lt (Iv.off e))
/-- all that is fixed in a method's walk -/
abbrev zC : Type := Program × Launch × Env × Room × State × MethodId × Array Value × List Frame × Method × Code × Nat × Nat × (State → Prop)
section
variable (K : zC)
abbrev zp : Program := K.1
abbrev zl : Launch := K.2.1
abbrev ze : Env := K.2.2.1
abbrev zR : Room := K.2.2.2.1
abbrev zs : State := K.2.2.2.2.1
abbrev zm : MethodId := K.2.2.2.2.2.1
abbrev zar : Array Value := K.2.2.2.2.2.2.1
abbrev zbe : List Frame := K.2.2.2.2.2.2.2.1
abbrev zme : Method := K.2.2.2.2.2.2.2.2.1
abbrev zc : Code := K.2.2.2.2.2.2.2.2.2.1
abbrev znL : Nat := K.2.2.2.2.2.2.2.2.2.2.1
abbrev zba : Nat := K.2.2.2.2.2.2.2.2.2.2.2.1
abbrev zQ : State → Prop := K.2.2.2.2.2.2.2.2.2.2.2.2
end
def G (K : zC) (n k : Nat) (H : Heap) (pc : Nat) (lv : List (Nat × Value)) (st : List Value) : Prop :=
  ∀ (locs : List Loc) (ls : Array Slot), va_S (fun q => zba K ≤ q) (zs K).heap H locs → lv_has ls (znL K) lv →
    W (zp K) (zl K) (ze K) (zR K) (zs K) (zm K) (zar K) (zbe K) (zme K) (zc K) H locs n k (zQ K) (F0 (zm K) pc ls st)
def GX (K : zC) (cc : ByteArray) (own : String) (Ts : List Cond) (D : zD) (base : Nat) (rm : Room) (nL : Nat) : Prop :=
  (zp K).tables.exec = Jvm.exec ∧ (zc K).code = cc ∧ (zc K).maxLocals = nL ∧ (zs K).vm.findClass own = some (zm K).cls ∧ (∀ w ∈ Ts, w.before (zar K) (zs K) = true) ∧ zKn D (zs K) ∧ base ≤ (zs K).heap.size ∧ zba K = base ∧ zR K = rm ∧ znL K = nL ∧ (zme K).locks = false
/-- a method's end, over its first heap -/
def CtQ (base : Nat) (Post : Heap → Option Value → Heap → Prop) : Array Value → State → Outcome → State → Prop := fun _ st o t => (∃ v : Option Value, o = .returned v ∧ Post st.heap v t.heap) ∧ va_F (fun q => base ≤ q) st t
def GR (K : zC) (ret : Option FieldType) (base mc ms : Nat) (Post : Heap → Option Value → Heap → Prop) : Prop :=
  (zme K).sig.returnType = ret ∧ zQ K = MQ (zbe K) (CtQ base Post) (zar K) (zs K) mc ms (fun q => base ≤ q)
/-- a method's contract: over every heap of which Pre holds -/
def Ct (l : Launch) (y : MethodName) (ws : List Cond) (rm : Room) (D : zD) (base : Nat) (As : List Value) (Pre : Heap → Prop) (Post : Heap → Option Value → Heap → Prop) : Prop :=
  Met l y ws rm (va_Pc As (fun U => base ≤ U.heap.size ∧ zKn D U ∧ Pre U.heap)) (CtQ base Post) rm.cells rm.slots (fun q => base ≤ q)
theorem Ct.of {l : Launch} {y : MethodName} {ws ws' : List Cond} {rm : Room} {D : zD} {base : Nat} {As : List Value} {Pre : Heap → Prop} {Post : Heap → Option Value → Heap → Prop} {cc : ByteArray} {maxL : Nat} {ret : Option FieldType} {own : String} (hy : plainName y.cls = true) (hw : ws = Cond.code y cc maxL ret :: ws') (hAs : (lg_sl As).length ≤ maxL) (ho : y.cls = own)
    (body : ∀ (K : zC) (H : Heap), GX K cc own ws D base rm maxL → GR K ret base rm.cells rm.slots Post → (zs K).heap = H → (zme K).name = y.name → Pre H → G K 0 0 H 0 (lv_args 0 As) []) : Ct l y ws rm D base As Pre Post := by
  refine Met.ofW (cc := cc) (maxL := maxL) (ret := ret) hy hw ?_
  intro p e s m args below meth c s₁ B hml hv
  obtain ⟨rfl, hbase, hK, hP⟩ := hv
  have hx := B.exec
  have hb := B.bytes
  have hr := B.returns
  have hts := atoms_spec (ws := ws) B.pre
  have hown : s.vm.findClass own = some m.cls := by rw [← ho]; exact findClass_of_methodNamed B.named
  have hlocks := B.notSynchronized
  have hnm : meth.name = y.name := (name_of_methodNamed B.named B.method).1
  have hl := lv_entry As (n := maxL) hAs
  rw [lg_entry_eq]
  have := body (p, l, e, rm, s, m, As.toArray, below, meth, c, maxL, base, MQ below (CtQ base Post) As.toArray s rm.cells rm.slots (fun q => base ≤ q)) s.heap ⟨hx, hb, hml, hown, hts, hK, hbase, rfl, rfl, rfl, hlocks⟩ ⟨hr, rfl⟩ rfl hnm hP
  exact this [] _ va_S.rf hl
end
section
section
variable {K : zC} {n k : Nat} {H : Heap} {pc : Nat} {lv : List (Nat × Value)} {st : List Value} {cc : ByteArray} {own : String} {Ts : List Cond} {D : zD} {base : Nat} {rm : Room} {nL : Nat}
theorem G.widen {n' k' : Nat} (h1 : n ≤ n') (h2 : k ≤ k') (kk : G K n' k' H pc lv st) : G K n k H pc lv st := fun locs ls hS hl => W.widen h1 h2 (kk locs ls hS hl)
theorem G.pick {lv' : List (Nat × Value)} (ks : List Nat) (hl : lv_pick lv ks = lv') (kk : G K n k H pc lv' st) : G K n k H pc lv st := fun locs ls hS h => kk locs ls hS (lv_sub h ks hl)
theorem g_iload (X : GX K cc own Ts D base rm nL) {i pl : Nat} {x : Int32} (hd : decode cc pc = .ok (.iload i, 2)) (hl : lv[pl]? = some (i, .int x)) (kk : G K n k H (pc + 2) lv (.int x :: st)) : G K n k H pc lv (st) := fun locs ls hS h => lv_iload X.1 X.2.1 hd (lv_at h pl hl) (kk locs ls hS h)
theorem g_iload_n (X : GX K cc own Ts D base rm nL) {j : Fin 4} {pl : Nat} {x : Int32} (hd : decode cc pc = .ok (.iload_n j, 1)) (hl : lv[pl]? = some ((j : Nat), .int x)) (kk : G K n k H (pc + 1) lv (.int x :: st)) : G K n k H pc lv (st) := fun locs ls hS h => lv_iload_n X.1 X.2.1 hd rfl (lv_at h pl hl) (kk locs ls hS h)
theorem g_lload_n (X : GX K cc own Ts D base rm nL) {j : Fin 4} {pl : Nat} {x : Int64} (hd : decode cc pc = .ok (.lload_n j, 1)) (hl : lv[pl]? = some ((j : Nat), .long x)) (kk : G K n k H (pc + 1) lv (.long x :: st)) : G K n k H pc lv (st) := fun locs ls hS h => lv_lload_n X.1 X.2.1 hd rfl (lv_at h pl hl) (kk locs ls hS h)
theorem g_aload (X : GX K cc own Ts D base rm nL) {i pl : Nat} {x : Nat} (hd : decode cc pc = .ok (.aload i, 2)) (hl : lv[pl]? = some (i, .ref x)) (kk : G K n k H (pc + 2) lv (.ref x :: st)) : G K n k H pc lv (st) := fun locs ls hS h => lv_aload X.1 X.2.1 hd (lv_at h pl hl) (kk locs ls hS h)
theorem g_aload_n (X : GX K cc own Ts D base rm nL) {j : Fin 4} {pl : Nat} {x : Nat} (hd : decode cc pc = .ok (.aload_n j, 1)) (hl : lv[pl]? = some ((j : Nat), .ref x)) (kk : G K n k H (pc + 1) lv (.ref x :: st)) : G K n k H pc lv (st) := fun locs ls hS h => lv_aload_n X.1 X.2.1 hd rfl (lv_at h pl hl) (kk locs ls hS h)
theorem g_aloadN (X : GX K cc own Ts D base rm nL) {i pl : Nat} (hd : decode cc pc = .ok (.aload i, 2)) (hl : lv[pl]? = some (i, .null)) (kk : G K n k H (pc + 2) lv (.null :: st)) : G K n k H pc lv (st) := fun locs ls hS h => lv_aloadN X.1 X.2.1 hd (lv_at h pl hl) (kk locs ls hS h)
theorem g_aload_nN (X : GX K cc own Ts D base rm nL) {j : Fin 4} {pl : Nat} (hd : decode cc pc = .ok (.aload_n j, 1)) (hl : lv[pl]? = some ((j : Nat), .null)) (kk : G K n k H (pc + 1) lv (.null :: st)) : G K n k H pc lv (st) := fun locs ls hS h => lv_aload_nN X.1 X.2.1 hd rfl (lv_at h pl hl) (kk locs ls hS h)
theorem g_istore (X : GX K cc own Ts D base rm nL) {i : Nat} {x : Int32} {lv' : List (Nat × Value)} (hd : decode cc pc = .ok (.istore i, 2)) (hn : i < nL) (hl : (i, Value.int x) :: lv.filter (fun q => !(q.1 == i) && !(q.1 + 1 == i && q.2.category == 2)) = lv') (kk : G K n k H (pc + 2) lv' st) : G K n k H pc lv (Value.int x :: st) := fun locs ls hS h => lv_istore X.1 X.2.1 hd  h (by rw [X.2.2.2.2.2.2.2.2.2.1]; exact hn) hl (fun ls2 h2 => kk locs ls2 hS h2)
theorem g_istore_n (X : GX K cc own Ts D base rm nL) {j : Fin 4} {x : Int32} {lv' : List (Nat × Value)} (hd : decode cc pc = .ok (.istore_n j, 1)) (hn : (j : Nat) < nL) (hl : ((j : Nat), Value.int x) :: lv.filter (fun q => !(q.1 == (j : Nat)) && !(q.1 + 1 == (j : Nat) && q.2.category == 2)) = lv') (kk : G K n k H (pc + 1) lv' st) : G K n k H pc lv (Value.int x :: st) := fun locs ls hS h => lv_istore_n X.1 X.2.1 hd rfl h (by rw [X.2.2.2.2.2.2.2.2.2.1]; exact hn) hl (fun ls2 h2 => kk locs ls2 hS h2)
theorem g_astore (X : GX K cc own Ts D base rm nL) {i : Nat} {x : Nat} {lv' : List (Nat × Value)} (hd : decode cc pc = .ok (.astore i, 2)) (hn : i < nL) (hl : (i, Value.ref x) :: lv.filter (fun q => !(q.1 == i) && !(q.1 + 1 == i && q.2.category == 2)) = lv') (kk : G K n k H (pc + 2) lv' st) : G K n k H pc lv (Value.ref x :: st) := fun locs ls hS h => lv_astore X.1 X.2.1 hd  h (by rw [X.2.2.2.2.2.2.2.2.2.1]; exact hn) hl (fun ls2 h2 => kk locs ls2 hS h2)
theorem g_astore_n (X : GX K cc own Ts D base rm nL) {j : Fin 4} {x : Nat} {lv' : List (Nat × Value)} (hd : decode cc pc = .ok (.astore_n j, 1)) (hn : (j : Nat) < nL) (hl : ((j : Nat), Value.ref x) :: lv.filter (fun q => !(q.1 == (j : Nat)) && !(q.1 + 1 == (j : Nat) && q.2.category == 2)) = lv') (kk : G K n k H (pc + 1) lv' st) : G K n k H pc lv (Value.ref x :: st) := fun locs ls hS h => lv_astore_n X.1 X.2.1 hd rfl h (by rw [X.2.2.2.2.2.2.2.2.2.1]; exact hn) hl (fun ls2 h2 => kk locs ls2 hS h2)
theorem g_astoreN (X : GX K cc own Ts D base rm nL) {i : Nat} {lv' : List (Nat × Value)} (hd : decode cc pc = .ok (.astore i, 2)) (hn : i < nL) (hl : (i, Value.null) :: lv.filter (fun q => !(q.1 == i) && !(q.1 + 1 == i && q.2.category == 2)) = lv') (kk : G K n k H (pc + 2) lv' st) : G K n k H pc lv (Value.null :: st) := fun locs ls hS h => lv_astoreN X.1 X.2.1 hd  h (by rw [X.2.2.2.2.2.2.2.2.2.1]; exact hn) hl (fun ls2 h2 => kk locs ls2 hS h2)
theorem g_astore_nN (X : GX K cc own Ts D base rm nL) {j : Fin 4} {lv' : List (Nat × Value)} (hd : decode cc pc = .ok (.astore_n j, 1)) (hn : (j : Nat) < nL) (hl : ((j : Nat), Value.null) :: lv.filter (fun q => !(q.1 == (j : Nat)) && !(q.1 + 1 == (j : Nat) && q.2.category == 2)) = lv') (kk : G K n k H (pc + 1) lv' st) : G K n k H pc lv (Value.null :: st) := fun locs ls hS h => lv_astore_nN X.1 X.2.1 hd rfl h (by rw [X.2.2.2.2.2.2.2.2.2.1]; exact hn) hl (fun ls2 h2 => kk locs ls2 hS h2)
theorem g_lstore_n (X : GX K cc own Ts D base rm nL) {j : Fin 4} {x : Int64} {lv' : List (Nat × Value)} (hd : decode cc pc = .ok (.lstore_n j, 1)) (hn : (j : Nat) + 1 < nL) (hl : ((j : Nat), Value.long x) :: lv.filter (fun q => !(q.1 == (j : Nat)) && (!(q.1 == (j : Nat) + 1) && !(q.1 + 1 == (j : Nat) && q.2.category == 2))) = lv') (kk : G K n k H (pc + 1) lv' st) : G K n k H pc lv (Value.long x :: st) := fun locs ls hS h => lv_lstore_n X.1 X.2.1 hd rfl h (by rw [X.2.2.2.2.2.2.2.2.2.1]; exact hn) hl (fun ls2 h2 => kk locs ls2 hS h2)
theorem g_iinc (X : GX K cc own Ts D base rm nL) {i pl : Nat} {m x : Int} {lv' : List (Nat × Value)} (hd : decode cc pc = .ok (.iinc i m, 3)) (hk : lv[pl]? = some (i, .int (J x))) (hn : i < nL) (hl : (i, Value.int (J (x + m))) :: lv.filter (fun q => !(q.1 == i) && !(q.1 + 1 == i && q.2.category == 2)) = lv') (kk : G K n k H (pc + 3) lv' st) : G K n k H pc lv st := fun locs ls hS h => lv_iinc X.1 X.2.1 hd h hk (J_add x m) (by rw [X.2.2.2.2.2.2.2.2.2.1]; exact hn) hl (fun ls2 h2 => kk locs ls2 hS h2)
theorem g_iconst (X : GX K cc own Ts D base rm nL) {z : Int} (hd : decode cc pc = .ok (.iconst z, 1)) (kk : G K n k H (pc + 1) lv (.int (J z) :: st)) : G K n k H pc lv (st) := fun locs ls hS h => lv_iconst X.1 X.2.1 hd rfl (kk locs ls hS h)
theorem g_bipush (X : GX K cc own Ts D base rm nL) {z : Int} (hd : decode cc pc = .ok (.bipush z, 2)) (hv : (Int8.ofInt z).toInt32 = J z) (kk : G K n k H (pc + 2) lv (.int (J z) :: st)) : G K n k H pc lv (st) := fun locs ls hS h => lv_bipush X.1 X.2.1 hd hv (kk locs ls hS h)
theorem g_sipush (X : GX K cc own Ts D base rm nL) {z : Int} (hd : decode cc pc = .ok (.sipush z, 3)) (hv : (Int16.ofInt z).toInt32 = J z) (kk : G K n k H (pc + 3) lv (.int (J z) :: st)) : G K n k H pc lv (st) := fun locs ls hS h => lv_sipush X.1 X.2.1 hd hv (kk locs ls hS h)
theorem g_iadd (X : GX K cc own Ts D base rm nL) {a b : Int} (hd : decode cc pc = .ok (.iadd, 1)) (kk : G K n k H (pc + 1) lv (.int (J (a + b)) :: st)) : G K n k H pc lv (.int (J b) :: .int (J a) :: st) := fun locs ls hS h => lv_iadd X.1 X.2.1 hd (by rw [J_add]; exact (kk locs ls hS h))
theorem g_isub (X : GX K cc own Ts D base rm nL) {a b : Int} (hd : decode cc pc = .ok (.isub, 1)) (kk : G K n k H (pc + 1) lv (.int (J (a - b)) :: st)) : G K n k H pc lv (.int (J b) :: .int (J a) :: st) := fun locs ls hS h => lv_isub X.1 X.2.1 hd (by rw [J_sub]; exact (kk locs ls hS h))
theorem g_imul (X : GX K cc own Ts D base rm nL) {a b : Int} (hd : decode cc pc = .ok (.imul, 1)) (kk : G K n k H (pc + 1) lv (.int (J (a * b)) :: st)) : G K n k H pc lv (.int (J b) :: .int (J a) :: st) := fun locs ls hS h => lv_imul X.1 X.2.1 hd (by rw [J_mul]; exact (kk locs ls hS h))
theorem g_iand (X : GX K cc own Ts D base rm nL) {x y z : Int32} (hd : decode cc pc = .ok (.iand, 1)) (hz : x &&& y = z) (kk : G K n k H (pc + 1) lv (.int z :: st)) : G K n k H pc lv (.int y :: .int x :: st) := fun locs ls hS h => lv_iand X.1 X.2.1 hd (by rw [hz]; exact (kk locs ls hS h))
theorem g_ior (X : GX K cc own Ts D base rm nL) {x y z : Int32} (hd : decode cc pc = .ok (.ior, 1)) (hz : x ||| y = z) (kk : G K n k H (pc + 1) lv (.int z :: st)) : G K n k H pc lv (.int y :: .int x :: st) := fun locs ls hS h => lv_ior X.1 X.2.1 hd (by rw [hz]; exact (kk locs ls hS h))
theorem g_ixor (X : GX K cc own Ts D base rm nL) {x y z : Int32} (hd : decode cc pc = .ok (.ixor, 1)) (hz : x ^^^ y = z) (kk : G K n k H (pc + 1) lv (.int z :: st)) : G K n k H pc lv (.int y :: .int x :: st) := fun locs ls hS h => lv_ixor X.1 X.2.1 hd (by rw [hz]; exact (kk locs ls hS h))
theorem g_ishl (X : GX K cc own Ts D base rm nL) {x y z : Int32} (hd : decode cc pc = .ok (.ishl, 1)) (hz : x <<< (y &&& 31) = z) (kk : G K n k H (pc + 1) lv (.int z :: st)) : G K n k H pc lv (.int y :: .int x :: st) := fun locs ls hS h => lv_ishl X.1 X.2.1 hd (by rw [hz]; exact (kk locs ls hS h))
theorem g_ishr (X : GX K cc own Ts D base rm nL) {x y z : Int32} (hd : decode cc pc = .ok (.ishr, 1)) (hz : x >>> (y &&& 31) = z) (kk : G K n k H (pc + 1) lv (.int z :: st)) : G K n k H pc lv (.int y :: .int x :: st) := fun locs ls hS h => lv_ishr X.1 X.2.1 hd (by rw [hz]; exact (kk locs ls hS h))
theorem g_idiv (X : GX K cc own Ts D base rm nL) {x y z : Int32} (hd : decode cc pc = .ok (.idiv, 1)) (hne : ¬ y = 0) (hz : x / y = z) (kk : G K n k H (pc + 1) lv (.int z :: st)) : G K n k H pc lv (.int y :: .int x :: st) := fun locs ls hS h => lv_idiv X.1 X.2.1 hd hne (by rw [hz]; exact (kk locs ls hS h))
theorem g_dup (X : GX K cc own Ts D base rm nL) {v : Value} (hd : decode cc pc = .ok (.dup, 1)) (hv : v.category = 1) (kk : G K n k H (pc + 1) lv (v :: v :: st)) : G K n k H pc lv (v :: st) := fun locs ls hS h => lv_dup X.1 X.2.1 hd hv (kk locs ls hS h)
theorem g_dup2 (X : GX K cc own Ts D base rm nL) {v u : Value} (hd : decode cc pc = .ok (.dup2, 1)) (hv : v.category = 1) (hu : u.category = 1) (kk : G K n k H (pc + 1) lv (v :: u :: v :: u :: st)) : G K n k H pc lv (v :: u :: st) := fun locs ls hS h => lv_dup2_11 X.1 X.2.1 hd hv hu (kk locs ls hS h)
theorem g_pop (X : GX K cc own Ts D base rm nL) {v : Value} (hd : decode cc pc = .ok (.pop, 1)) (hv : v.category = 1) (kk : G K n k H (pc + 1) lv (st)) : G K n k H pc lv (v :: st) := fun locs ls hS h => lv_pop X.1 X.2.1 hd hv (kk locs ls hS h)
theorem g_null (X : GX K cc own Ts D base rm nL) (hd : decode cc pc = .ok (.aconst_null, 1)) (kk : G K n k H (pc + 1) lv (.null :: st)) : G K n k H pc lv (st) := fun locs ls hS h => lv_null X.1 X.2.1 hd (kk locs ls hS h)
theorem g_lushr (X : GX K cc own Ts D base rm nL) {x v : Int64} {y : Int32} (hd : decode cc pc = .ok (.lushr, 1)) (hv : (x.toUInt64 >>> (y.toInt64.toUInt64 &&& Int64.toUInt64 63)).toInt64 = v) (kk : G K n k H (pc + 1) lv (.long v :: st)) : G K n k H pc lv (.int y :: .long x :: st) := fun locs ls hS h => lv_lushr X.1 X.2.1 hd hv (kk locs ls hS h)
theorem g_lshr (X : GX K cc own Ts D base rm nL) {x v : Int64} {y : Int32} (hd : decode cc pc = .ok (.lshr, 1)) (hv : x >>> (y.toInt64 &&& 63) = v) (kk : G K n k H (pc + 1) lv (.long v :: st)) : G K n k H pc lv (.int y :: .long x :: st) := fun locs ls hS h => lv_lshr X.1 X.2.1 hd hv (kk locs ls hS h)
theorem g_lshl (X : GX K cc own Ts D base rm nL) {x v : Int64} {y : Int32} (hd : decode cc pc = .ok (.lshl, 1)) (hv : x <<< (y.toInt64 &&& 63) = v) (kk : G K n k H (pc + 1) lv (.long v :: st)) : G K n k H pc lv (.int y :: .long x :: st) := fun locs ls hS h => lv_lshl X.1 X.2.1 hd hv (kk locs ls hS h)
theorem g_land (X : GX K cc own Ts D base rm nL) {x y z : Int64} (hd : decode cc pc = .ok (.land, 1)) (hz : x &&& y = z) (kk : G K n k H (pc + 1) lv (.long z :: st)) : G K n k H pc lv (.long y :: .long x :: st) := fun locs ls hS h => lv_land X.1 X.2.1 hd (by rw [hz]; exact (kk locs ls hS h))
theorem g_lor (X : GX K cc own Ts D base rm nL) {x y z : Int64} (hd : decode cc pc = .ok (.lor, 1)) (hz : x ||| y = z) (kk : G K n k H (pc + 1) lv (.long z :: st)) : G K n k H pc lv (.long y :: .long x :: st) := fun locs ls hS h => lv_lor X.1 X.2.1 hd (by rw [hz]; exact (kk locs ls hS h))
theorem g_l2i (X : GX K cc own Ts D base rm nL) {x : Int64} {v : Int32} (hd : decode cc pc = .ok (.l2i, 1)) (hv : x.toInt32 = v) (kk : G K n k H (pc + 1) lv (.int v :: st)) : G K n k H pc lv (.long x :: st) := fun locs ls hS h => lv_l2i X.1 X.2.1 hd hv (kk locs ls hS h)
theorem g_i2l (X : GX K cc own Ts D base rm nL) {x : Int32} {v : Int64} (hd : decode cc pc = .ok (.i2l, 1)) (hv : x.toInt64 = v) (kk : G K n k H (pc + 1) lv (.long v :: st)) : G K n k H pc lv (.int x :: st) := fun locs ls hS h => lv_i2l X.1 X.2.1 hd hv (kk locs ls hS h)
theorem g_lconst (X : GX K cc own Ts D base rm nL) {j : Fin 2} {v : Int64} (hd : decode cc pc = .ok (.lconst j, 1)) (hv : Int64.ofNat (j : Nat) = v) (kk : G K n k H (pc + 1) lv (.long v :: st)) : G K n k H pc lv (st) := fun locs ls hS h => lv_lconst X.1 X.2.1 hd hv (kk locs ls hS h)
theorem g_ldc2 (X : GX K cc own Ts D base rm nL) {v : Int64} {index : Nat} (hc : Cond.constantLong own index v ∈ Ts) (hd : decode cc pc = .ok (.ldc2_w index, 3)) (kk : G K n k H (pc + 3) lv (.long v :: st)) : G K n k H pc lv (st) := fun locs ls hS h => lv_ldc2 X.1 X.2.1 X.2.2.2.1 (X.2.2.2.2.1 _ hc) hd (kk locs ls hS h)
theorem g_ldc (X : GX K cc own Ts D base rm nL) {v : Int32} {index : Nat} (hc : Cond.constant own index v ∈ Ts) (hd : decode cc pc = .ok (.ldc index, 2)) (kk : G K n k H (pc + 2) lv (.int v :: st)) : G K n k H pc lv (st) := fun locs ls hS h => lv_ldc X.1 X.2.1 X.2.2.2.1 (X.2.2.2.2.1 _ hc) hd (kk locs ls hS h)
theorem g_goto (X : GX K cc own Ts D base rm nL) {off : Int} (tgt : Nat) (hd : decode cc pc = .ok (.goto off, 3)) (ht : (pc : Int) + off = (tgt : Int)) (kk : G K n k H tgt lv st) : G K n k H pc lv st := fun locs ls hS h => lv_goto X.1 X.2.1 hd ht (kk locs ls hS h)
theorem g_icmp_eq (X : GX K cc own Ts D base rm nL) {a b : Int} {off : Int} (tgt : Nat) (hd : decode cc pc = .ok (.if_icmp .eq off, 3)) (ht : (pc : Int) + off = (tgt : Int)) (ha : rg a) (hb : rg b) (kt : a = b → G K n k H tgt lv st) (kf : ¬ a = b → G K n k H (pc + 3) lv st) : G K n k H pc lv (.int (J b) :: .int (J a) :: st) := fun locs ls hS h => lv_icmp_eq X.1 X.2.1 hd ht (fun q => kt ((J_inj ha hb).mp q) locs ls hS h) (fun q => kf (fun e => q ((J_inj ha hb).mpr e)) locs ls hS h)
theorem g_if_eq (X : GX K cc own Ts D base rm nL) {a : Int} {off : Int} (tgt : Nat) (hd : decode cc pc = .ok (.ifCond .eq off, 3)) (ht : (pc : Int) + off = (tgt : Int)) (ha : rg a) (kt : a = 0 → G K n k H tgt lv st) (kf : ¬ a = 0 → G K n k H (pc + 3) lv st) : G K n k H pc lv (.int (J a) :: st) := fun locs ls hS h => lv_if_eq X.1 X.2.1 hd ht (fun q => kt ((J_inj (b := 0) ha ⟨by decide, by decide⟩).mp q) locs ls hS h) (fun q => kf (fun e => q ((J_inj (b := 0) ha ⟨by decide, by decide⟩).mpr e)) locs ls hS h)
theorem g_icmp_ne (X : GX K cc own Ts D base rm nL) {a b : Int} {off : Int} (tgt : Nat) (hd : decode cc pc = .ok (.if_icmp .ne off, 3)) (ht : (pc : Int) + off = (tgt : Int)) (ha : rg a) (hb : rg b) (kt : ¬ a = b → G K n k H tgt lv st) (kf : a = b → G K n k H (pc + 3) lv st) : G K n k H pc lv (.int (J b) :: .int (J a) :: st) := fun locs ls hS h => lv_icmp_ne X.1 X.2.1 hd ht (fun q => kt (fun e => q ((J_inj ha hb).mpr e)) locs ls hS h) (fun q => kf ((J_inj ha hb).mp q) locs ls hS h)
theorem g_if_ne (X : GX K cc own Ts D base rm nL) {a : Int} {off : Int} (tgt : Nat) (hd : decode cc pc = .ok (.ifCond .ne off, 3)) (ht : (pc : Int) + off = (tgt : Int)) (ha : rg a) (kt : ¬ a = 0 → G K n k H tgt lv st) (kf : a = 0 → G K n k H (pc + 3) lv st) : G K n k H pc lv (.int (J a) :: st) := fun locs ls hS h => lv_if_ne X.1 X.2.1 hd ht (fun q => kt (fun e => q ((J_inj ha ⟨by decide, by decide⟩).mpr e)) locs ls hS h) (fun q => kf ((J_inj (b := 0) ha ⟨by decide, by decide⟩).mp q) locs ls hS h)
theorem g_icmp_lt (X : GX K cc own Ts D base rm nL) {a b : Int} {off : Int} (tgt : Nat) (hd : decode cc pc = .ok (.if_icmp .lt off, 3)) (ht : (pc : Int) + off = (tgt : Int)) (ha : rg a) (hb : rg b) (kt : a < b → G K n k H tgt lv st) (kf : ¬ a < b → G K n k H (pc + 3) lv st) : G K n k H pc lv (.int (J b) :: .int (J a) :: st) := fun locs ls hS h => lv_icmp_lt X.1 X.2.1 hd ht (fun q => kt ((J_lt ha hb).mp q) locs ls hS h) (fun q => kf (fun e => q ((J_lt ha hb).mpr e)) locs ls hS h)
theorem g_if_lt (X : GX K cc own Ts D base rm nL) {a : Int} {off : Int} (tgt : Nat) (hd : decode cc pc = .ok (.ifCond .lt off, 3)) (ht : (pc : Int) + off = (tgt : Int)) (ha : rg a) (kt : a < 0 → G K n k H tgt lv st) (kf : ¬ a < 0 → G K n k H (pc + 3) lv st) : G K n k H pc lv (.int (J a) :: st) := fun locs ls hS h => lv_if_lt X.1 X.2.1 hd ht (fun q => kt ((J_lt (b := 0) ha ⟨by decide, by decide⟩).mp q) locs ls hS h) (fun q => kf (fun e => q ((J_lt (b := 0) ha ⟨by decide, by decide⟩).mpr e)) locs ls hS h)
theorem g_icmp_ge (X : GX K cc own Ts D base rm nL) {a b : Int} {off : Int} (tgt : Nat) (hd : decode cc pc = .ok (.if_icmp .ge off, 3)) (ht : (pc : Int) + off = (tgt : Int)) (ha : rg a) (hb : rg b) (kt : b ≤ a → G K n k H tgt lv st) (kf : ¬ b ≤ a → G K n k H (pc + 3) lv st) : G K n k H pc lv (.int (J b) :: .int (J a) :: st) := fun locs ls hS h => lv_icmp_ge X.1 X.2.1 hd ht (fun q => kt ((J_le hb ha).mp q) locs ls hS h) (fun q => kf (fun e => q ((J_le hb ha).mpr e)) locs ls hS h)
theorem g_if_ge (X : GX K cc own Ts D base rm nL) {a : Int} {off : Int} (tgt : Nat) (hd : decode cc pc = .ok (.ifCond .ge off, 3)) (ht : (pc : Int) + off = (tgt : Int)) (ha : rg a) (kt : 0 ≤ a → G K n k H tgt lv st) (kf : ¬ 0 ≤ a → G K n k H (pc + 3) lv st) : G K n k H pc lv (.int (J a) :: st) := fun locs ls hS h => lv_if_ge X.1 X.2.1 hd ht (fun q => kt ((J_le (a := 0) ⟨by decide, by decide⟩ ha).mp q) locs ls hS h) (fun q => kf (fun e => q ((J_le (a := 0) ⟨by decide, by decide⟩ ha).mpr e)) locs ls hS h)
theorem g_icmp_gt (X : GX K cc own Ts D base rm nL) {a b : Int} {off : Int} (tgt : Nat) (hd : decode cc pc = .ok (.if_icmp .gt off, 3)) (ht : (pc : Int) + off = (tgt : Int)) (ha : rg a) (hb : rg b) (kt : b < a → G K n k H tgt lv st) (kf : ¬ b < a → G K n k H (pc + 3) lv st) : G K n k H pc lv (.int (J b) :: .int (J a) :: st) := fun locs ls hS h => lv_icmp_gt X.1 X.2.1 hd ht (fun q => kt ((J_lt hb ha).mp q) locs ls hS h) (fun q => kf (fun e => q ((J_lt hb ha).mpr e)) locs ls hS h)
theorem g_if_gt (X : GX K cc own Ts D base rm nL) {a : Int} {off : Int} (tgt : Nat) (hd : decode cc pc = .ok (.ifCond .gt off, 3)) (ht : (pc : Int) + off = (tgt : Int)) (ha : rg a) (kt : 0 < a → G K n k H tgt lv st) (kf : ¬ 0 < a → G K n k H (pc + 3) lv st) : G K n k H pc lv (.int (J a) :: st) := fun locs ls hS h => lv_if_gt X.1 X.2.1 hd ht (fun q => kt ((J_lt (a := 0) ⟨by decide, by decide⟩ ha).mp q) locs ls hS h) (fun q => kf (fun e => q ((J_lt (a := 0) ⟨by decide, by decide⟩ ha).mpr e)) locs ls hS h)
theorem g_icmp_le (X : GX K cc own Ts D base rm nL) {a b : Int} {off : Int} (tgt : Nat) (hd : decode cc pc = .ok (.if_icmp .le off, 3)) (ht : (pc : Int) + off = (tgt : Int)) (ha : rg a) (hb : rg b) (kt : a ≤ b → G K n k H tgt lv st) (kf : ¬ a ≤ b → G K n k H (pc + 3) lv st) : G K n k H pc lv (.int (J b) :: .int (J a) :: st) := fun locs ls hS h => lv_icmp_le X.1 X.2.1 hd ht (fun q => kt ((J_le ha hb).mp q) locs ls hS h) (fun q => kf (fun e => q ((J_le ha hb).mpr e)) locs ls hS h)
theorem g_if_le (X : GX K cc own Ts D base rm nL) {a : Int} {off : Int} (tgt : Nat) (hd : decode cc pc = .ok (.ifCond .le off, 3)) (ht : (pc : Int) + off = (tgt : Int)) (ha : rg a) (kt : a ≤ 0 → G K n k H tgt lv st) (kf : ¬ a ≤ 0 → G K n k H (pc + 3) lv st) : G K n k H pc lv (.int (J a) :: st) := fun locs ls hS h => lv_if_le X.1 X.2.1 hd ht (fun q => kt ((J_le (b := 0) ha ⟨by decide, by decide⟩).mp q) locs ls hS h) (fun q => kf (fun e => q ((J_le (b := 0) ha ⟨by decide, by decide⟩).mpr e)) locs ls hS h)
theorem g_ifnull (X : GX K cc own Ts D base rm nL) {off : Int} {x : Nat} (hd : decode cc pc = .ok (.ifnull off, 3)) (kk : G K n k H (pc + 3) lv st) : G K n k H pc lv (.ref x :: st) := fun locs ls hS h => lv_ifnull X.1 X.2.1 hd (kk locs ls hS h)
theorem g_ifnonnull (X : GX K cc own Ts D base rm nL) {off : Int} (tgt : Nat) {x : Nat} (hd : decode cc pc = .ok (.ifnonnull off, 3)) (ht : (pc : Int) + off = (tgt : Int)) (kk : G K n k H tgt lv st) : G K n k H pc lv (.ref x :: st) := fun locs ls hS h => lv_ifnonnull X.1 X.2.1 hd ht (kk locs ls hS h)
theorem g_ifnullN (X : GX K cc own Ts D base rm nL) {off : Int} (tgt : Nat) (hd : decode cc pc = .ok (.ifnull off, 3)) (ht : (pc : Int) + off = (tgt : Int)) (kk : G K n k H tgt lv st) : G K n k H pc lv (.null :: st) := fun locs ls hS h => lv_ifnullN X.1 X.2.1 hd ht (kk locs ls hS h)
theorem g_ifnonnullN (X : GX K cc own Ts D base rm nL) {off : Int} (hd : decode cc pc = .ok (.ifnonnull off, 3)) (kk : G K n k H (pc + 3) lv st) : G K n k H pc lv (.null :: st) := fun locs ls hS h => lv_ifnonnullN X.1 X.2.1 hd (kk locs ls hS h)
theorem g_tableIn (X : GX K cc own Ts D base rm nL) {dflt lo hi off : Int} {offs : Array Int} {len : Nat} {a : Int} (tgt : Nat) (hd : decode cc pc = .ok (.tableswitch dflt lo hi offs, len)) (ha : rg a) (h1 : ¬ a < lo) (h2 : ¬ hi < a) (ho : offs[(a - lo).toNat]? = some off) (ht : (pc : Int) + off = (tgt : Int)) (kk : G K n k H tgt lv st) : G K n k H pc lv (.int (J a) :: st) := fun locs ls hS h => lv_tableIn X.1 X.2.1 hd (by rw [J_toInt ha]; exact h1) (by rw [J_toInt ha]; exact h2) (by rw [J_toInt ha]; exact ho) ht (kk locs ls hS h)
theorem g_tableOut (X : GX K cc own Ts D base rm nL) {dflt lo hi : Int} {offs : Array Int} {len : Nat} {a : Int} (tgt : Nat) (hd : decode cc pc = .ok (.tableswitch dflt lo hi offs, len)) (ha : rg a) (h1 : a < lo ∨ hi < a) (ht : (pc : Int) + dflt = (tgt : Int)) (kk : G K n k H tgt lv st) : G K n k H pc lv (.int (J a) :: st) := fun locs ls hS h => lv_tableOut X.1 X.2.1 hd (by rw [J_toInt ha]; exact h1) ht (kk locs ls hS h)
theorem g_lookup (X : GX K cc own Ts D base rm nL) {dflt off : Int} {ps : Array (Int × Int)} {len : Nat} {a : Int} (tgt : Nat) (hd : decode cc pc = .ok (.lookupswitch dflt ps, len)) (ha : rg a) (hp : (ps.toList.zip (ps.toList.drop 1)).all (fun (a, next) => a.1 < next.1) = true) (ho : Op.lookupswitch.offset ps.toList dflt a = off) (ht : (pc : Int) + off = (tgt : Int)) (kk : G K n k H tgt lv st) : G K n k H pc lv (.int (J a) :: st) := fun locs ls hS h => lv_lookup X.1 X.2.1 hd hp (by rw [J_toInt ha]; exact ho) ht (kk locs ls hS h)
/-- what the tables say of a field that is read or written: its class ci, its place f, by the pool's index -/
def zF (own : String) (Ts : List Cond) (ci f index : Nat) : Prop := ∃ (C : String) (T : u_T) (N : Nat), vwCl[ci]? = some (C, T, N) ∧ (∀ w ∈ u_ws C T N, w ∈ Ts) ∧ f < N ∧ Cond.fieldLink own index (T f).1 (T f).2.1 (T f).2.2.1 ∈ Ts
/-- and of one that is written -/
def zW (own : String) (Ts : List Cond) (ci f index : Nat) (fin : Bool) (ty : FieldType) : Prop := ∃ (C : String) (T : u_T) (N : Nat) (tys : Nat → FieldType), vwCl[ci]? = some (C, T, N) ∧ (∀ w ∈ u_ws C T N, w ∈ Ts) ∧ f < N ∧ Cond.fieldLink own index (T f).1 (T f).2.1 (T f).2.2.1 ∈ Ts ∧ (∀ j, j < N → parseFieldDescriptor (T j).2.2.1 = some (tys j)) ∧ (∀ a, a < N → ∀ b, b < N → a ≠ b → (T a).2.1 ≠ (T b).2.1) ∧ (T f).2.2.2 = fin ∧ tys f = ty ∧ (T f).1 = C
theorem g_getf (X : GX K cc own Ts D base rm nL) {ci f index q : Nat} {fs : List Value} {v : Value} (hF : zF own Ts ci f index) (hO : Ob D q ci fs H) (hv : fs[f]? = some v) (hd : decode cc pc = .ok (.getfield index, 3)) (kk : G K n k H (pc + 3) lv (v :: st)) : G K n k H pc lv (.ref q :: st) := by
  intro locs ls hS h
  obtain ⟨C, T, N, h1, h2, h3, h4⟩ := hF
  have hP : va_P (D.1, D.2.1) vwCl [(q, .inr (ci, fs))] H := fun j x hx => by
    match j, hx with
    | 0, hx => cases hx; exact hO
    | j + 1, hx => simp at hx
  exact va_get X.1 X.2.1 X.2.2.2.2.1 h2 X.2.2.2.1 X.2.2.2.2.2.1.1 hP 0 rfl h1 f h3 (X.2.2.2.2.1 _ h4) (fun _ h9 => h9) hv hd (kk locs ls hS h)
theorem g_putf (X : GX K cc own Ts D base rm nL) {ci f index q : Nat} {fs : List Value} {v : Value} {ty : FieldType} (hF : zW own Ts ci f index false ty) (hO : Ob D q ci fs H) (hq : base ≤ q) (hl0 : Nat.ble (f + 1) fs.length = true) (hn : narrow ty v = v) (hfit : fits ty v = true) (hd : decode cc pc = .ok (.putfield index, 3)) (kk : ∀ H1 : Heap, Ob D q ci (fs.set f v) H1 → Fr (Iv q (q + 1)) 0 H H1 → G K n k H1 (pc + 3) lv st) : G K n k H pc lv (v :: .ref q :: st) := by
  intro locs ls hS h
  have hl : f < fs.length := Nat.le_of_ble_eq_true hl0
  obtain ⟨C, T, N, tys, h1, h2, h3, h4, h5, h6, h7, rfl, h8⟩ := hF
  have hK := X.2.2.2.2.2.1.1
  have hap := va_apart (own := own) X.2.2.2.2.1 h2 tys h5 h6 hK h1
  obtain ⟨r, e1, cell, q1, q2, q3, q4⟩ := hO
  have hr : r = (C, T, N) := Option.some.inj (e1.symm.trans h1)
  subst hr
  obtain ⟨hSl, hfc, kC, hkC, hkind⟩ := hK.1 ci _ h1
  obtain ⟨cf, kf, fi, fd, hi, hsl⟩ := hSl f h3
  have hlay := X.2.2.2.2.1 _ (h2 _ (u_in_lay h3))
  unfold u_lay at hlay
  rw [if_neg (by rw [h7]; decide)] at hlay
  have hst := (u_facts hfc hkC (u_lays X.2.2.2.2.1 h2 h3) hi).1
  have h6 := u_store hfc hkC hkind hlay hi (h5 f h3) hn hfit
  refine W.putK X.1 X.2.1 (f := fd) ⟨X.2.2.2.1, X.2.2.2.2.1 _ h4, ⟨_, _, _, hi⟩, hst⟩ (by rw [q2]; exact h6) q1 q3 (by rw [hsl]; exact k2_hasslot (q4 f h3)) rfl rfl hd fun H' e1 e2 e3 => ?_
  rw [hsl] at e1 ⊢
  exact kk H' ⟨_, h1, t_OB.to (V := updV (vp_V fs) f v) ⟨_, e1, q2, q3, t_set q4 hap h3 v⟩ (fun j _ => vp_updV_set hl v j)⟩ (Up1.fr ⟨e2, e3⟩) _ ls (hS.put e2 e3 (by show zba K ≤ q; rw [X.2.2.2.2.2.2.2.1]; exact hq)) h
theorem g_putF (X : GX K cc own Ts D base rm nL) {ci f index q : Nat} {fs : List Value} {v : Value} {ty : FieldType} (hF : zW own Ts ci f index true ty) (hin : (zme K).name = "<init>") (hown : (vwCl[ci]?).map (fun x => x.1) = some own) (hO : Ob D q ci fs H) (hq : base ≤ q) (hl0 : Nat.ble (f + 1) fs.length = true) (hn : narrow ty v = v) (hfit : fits ty v = true) (hd : decode cc pc = .ok (.putfield index, 3)) (kk : ∀ H1 : Heap, Ob D q ci (fs.set f v) H1 → Fr (Iv q (q + 1)) 0 H H1 → G K n k H1 (pc + 3) lv st) : G K n k H pc lv (v :: .ref q :: st) := by
  intro locs ls hS h
  have hl : f < fs.length := Nat.le_of_ble_eq_true hl0
  obtain ⟨C, T, N, tys, h1, h2, h3, h4, h5, h6, h7, rfl, h8⟩ := hF
  have hC : C = own := by rw [h1] at hown; exact Option.some.inj hown
  have hK := X.2.2.2.2.2.1.1
  have hap := va_apart (own := own) X.2.2.2.2.1 h2 tys h5 h6 hK h1
  obtain ⟨r, e1, cell, q1, q2, q3, q4⟩ := hO
  have hr : r = (C, T, N) := Option.some.inj (e1.symm.trans h1)
  subst hr
  obtain ⟨hSl, hfc, kC, hkC, hkind⟩ := hK.1 ci _ h1
  obtain ⟨cf, kf, fi, fd, hi, hsl⟩ := hSl f h3
  have hlay := X.2.2.2.2.1 _ (h2 _ (u_in_lay h3))
  unfold u_lay at hlay
  rw [if_pos h7] at hlay
  have hst := (u_facts hfc hkC (u_lays X.2.2.2.2.1 h2 h3) hi).1
  have hcf : (zm K).cls = cf := by
    obtain ⟨_, _, c', _, _, _, -, -, hf', -, -, -, hown2, -⟩ := Cond.laysFinal_spec hlay
    have e1 : c' = cf := by have := hi.symm.trans hf'; simp at this; exact this.1.symm
    rw [h8, hC] at hown2
    rw [← e1]; exact Option.some.inj (X.2.2.2.1.symm.trans hown2)
  have h6 := u_fits hfc hkC hkind (Or.inr hlay) hi (h5 f h3) hn hfit
  refine W.putFinK X.1 X.2.1 X.2.2.2.1 (X.2.2.2.2.1 _ h4) hi hst hcf hin (by rw [q2]; exact h6) q1 q3 (by rw [hsl]; exact k2_hasslot (q4 f h3)) rfl rfl hd fun H' e1 e2 e3 => ?_
  rw [hsl] at e1 ⊢
  exact kk H' ⟨_, h1, t_OB.to (V := updV (vp_V fs) f v) ⟨_, e1, q2, q3, t_set q4 hap h3 v⟩ (fun j _ => vp_updV_set hl v j)⟩ (Up1.fr ⟨e2, e3⟩) _ ls (hS.put e2 e3 (by show zba K ≤ q; rw [X.2.2.2.2.2.2.2.1]; exact hq)) h
theorem zsing {D : va_G} {a : Nat} {e : va_E} (hO : va_at D vwCl (a, e) H) : va_P D vwCl [(a, e)] H := fun j x hx => by
  match j, hx with
  | 0, hx => cases hx; exact hO
  | j + 1, hx => simp at hx
theorem g_iaload (X : GX K cc own Ts D base rm nL) {q N : Nat} {f : Int → Int} {z : Int} (hA : Ia D q N f H) (h0 : 0 ≤ z) (h1 : z < N) (hN : N < 2147483648) (hd : decode cc pc = .ok (.iaload, 1)) (kk : G K n k H (pc + 1) lv (.int (J (f z)) :: st)) : G K n k H pc lv (.int (J z) :: .ref q :: st) := by
  intro locs ls hS h
  refine va_iald X.1 X.2.1 X.2.2.2.2.2.1.1 (zsing hA) 0 0 rfl rfl (J_in h0 h1 hN) hd ?_
  rw [J_cl ⟨by omega, by omega⟩, Int.toNat_of_nonneg h0]
  exact (kk locs ls hS h)
theorem g_baload (X : GX K cc own Ts D base rm nL) {q N : Nat} {f : Int → Int} {z : Int} (hA : Ba D q N f H) (h0 : 0 ≤ z) (h1 : z < N) (hN : N < 2147483648) (hd : decode cc pc = .ok (.baload, 1)) (kk : G K n k H (pc + 1) lv (.int (J (f z)) :: st)) : G K n k H pc lv (.int (J z) :: .ref q :: st) := by
  intro locs ls hS h
  refine va_zald X.1 X.2.1 X.2.2.2.2.2.1.1 (zsing hA) 0 1 rfl rfl (J_in h0 h1 hN) hd ?_
  rw [J_cl ⟨by omega, by omega⟩, Int.toNat_of_nonneg h0]
  exact (kk locs ls hS h)
theorem g_alen (X : GX K cc own Ts D base rm nL) {q N : Nat} {f : Int → Int} (hA : Ia D q N f H) (hd : decode cc pc = .ok (.arraylength, 1)) (kk : G K n k H (pc + 1) lv (.int (J (N : Int)) :: st)) : G K n k H pc lv (.ref q :: st) := by
  intro locs ls hS h
  exact va_alen X.1 X.2.1 X.2.2.2.2.2.1.1 (zsing hA) 0 0 rfl rfl (J_nat N) hd (kk locs ls hS h)
theorem g_alenR (X : GX K cc own Ts D base rm nL) {q N t : Nat} {f : Int → Option Nat} (hA : Ra D q t N f H) (ht : t = 2 ∨ t = 3) (hd : decode cc pc = .ok (.arraylength, 1)) (kk : G K n k H (pc + 1) lv (.int (J (N : Int)) :: st)) : G K n k H pc lv (.ref q :: st) := by
  intro locs ls hS h
  rcases ht with rfl | rfl
  · exact va_alen X.1 X.2.1 X.2.2.2.2.2.1.1 (zsing hA) 0 2 rfl rfl (J_nat N) hd (kk locs ls hS h)
  · exact va_alen X.1 X.2.1 X.2.2.2.2.2.1.1 (zsing hA) 0 3 rfl rfl (J_nat N) hd (kk locs ls hS h)
theorem g_aaload (X : GX K cc own Ts D base rm nL) {q N t : Nat} {f : Int → Option Nat} {z : Int} {v : Value} (hA : Ra D q t N f H) (ht : t = 2 ∨ t = 3) (h0 : 0 ≤ z) (h1 : z < N) (hN : N < 2147483648) (hv : va_rf (f z) = v) (hd : decode cc pc = .ok (.aaload, 1)) (kk : G K n k H (pc + 1) lv (v :: st)) : G K n k H pc lv (.int (J z) :: .ref q :: st) := by
  intro locs ls hS h
  subst hv
  rcases ht with rfl | rfl
  · refine va_aldq X.1 X.2.1 X.2.2.2.2.2.1.1 (zsing hA) 0 2 rfl rfl (J_in h0 h1 hN) hd ?_
    rw [J_cl ⟨by omega, by omega⟩, Int.toNat_of_nonneg h0]
    exact (kk locs ls hS h)
  · refine va_aldq X.1 X.2.1 X.2.2.2.2.2.1.1 (zsing hA) 0 3 rfl rfl (J_in h0 h1 hN) hd ?_
    rw [J_cl ⟨by omega, by omega⟩, Int.toNat_of_nonneg h0]
    exact (kk locs ls hS h)
/-- a function changed at one place -/
def up {α : Type} (f : Int → α) (z : Int) (v : α) : Int → α := fun j => if j = z then v else f j
theorem g_iastore (X : GX K cc own Ts D base rm nL) {q N : Nat} {f : Int → Int} {z x : Int} (hA : Ia D q N f H) (hq : base ≤ q) (h0 : 0 ≤ z) (h1 : z < N) (hN : N < 2147483648) (hd : decode cc pc = .ok (.iastore, 1)) (kk : ∀ H1 : Heap, Ia D q N (up f z x) H1 → Fr (Iv q (q + 1)) 0 H H1 → G K n k H1 (pc + 1) lv st) : G K n k H pc lv (.int (J x) :: .int (J z) :: .ref q :: st) := by
  intro locs ls hS h
  have hin := J_in h0 h1 hN
  refine W.iast X.1 X.2.1 hA ((X.2.2.2.2.2.1.1.2 0 _ rfl).1 N (fun j => .int (J (f j)))) (fun q => by cases q) (by show ¬ (J z < 0 ∨ (arrV _ _ _).slots.size ≤ _); rw [arrV_size]; exact hin) rfl rfl hd fun H1 e z1 oq => ?_
  refine kk H1 ?_ (Up1.fr ⟨z1, oq⟩) _ ls (hS.put z1 oq (by show zba K ≤ q; rw [X.2.2.2.2.2.2.2.1]; exact hq)) h
  show H1[q]? = some (vp_cell _ _)
  rw [e, J_cl ⟨by omega, by omega⟩]
  dsimp only
  rw [vp_cell_i, vp_cell_i, arrV_store]
  congr 2
  funext j
  by_cases hj : j = z.toNat
  · subst hj
    have e2 : ((z.toNat : Nat) : Int) = z := Int.toNat_of_nonneg h0
    simp [updV, up, e2]
  · have e2 : ¬ ((j : Nat) : Int) = z := by omega
    simp [updV, up, hj, e2]
theorem g_bastore (X : GX K cc own Ts D base rm nL) {q N : Nat} {f : Int → Int} {z x : Int} (hA : Ba D q N f H) (hq : base ≤ q) (h0 : 0 ≤ z) (h1 : z < N) (hN : N < 2147483648) (hx : narrow .boolean (.int (J x)) = .int (J x)) (hd : decode cc pc = .ok (.bastore, 1)) (kk : ∀ H1 : Heap, Ba D q N (up f z x) H1 → Fr (Iv q (q + 1)) 0 H H1 → G K n k H1 (pc + 1) lv st) : G K n k H pc lv (.int (J x) :: .int (J z) :: .ref q :: st) := by
  intro locs ls hS h
  have hin := J_in h0 h1 hN
  refine W.zast X.1 X.2.1 hA ((X.2.2.2.2.2.1.1.2 1 _ rfl).1 N (fun j => .int (J (f j)))) (fun q => by cases q) (by show ¬ (J z < 0 ∨ (arrV _ _ _).slots.size ≤ _); rw [arrV_size]; exact hin) rfl rfl hd fun H1 e z1 oq => ?_
  refine kk H1 ?_ (Up1.fr ⟨z1, oq⟩) _ ls (hS.put z1 oq (by show zba K ≤ q; rw [X.2.2.2.2.2.2.2.1]; exact hq)) h
  show H1[q]? = some (vp_cell _ _)
  rw [e, J_cl ⟨by omega, by omega⟩]
  dsimp only
  rw [vp_cell_i, vp_cell_i, arrV_store]
  congr 2
  funext j
  by_cases hj : j = z.toNat
  · subst hj
    have e2 : ((z.toNat : Nat) : Int) = z := Int.toNat_of_nonneg h0
    simp [updV, up, e2, hx]
  · have e2 : ¬ ((j : Nat) : Int) = z := by omega
    simp [updV, up, hj, e2]
theorem g_aastore (X : GX K cc own Ts D base rm nL) {q N t ci v : Nat} {f : Int → Option Nat} {fs : List Value} {z : Int} (hA : Ra D q t N f H) (ht : (t = 2 ∧ ci = 2) ∨ (t = 3 ∧ ci = 4)) (hO : Ob D v ci fs H) (hq : base ≤ q) (h0 : 0 ≤ z) (h1 : z < N) (hN : N < 2147483648) (hd : decode cc pc = .ok (.aastore, 1)) (kk : ∀ H1 : Heap, Ra D q t N (up f z (some v)) H1 → Fr (Iv q (q + 1)) 0 H H1 → G K n k H1 (pc + 1) lv st) : G K n k H pc lv (.ref v :: .int (J z) :: .ref q :: st) := by
  intro locs ls hS h
  have hin := J_in h0 h1 hN
  have hK := X.2.2.2.2.2.1.1
  obtain ⟨t0, r, hr1, hr2⟩ : ∃ (t0 : Nat) (r : vw_C), vwCl[ci]? = some r ∧ (zTys D)[t0]? = some (D.2.2 t, .object r.1) := by
    rcases ht with ⟨rfl, rfl⟩ | ⟨rfl, rfl⟩
    · exact ⟨2, _, rfl, rfl⟩
    · exact ⟨3, _, rfl, rfl⟩
  obtain ⟨r', hr', cellV, g1, g2, g3, -⟩ := hO
  have hcls := (hK.1 ci r hr1).2
  obtain ⟨kA, comp, k1, k2, k3, -⟩ := (hK.2 t0 _ hr2).2
  have hcomp : comp = D.1 ci := Option.some.inj (k3.symm.trans hcls.1)
  subst hcomp
  obtain ⟨kC, hkC, -⟩ := id hcls.2
  have h0' : ¬ J z < 0 := fun q => hin (Or.inl q)
  have hlt : (J z).toNatClampNeg < N := Nat.not_le.mp fun q => hin (Or.inr q)
  refine W.aast X.1 X.2.1 hA (fun q h => by cases h) (fun h => by cases h) k1 k2 rfl hkC ⟨h0', by show _ < (arrV _ _ _).slots.size; rw [arrV_size]; exact hlt⟩ g1 (fun q h => by rw [g3] at h; cases h) (by rw [g2]; exact hkC) (by rw [g2]; exact va_assign hcls) rfl rfl hd fun H1 e z1 oq => ?_
  refine kk H1 ?_ (Up1.fr ⟨z1, oq⟩) _ ls (hS.put z1 oq (by show zba K ≤ q; rw [X.2.2.2.2.2.2.2.1]; exact hq)) h
  show H1[q]? = some (vp_cell _ _)
  rw [e, J_cl ⟨by omega, by omega⟩]
  dsimp only
  rw [vp_cell_q, vp_cell_q, arrV_store]
  congr 2
  funext j
  by_cases hj : j = z.toNat
  · subst hj
    have e2 : ((z.toNat : Nat) : Int) = z := Int.toNat_of_nonneg h0
    simp [updV, up, e2, va_rf]
  · have e2 : ¬ ((j : Nat) : Int) = z := by omega
    simp [updV, up, hj, e2]
theorem g_ireturn (X : GX K cc own Ts D base rm nL) {mc ms : Nat} {Post : Heap → Option Value → Heap → Prop} (R : GR K (some .int) base mc ms Post) {x : Int32} (hp : Post (zs K).heap (some (.int x)) H) (hd : decode cc pc = .ok (.ireturn, 1)) : G K mc ms H pc lv [.int x] := by
  intro locs ls hS h
  rw [R.2]
  exact W.iret X.1 X.2.1 R.1 (fun t ht _ => ⟨⟨_, rfl, by rw [ht]; exact hp⟩, by have := hS.F ht; rwa [X.2.2.2.2.2.2.2.1] at this⟩) (fun q hq => by have := hS.2.2 q hq; rwa [X.2.2.2.2.2.2.2.1] at this) hd X.2.2.2.2.2.2.2.2.2.2
theorem g_zreturn (X : GX K cc own Ts D base rm nL) {mc ms : Nat} {Post : Heap → Option Value → Heap → Prop} (R : GR K (some .boolean) base mc ms Post) {x : Int32} (hx : narrow .boolean (.int x) = .int x) (hp : Post (zs K).heap (some (.int x)) H) (hd : decode cc pc = .ok (.ireturn, 1)) : G K mc ms H pc lv [.int x] := by
  intro locs ls hS h
  rw [R.2]
  exact W.zret X.1 X.2.1 R.1 hx (fun t ht _ => ⟨⟨_, rfl, by rw [ht]; exact hp⟩, by have := hS.F ht; rwa [X.2.2.2.2.2.2.2.1] at this⟩) (fun q hq => by have := hS.2.2 q hq; rwa [X.2.2.2.2.2.2.2.1] at this) hd X.2.2.2.2.2.2.2.2.2.2
theorem g_vreturn (X : GX K cc own Ts D base rm nL) {mc ms : Nat} {Post : Heap → Option Value → Heap → Prop} (R : GR K none base mc ms Post) (hp : Post (zs K).heap none H) (hd : decode cc pc = .ok (.return_, 1)) : G K mc ms H pc lv [] := by
  intro locs ls hS h
  rw [R.2]
  exact W.vret X.1 X.2.1 R.1 (fun t ht _ => ⟨⟨_, rfl, by rw [ht]; exact hp⟩, by have := hS.F ht; rwa [X.2.2.2.2.2.2.2.1] at this⟩) (fun q hq => by have := hS.2.2 q hq; rwa [X.2.2.2.2.2.2.2.1] at this) hd X.2.2.2.2.2.2.2.2.2.2
theorem g_areturn (X : GX K cc own Ts D base rm nL) {mc ms : Nat} {Post : Heap → Option Value → Heap → Prop} {C : String} (R : GR K (some (.object C)) base mc ms Post) {v : Value} (hv : v = .null ∨ ∃ a, v = .ref a) (hp : Post (zs K).heap (some v) H) (hd : decode cc pc = .ok (.areturn, 1)) : G K mc ms H pc lv [v] := by
  intro locs ls hS h
  rw [R.2]
  exact W.aret X.1 X.2.1 R.1 (Or.inl ⟨_, rfl⟩) hv (fun t ht _ => ⟨⟨_, rfl, by rw [ht]; exact hp⟩, by have := hS.F ht; rwa [X.2.2.2.2.2.2.2.1] at this⟩) (fun q hq => by have := hS.2.2 q hq; rwa [X.2.2.2.2.2.2.2.1] at this) hd X.2.2.2.2.2.2.2.2.2.2
end
end
section
section
variable {K : zC} {n k : Nat} {H : Heap} {pc : Nat} {lv : List (Nat × Value)} {st : List Value} {cc : ByteArray} {own : String} {Ts : List Cond} {D : zD} {base : Nat} {rm : Room} {nL : Nat}
theorem zblind {As : List Value} {Pre : Heap → Prop} : FrameBlind (va_Pc As (fun U => base ≤ U.heap.size ∧ zKn D U ∧ Pre U.heap)) := fun _ U _ _ q => ⟨q.1, q.2.1, zKn.moved (u := U) (Vm.Alike.refl U.vm) q.2.2.1, q.2.2.2⟩
theorem GX.fix (X : GX K cc own Ts D base rm nL) : CallFix (zp K) (zm K) (zc K) cc (znL K) (zs K) (zar K) Ts own := ⟨X.1, X.2.1, by rw [X.2.2.2.2.2.2.2.2.2.1]; exact X.2.2.1, X.2.2.2.1, X.2.2.2.2.1⟩
theorem GX.pre (X : GX K cc own Ts D base rm nL) {As : List Value} {Pre : Heap → Prop} (hb : base ≤ H.size) (hP : Pre H) : ∀ U : State, U.heap = H → (zs K).WarmedH U.vm → va_Pc As (fun U => base ≤ U.heap.size ∧ zKn D U ∧ Pre U.heap) As.toArray U :=
  fun U hU hW => ⟨rfl, by rw [hU]; exact hb, X.2.2.2.2.2.1.moved hW.alike, by rw [hU]; exact hP⟩
theorem GX.recv (X : GX K cc own Ts D base rm nL) {ci q : Nat} {fs : List Value} {r : vw_C} (hc : vwCl[ci]? = some r) (hO : Ob D q ci fs H) : ∃ cell : Cell, H[q]? = some cell ∧ cell.vm.isStatics = false ∧ (zs K).vm.findClass r.1 = some cell.cls :=
  va_recv X.2.2.2.2.2.1.1 (zsing hO) hc (q0 := 0) rfl
theorem znest {own : String} {index : Nat} {y : MethodName} {host : String} {a : Array Value} {U : State} (h : (Cond.methodLinkNest own index y host).before a U = true) : va_Nw (.methodLinkNest own index y host) U := h
theorem zback {mc ms : Nat} {Post : Heap → Option Value → Heap → Prop} {a : Array Value} {st0 rest : List Value} (X : GX K cc own Ts D base rm nL) {locs : List Loc} {ls : Array Slot} (hS : va_S (fun q => zba K ≤ q) (zs K).heap H locs) (hl : lv_has ls (znL K) lv)
    (hr : va_Run (zp K) (zl K) (ze K) (zR K) (zs K) (zm K) (zar K) (zbe K) (zme K) (zc K) H locs n k mc ms (F0 (zm K) pc ls st0) rest (CtQ base Post a) (fun q => base ≤ q))
    (kk : ∀ (v : Option Value) (H1 : Heap), Post H v H1 → H.size ≤ H1.size → G K (n + mc) (k + ms) H1 (pc + 3) lv (v.toList ++ rest)) :
    W (zp K) (zl K) (ze K) (zR K) (zs K) (zm K) (zar K) (zbe K) (zme K) (zc K) H locs n k (zQ K) (F0 (zm K) pc ls st0) := by
  intro T hT XX
  obtain ⟨v, st₀, t, T', L, h0, X', hL, e1, e2, ⟨⟨r, hv, hp⟩, hz, hk⟩, stp⟩ := hr T hT XX
  cases hv
  rw [h0] at hz hk hp
  have hS2 : va_S (fun q => zba K ≤ q) (zs K).heap T'.heap (locs ++ L) := ⟨Nat.le_trans hS.1 (by rw [e1]; exact hz), fun q h1 h2 => by
      rw [e1, hk q (Nat.lt_of_lt_of_le h1 hS.1) (fun z => h2 (by show zba K ≤ q; rw [X.2.2.2.2.2.2.2.1]; exact z))]; exact hS.2.1 q h1 h2, fun q hq => by
      rcases List.mem_append.mp hq with h | h
      · exact hS.2.2 q h
      · show zba K ≤ q.base; rw [X.2.2.2.2.2.2.2.1]; exact hL q h⟩
  obtain ⟨t2, a1, b1⟩ := kk v T'.heap (by rw [e1]; exact hp) (by rw [e1]; exact hz) (locs ++ L) ls hS2 hl T' rfl X'
  exact ⟨t2, stp t2 a1, b1⟩
theorem g_callV (X : GX K cc own Ts D base rm nL) {y : MethodName} {ws ws' : List Cond} {rmc : Room} {As : List Value} {Pre : Heap → Prop} {Post : Heap → Option Value → Heap → Prop} {bytes : ByteArray} {maxL index : Nat} {ret : Option FieldType} {rest : List Value} {C : String} {ci q : Nat} {fs : List Value} {r : vw_C} (hM : Ct (zl K) y ws rmc D base (.ref q :: As) Pre Post) (hG : GoodIn Ts (wsV own index C y ws)) (hw : ws = Cond.code y bytes maxL ret :: ws') (na : Nat) (hd : y.cls = C ∧ y.cls ≠ "java/lang/invoke/MethodHandle" ∧ y.cls ≠ "java/lang/invoke/VarHandle" ∧ (parseMethodDescriptor y.desc).map (fun d => d.parameters.length) = some na) (hn : As.length = na)
    (hR : rmc.frames + 1 ≤ rm.frames ∧ 8 + (maxL + 11) + rmc.locals ≤ rm.locals) (hf : n + rmc.cells ≤ rm.cells ∧ k + rmc.slots ≤ rm.slots) (hc : vwCl[ci]? = some r) (hC : r.1 = C) (hO : Ob D q ci fs H) (hbs : base ≤ H.size) (hP : Pre H) (hdg : decode cc pc = .ok (.invokevirtual index, 3)) (hst : st = As.reverse ++ .ref q :: rest) (hW : (rest.map fun v => v.category).sum ≤ 8)
    (kk : ∀ (v : Option Value) (H1 : Heap), Post H v H1 → H.size ≤ H1.size → G K (n + rmc.cells) (k + rmc.slots) H1 (pc + 3) lv (v.toList ++ rest)) : G K n k H pc lv st := by
  intro locs ls hS h
  have hRR : zR K = rm := X.2.2.2.2.2.2.2.2.1
  exact zback (a := (Value.ref q :: As).toArray) X hS h (va_runV X.fix hM (cwV na X.2.2.2.2.1 hG hw rfl rfl hd (by rw [hRR]; exact hR)) ⟨zblind, by rw [← hC]; exact X.recv hc hO, X.pre hbs hP⟩ rfl hn h.1 hst (lv_room hW) hdg (by rw [hRR]; exact hf)) kk
theorem g_callS (X : GX K cc own Ts D base rm nL) {y : MethodName} {ws ws' : List Cond} {rmc : Room} {As : List Value} {Pre : Heap → Prop} {Post : Heap → Option Value → Heap → Prop} {bytes : ByteArray} {maxL index : Nat} {ret : Option FieldType} {rest : List Value} (hM : Ct (zl K) y ws rmc D base As Pre Post) (hG : GoodIn Ts (wsS own index y ws)) (hw : ws = Cond.code y bytes maxL ret :: ws') (na : Nat) (hd : y.cls = own ∧ y.cls ≠ "java/lang/invoke/MethodHandle" ∧ y.cls ≠ "java/lang/invoke/VarHandle" ∧ (parseMethodDescriptor y.desc).map (fun d => d.parameters.length) = some na) (hn : As.length = na)
    (hR : rmc.frames + 1 ≤ rm.frames ∧ 8 + (maxL + 11) + rmc.locals ≤ rm.locals) (hf : n + rmc.cells ≤ rm.cells ∧ k + rmc.slots ≤ rm.slots) (hbs : base ≤ H.size) (hP : Pre H) (hdg : decode cc pc = .ok (.invokestatic index, 3)) (hst : st = As.reverse ++ rest) (hW : (rest.map fun v => v.category).sum ≤ 8)
    (kk : ∀ (v : Option Value) (H1 : Heap), Post H v H1 → H.size ≤ H1.size → G K (n + rmc.cells) (k + rmc.slots) H1 (pc + 3) lv (v.toList ++ rest)) : G K n k H pc lv st := by
  intro locs ls hS h
  have hRR : zR K = rm := X.2.2.2.2.2.2.2.2.1
  exact zback (a := As.toArray) X hS h (va_runS X.fix hM (cwS na X.2.2.2.2.1 hG hw rfl rfl hd (by rw [hRR]; exact hR)) ⟨zblind, X.pre hbs hP⟩ rfl hn h.1 hst (lv_room hW) hdg (by rw [hRR]; exact hf)) kk
theorem g_callJ (X : GX K cc own Ts D base rm nL) {y : MethodName} {ws ws' : List Cond} {rmc : Room} {As : List Value} {Pre : Heap → Prop} {Post : Heap → Option Value → Heap → Prop} {bytes : ByteArray} {maxL index : Nat} {ret : Option FieldType} {rest : List Value} (hM : Ct (zl K) y ws rmc D base As Pre Post) (hG : GoodIn Ts (va_wsS own index y ws)) (hw : ws = Cond.code y bytes maxL ret :: ws') (na : Nat) (hd : y.cls ≠ "java/lang/invoke/MethodHandle" ∧ y.cls ≠ "java/lang/invoke/VarHandle" ∧ (parseMethodDescriptor y.desc).map (fun d => d.parameters.length) = some na) (hn : As.length = na)
    (hR : rmc.frames + 1 ≤ rm.frames ∧ 8 + (maxL + 11) + rmc.locals ≤ rm.locals) (hf : n + rmc.cells ≤ rm.cells ∧ k + rmc.slots ≤ rm.slots) (hbs : base ≤ H.size) (hP : Pre H) (hdg : decode cc pc = .ok (.invokestatic index, 3)) (hst : st = As.reverse ++ rest) (hW : (rest.map fun v => v.category).sum ≤ 8)
    (kk : ∀ (v : Option Value) (H1 : Heap), Post H v H1 → H.size ≤ H1.size → G K (n + rmc.cells) (k + rmc.slots) H1 (pc + 3) lv (v.toList ++ rest)) : G K n k H pc lv st := by
  intro locs ls hS h
  have hRR : zR K = rm := X.2.2.2.2.2.2.2.2.1
  have ok : ∀ w ∈ va_wsS own index y ws, w.before (zar K) (zs K) = true := fun w h => X.2.2.2.2.1 w (hG w h).1
  exact zback (a := As.toArray) X hS h (va_runS X.fix hM ⟨callB_of na X.2.2.2.2.1 (fun w h => hG w (by unfold va_wsS; exact List.mem_append_right _ h)) hw rfl rfl (ok _ (by simp [va_wsS])) (ok _ (by simp [va_wsS])) hd (by rw [hRR]; exact hR), ok _ (by simp [va_wsS])⟩ ⟨zblind, X.pre hbs hP⟩ rfl hn h.1 hst (lv_room hW) hdg (by rw [hRR]; exact hf)) kk
/-- a nest mate's private static -/
theorem g_callSN (X : GX K cc own Ts D base rm nL) {y : MethodName} {ws ws' : List Cond} {rmc : Room} {As : List Value} {Pre : Heap → Prop} {Post : Heap → Option Value → Heap → Prop} {bytes : ByteArray} {maxL index : Nat} {ret : Option FieldType} {rest : List Value} {host : String} (hM : Ct (zl K) y ws rmc D base As Pre Post) (hG : GoodIn Ts ws) (hlk : Cond.methodLinkNest own index y host ∈ Ts) (hini : Cond.initialized y.cls ∈ Ts) (hstat : Cond.static y ∈ Ts) (hw : ws = Cond.code y bytes maxL ret :: ws') (na : Nat) (hd : y.cls ≠ "java/lang/invoke/MethodHandle" ∧ y.cls ≠ "java/lang/invoke/VarHandle" ∧ (parseMethodDescriptor y.desc).map (fun d => d.parameters.length) = some na) (hn : As.length = na)
    (hR : rmc.frames + 1 ≤ rm.frames ∧ 8 + (maxL + 11) + rmc.locals ≤ rm.locals) (hf : n + rmc.cells ≤ rm.cells ∧ k + rmc.slots ≤ rm.slots) (hbs : base ≤ H.size) (hP : Pre H) (hdg : decode cc pc = .ok (.invokestatic index, 3)) (hst : st = As.reverse ++ rest) (hW : (rest.map fun v => v.category).sum ≤ 8)
    (kk : ∀ (v : Option Value) (H1 : Heap), Post H v H1 → H.size ≤ H1.size → G K (n + rmc.cells) (k + rmc.slots) H1 (pc + 3) lv (v.toList ++ rest)) : G K n k H pc lv st := by
  intro locs ls hS h
  have hRR : zR K = rm := X.2.2.2.2.2.2.2.2.1
  exact zback (a := As.toArray) X hS h (va_runSN X.fix hM ⟨va_cnB na X.2.2.2.2.1 hG hw rfl rfl (znest (X.2.2.2.2.1 _ hlk)) (X.2.2.2.2.1 _ hini) hd (by rw [hRR]; exact hR), X.2.2.2.2.1 _ hstat, trivial⟩ ⟨zblind, X.pre hbs hP⟩ rfl hn h.1 hst (lv_room hW) hdg (by rw [hRR]; exact hf)) kk
theorem g_callI (X : GX K cc own Ts D base rm nL) {y : MethodName} {ws ws' : List Cond} {rmc : Room} {As : List Value} {Pre : Heap → Prop} {Post : Heap → Option Value → Heap → Prop} {bytes : ByteArray} {maxL index : Nat} {ret : Option FieldType} {rest : List Value} {q : Nat} (hM : Ct (zl K) y ws rmc D base (.ref q :: As) Pre Post) (hG : GoodIn Ts ws) (hlk : Cond.methodLink own index y ∈ Ts) (hini : Cond.initialized y.cls ∈ Ts) (hinst : Cond.instanceMethod y ∈ Ts) (hy : y.name = "<init>") (hw : ws = Cond.code y bytes maxL none :: ws') (na : Nat) (hd : y.cls ≠ "java/lang/invoke/MethodHandle" ∧ y.cls ≠ "java/lang/invoke/VarHandle" ∧ (parseMethodDescriptor y.desc).map (fun d => d.parameters.length) = some na) (hn : As.length = na)
    (hR : rmc.frames + 1 ≤ rm.frames ∧ 8 + (maxL + 11) + rmc.locals ≤ rm.locals) (hf : n + rmc.cells ≤ rm.cells ∧ k + rmc.slots ≤ rm.slots) (hbs : base ≤ H.size) (hP : Pre H) (hdg : decode cc pc = .ok (.invokespecial index, 3)) (hst : st = As.reverse ++ .ref q :: rest) (hW : (rest.map fun v => v.category).sum ≤ 8)
    (kk : ∀ (v : Option Value) (H1 : Heap), Post H v H1 → H.size ≤ H1.size → G K (n + rmc.cells) (k + rmc.slots) H1 (pc + 3) lv (v.toList ++ rest)) : G K n k H pc lv st := by
  intro locs ls hS h
  have hRR : zR K = rm := X.2.2.2.2.2.2.2.2.1
  exact zback (a := (Value.ref q :: As).toArray) X hS h (va_runI X.fix hM ⟨callB_of na X.2.2.2.2.1 hG hw rfl rfl (X.2.2.2.2.1 _ hini) (X.2.2.2.2.1 _ hlk) hd (by rw [hRR]; exact hR), hy, X.2.2.2.2.1 _ hinst⟩ ⟨zblind, X.pre hbs hP⟩ rfl hn h.1 hst (lv_room hW) hdg (by rw [hRR]; exact hf)) kk
theorem g_callIN (X : GX K cc own Ts D base rm nL) {y : MethodName} {ws ws' : List Cond} {rmc : Room} {As : List Value} {Pre : Heap → Prop} {Post : Heap → Option Value → Heap → Prop} {bytes : ByteArray} {maxL index : Nat} {ret : Option FieldType} {rest : List Value} {q : Nat} {host : String} (hM : Ct (zl K) y ws rmc D base (.ref q :: As) Pre Post) (hG : GoodIn Ts ws) (hlk : Cond.methodLinkNest own index y host ∈ Ts) (hini : Cond.initialized y.cls ∈ Ts) (hinst : Cond.instanceMethod y ∈ Ts) (hy : y.name = "<init>") (hw : ws = Cond.code y bytes maxL none :: ws') (na : Nat) (hd : y.cls ≠ "java/lang/invoke/MethodHandle" ∧ y.cls ≠ "java/lang/invoke/VarHandle" ∧ (parseMethodDescriptor y.desc).map (fun d => d.parameters.length) = some na) (hn : As.length = na)
    (hR : rmc.frames + 1 ≤ rm.frames ∧ 8 + (maxL + 11) + rmc.locals ≤ rm.locals) (hf : n + rmc.cells ≤ rm.cells ∧ k + rmc.slots ≤ rm.slots) (hbs : base ≤ H.size) (hP : Pre H) (hdg : decode cc pc = .ok (.invokespecial index, 3)) (hst : st = As.reverse ++ .ref q :: rest) (hW : (rest.map fun v => v.category).sum ≤ 8)
    (kk : ∀ (v : Option Value) (H1 : Heap), Post H v H1 → H.size ≤ H1.size → G K (n + rmc.cells) (k + rmc.slots) H1 (pc + 3) lv (v.toList ++ rest)) : G K n k H pc lv st := by
  intro locs ls hS h
  have hRR : zR K = rm := X.2.2.2.2.2.2.2.2.1
  exact zback (a := (Value.ref q :: As).toArray) X hS h (va_runIN X.fix hM ⟨va_cnB na X.2.2.2.2.1 hG hw rfl rfl (znest (X.2.2.2.2.1 _ hlk)) (X.2.2.2.2.1 _ hini) hd (by rw [hRR]; exact hR), hy, X.2.2.2.2.1 _ hinst⟩ ⟨zblind, X.pre hbs hP⟩ rfl hn h.1 hst (lv_room hW) hdg (by rw [hRR]; exact hf)) kk
theorem g_objInit (X : GX K cc own Ts D base rm nL) {index q : Nat} {rest : List Value} (hlk : Cond.methodLink own index objectInit ∈ Ts) (hinst : Cond.instanceMethod objectInit ∈ Ts) (hcode : Cond.code objectInit ⟨#[0xb1]⟩ 1 none ∈ Ts) (hfr : 1 ≤ rm.frames) (hlo : (rest.map fun v => v.category).sum + 12 ≤ rm.locals) (hd : decode cc pc = .ok (.invokespecial index, 3)) (kk : G K n k H (pc + 3) lv rest) : G K n k H pc lv (.ref q :: rest) := by
  intro locs ls hS h
  have hRR : zR K = rm := X.2.2.2.2.2.2.2.2.1
  exact W.objInit X.1 X.2.1 X.2.2.2.1 (X.2.2.2.2.1 _ hlk) (X.2.2.2.2.1 _ hinst) (X.2.2.2.2.1 _ hcode) rfl (h.1.trans (by rw [X.2.2.1]; exact X.2.2.2.2.2.2.2.2.2.1)) rfl hd (by rw [hRR]; exact hfr) (by rw [hRR]; show 2 * 0 + _ + 12 ≤ _; omega) (kk locs ls hS h)
theorem g_new (X : GX K cc own Ts D base rm nL) {ci index N : Nat} {C : String} {T : u_T} {tys : Nat → FieldType} {fs : List Value} (hc : vwCl[ci]? = some (C, T, N)) (hin : ∀ w ∈ u_ws C T N, w ∈ Ts) (hty : ∀ j, j < N → parseFieldDescriptor (T j).2.2.1 = some (tys j)) (hfs : ∀ j, j < N → defaultValue (tys j) = vp_V fs j) (hcl : Cond.classLink own index C ∈ Ts) (hinst : Cond.instantiable C N ∈ Ts) (hini : Cond.initialized C ∈ Ts) (hcells : n + 1 ≤ rm.cells) (hslots : k + N ≤ rm.slots) (hd : decode cc pc = .ok (.new index, 3))
    {n2 k2 : Nat} (hn2 : n + 1 = n2) (hk2 : k + N = k2) (kk : ∀ H1 : Heap, H1.size = H.size + 1 → Ob D H.size ci fs H1 → (∀ q : Nat, q < H.size → H1[q]? = H[q]?) → G K n2 k2 H1 (pc + 3) lv (.ref H.size :: st)) : G K n k H pc lv st := by
  subst hn2
  subst hk2
  intro locs ls hS h
  have hRR : zR K = rm := X.2.2.2.2.2.2.2.2.1
  have hKn := X.2.2.2.2.2.1.1.1 ci _ hc
  refine W.newcK X.1 X.2.1 X.2.2.2.1 (X.2.2.2.2.1 _ hcl) (X.2.2.2.2.1 _ hinst) (X.2.2.2.2.1 _ hini) rfl hd (by rw [hRR]; exact hcells) (by rw [hRR]; exact hslots) hKn.2.1 rfl fun H1 kC hkC e1 z1 o1 => ?_
  exact kk H1 z1 ⟨_, hc, (u_born tys X.2.2.2.2.1 hin hKn hkC e1 hty).to hfs⟩ o1 locs ls ⟨Nat.le_trans hS.1 (by omega), fun x h1 h2 => (o1 x (Nat.lt_of_lt_of_le h1 hS.1)).trans (hS.2.1 x h1 h2), hS.2.2⟩ h
theorem g_newarr (X : GX K cc own Ts D base rm nL) {z : Int} {N : Nat} (harr : Cond.arrayClass .int ∈ Ts) (hz : z = (N : Int)) (hN : N < 100000) (hcells : n + 1 ≤ rm.cells) (hslots : k + N ≤ rm.slots) (hd : decode cc pc = .ok (.newarray .int, 2))
    {n2 k2 : Nat} (hn2 : n + 1 = n2) (hk2 : k + N = k2) (kk : ∀ H1 : Heap, H1.size = H.size + 1 → Ia D H.size N (fun _ => 0) H1 → (∀ q : Nat, q < H.size → H1[q]? = H[q]?) → G K n2 k2 H1 (pc + 2) lv (.ref H.size :: st)) : G K n k H pc lv (.int (J z) :: st) := by
  subst hn2
  subst hk2
  intro locs ls hS h
  have hRR : zR K = rm := X.2.2.2.2.2.2.2.2.1
  have hr : rg z := ⟨by omega, by omega⟩
  refine va_newaK (atype := .int) X.1 X.2.1 (X.2.2.2.2.1 _ harr) rfl hd rfl (by rw [J_0, J_lt hr ⟨by decide, by decide⟩]; omega) (N := N) (by rw [J_cl hr]; omega) (by show N * 4 ≤ _; omega) (by rw [hRR]; exact hcells) (by rw [hRR]; exact hslots) rfl fun H1 cA e1 z1 o1 hA hcA => ?_
  have hK2 := (X.2.2.2.2.2.1.1.2 0 _ rfl).2
  have hid : cA = D.2.2 0 := Option.some.inj (hcA.symm.trans hK2)
  subst hid
  exact kk H1 z1 e1 o1 locs ls ⟨Nat.le_trans hS.1 (by omega), fun x h1 h2 => (o1 x (Nat.lt_of_lt_of_le h1 hS.1)).trans (hS.2.1 x h1 h2), hS.2.2⟩ h
theorem g_newarrZ (X : GX K cc own Ts D base rm nL) {z : Int} {N : Nat} (harr : Cond.arrayClass .boolean ∈ Ts) (hz : z = (N : Int)) (hN : N < 100000) (hcells : n + 1 ≤ rm.cells) (hslots : k + N ≤ rm.slots) (hd : decode cc pc = .ok (.newarray .boolean, 2))
    {n2 k2 : Nat} (hn2 : n + 1 = n2) (hk2 : k + N = k2) (kk : ∀ H1 : Heap, H1.size = H.size + 1 → Ba D H.size N (fun _ => 0) H1 → (∀ q : Nat, q < H.size → H1[q]? = H[q]?) → G K n2 k2 H1 (pc + 2) lv (.ref H.size :: st)) : G K n k H pc lv (.int (J z) :: st) := by
  subst hn2
  subst hk2
  intro locs ls hS h
  have hRR : zR K = rm := X.2.2.2.2.2.2.2.2.1
  have hr : rg z := ⟨by omega, by omega⟩
  refine va_newaK (atype := .boolean) X.1 X.2.1 (X.2.2.2.2.1 _ harr) rfl hd rfl (by rw [J_0, J_lt hr ⟨by decide, by decide⟩]; omega) (N := N) (by rw [J_cl hr]; omega) (by show N * 1 ≤ _; omega) (by rw [hRR]; exact hcells) (by rw [hRR]; exact hslots) rfl fun H1 cA e1 z1 o1 hA hcA => ?_
  have hK2 := (X.2.2.2.2.2.1.1.2 1 _ rfl).2
  have hid : cA = D.2.2 1 := Option.some.inj (hcA.symm.trans hK2)
  subst hid
  exact kk H1 z1 e1 o1 locs ls ⟨Nat.le_trans hS.1 (by omega), fun x h1 h2 => (o1 x (Nat.lt_of_lt_of_le h1 hS.1)).trans (hS.2.1 x h1 h2), hS.2.2⟩ h
theorem g_anewarr (X : GX K cc own Ts D base rm nL) {z : Int} {N index t : Nat} {C : String} (ht : (t = 2 ∧ C = "AnchoredNotes$Note") ∨ (t = 3 ∧ C = "AnchoredNotes$Page")) (hcl : Cond.classLink own index C ∈ Ts) (hz : z = (N : Int)) (hN : N < 100000) (hcells : n + 1 ≤ rm.cells) (hslots : k + N ≤ rm.slots) (hd : decode cc pc = .ok (.anewarray index, 3))
    {n2 k2 : Nat} (hn2 : n + 1 = n2) (hk2 : k + N = k2) (kk : ∀ H1 : Heap, H1.size = H.size + 1 → Ra D H.size t N (fun _ => none) H1 → (∀ q : Nat, q < H.size → H1[q]? = H[q]?) → G K n2 k2 H1 (pc + 3) lv (.ref H.size :: st)) : G K n k H pc lv (.int (J z) :: st) := by
  subst hn2
  subst hk2
  intro locs ls hS h
  have hRR : zR K = rm := X.2.2.2.2.2.2.2.2.1
  have hr : rg z := ⟨by omega, by omega⟩
  have hKs := X.2.2.2.2.2.1
  obtain ⟨hover, t0, ht0⟩ : va_AO C (zs K) ∧ ∃ t0 : Nat, (zTys D)[t0]? = some (D.2.2 t, .object C) := by
    rcases ht with ⟨rfl, rfl⟩ | ⟨rfl, rfl⟩
    · exact ⟨hKs.2.1, 2, rfl⟩
    · exact ⟨hKs.2.2, 3, rfl⟩
  have hcl0 : (J z).toNatClampNeg = N := by rw [J_cl hr]; omega
  refine W.anew X.1 X.2.1 X.2.2.2.1 (X.2.2.2.2.1 _ hcl) (va_AO.use hover) rfl hd rfl (by rw [J_0, J_lt hr ⟨by decide, by decide⟩]; omega) (by rw [hcl0]; omega) (by rw [hRR]; exact hcells) (by rw [hRR, hcl0]; exact hslots) fun cA kA comp f1 f2 f3 f4 => ?_
  obtain ⟨kA2, comp2, k1, k2, k3, k4⟩ := (hKs.1.2 t0 _ ht0).2
  have hid : cA = D.2.2 t := Option.some.inj (f1.symm.trans k4)
  rw [hcl0]
  generalize hH1 : H.push ({ cls := cA, slots := Array.replicate N .null, vm := .none } : Cell) = H1
  have z1 : H1.size = H.size + 1 := by rw [← hH1, Array.size_push]
  have e1 : H1[H.size]? = some (arrV cA N (fun _ => .null)) := by rw [← hH1, Array.getElem?_push_size, ← arrV_new]
  have o1 : ∀ q : Nat, q < H.size → H1[q]? = H[q]? := fun q hq => by rw [← hH1, Array.getElem?_push, if_neg (Nat.ne_of_lt hq)]
  subst hid
  exact kk H1 z1 e1 o1 locs ls ⟨Nat.le_trans hS.1 (by omega), fun x h1 h2 => (o1 x (Nat.lt_of_lt_of_le h1 hS.1)).trans (hS.2.1 x h1 h2), hS.2.2⟩ h
theorem g_mmin (X : GX K cc own Ts D base rm nL) {a b : Int} {index : Nat} (ha : rg a) (hb : rg b) (hlk : Cond.methodLink own index Lib.Math.min.name ∈ Ts) (hstat : Cond.static Lib.Math.min.name ∈ Ts) (hini : Cond.initialized "java/lang/Math" ∈ Ts) (hcode : Cond.code Lib.Math.min.name Lib.Math.min.code 2 (some .int) ∈ Ts) (hfr : 1 ≤ rm.frames) (hlo : (st.map fun v => v.category).sum + 13 ≤ rm.locals) (hf : n ≤ rm.cells ∧ k ≤ rm.slots) (hd : decode cc pc = .ok (.invokestatic index, 3)) (kk : G K n k H (pc + 3) lv (.int (J (if b < a then b else a)) :: st)) : G K n k H pc lv (.int (J b) :: .int (J a) :: st) := by
  intro locs ls hS h
  have hRR : zR K = rm := X.2.2.2.2.2.2.2.2.1
  refine va_mmin X.1 X.2.1 (by rw [X.2.2.1, ← X.2.2.2.2.2.2.2.2.2.1]; exact h.1.symm) X.2.2.2.1 (X.2.2.2.2.1 _ hlk) (X.2.2.2.2.1 _ hstat) (X.2.2.2.2.1 _ hini) (X.2.2.2.2.1 _ hcode) (by rw [hRR]; exact hfr) (by rw [hRR]; exact hlo) (by rw [hRR]; exact hf.1) (by rw [hRR]; exact hf.2) hd ?_
  have e : (if J b < J a then J b else J a) = J (if b < a then b else a) := by
    by_cases c : b < a
    · rw [if_pos c, if_pos ((J_lt hb ha).mpr c)]
    · rw [if_neg c, if_neg (fun q => c ((J_lt hb ha).mp q))]
  rw [e]
  exact kk locs ls hS h
theorem g_mmax (X : GX K cc own Ts D base rm nL) {a b : Int} {index : Nat} (ha : rg a) (hb : rg b) (hlk : Cond.methodLink own index Lib.Math.max.name ∈ Ts) (hstat : Cond.static Lib.Math.max.name ∈ Ts) (hini : Cond.initialized "java/lang/Math" ∈ Ts) (hcode : Cond.code Lib.Math.max.name Lib.Math.max.code 2 (some .int) ∈ Ts) (hfr : 1 ≤ rm.frames) (hlo : (st.map fun v => v.category).sum + 13 ≤ rm.locals) (hf : n ≤ rm.cells ∧ k ≤ rm.slots) (hd : decode cc pc = .ok (.invokestatic index, 3)) (kk : G K n k H (pc + 3) lv (.int (J (if a < b then b else a)) :: st)) : G K n k H pc lv (.int (J b) :: .int (J a) :: st) := by
  intro locs ls hS h
  have hRR : zR K = rm := X.2.2.2.2.2.2.2.2.1
  refine va_mmax X.1 X.2.1 (by rw [X.2.2.1, ← X.2.2.2.2.2.2.2.2.2.1]; exact h.1.symm) X.2.2.2.1 (X.2.2.2.2.1 _ hlk) (X.2.2.2.2.1 _ hstat) (X.2.2.2.2.1 _ hini) (X.2.2.2.2.1 _ hcode) (by rw [hRR]; exact hfr) (by rw [hRR]; exact hlo) (by rw [hRR]; exact hf.1) (by rw [hRR]; exact hf.2) hd ?_
  have e : (if J a < J b then J b else J a) = J (if a < b then b else a) := by
    by_cases c : a < b
    · rw [if_pos c, if_pos ((J_lt ha hb).mpr c)]
    · rw [if_neg c, if_neg (fun q => c ((J_lt ha hb).mp q))]
  rw [e]
  exact kk locs ls hS h
/-- cells that are copied from a row to a row, or within one -/
def cpy (f g : Int → Int) (sp dp m : Int) : Int → Int := fun j => if dp ≤ j ∧ j < dp + m then f (sp + (j - dp)) else g j
theorem g_copy (X : GX K cc own Ts D base rm nL) {q0 q1 N0 N1 : Nat} {f g : Int → Int} {sp dp m : Int} {index : Nat} {rest : List Value} (hA0 : Ia D q0 N0 f H) (hA1 : Ia D q1 N1 g H) (hq : base ≤ q1) (h1 : 0 ≤ sp) (h2 : 0 ≤ dp) (h3 : 0 ≤ m) (h4 : sp + m ≤ N0) (h5 : dp + m ≤ N1) (hN : N0 < 100000 ∧ N1 < 100000) (hlk : Cond.methodLink own index arraycopyName ∈ Ts) (hnat : Cond.native arraycopyName ∈ Ts) (hstat : Cond.static arraycopyName ∈ Ts) (hini : Cond.initialized "java/lang/System" ∈ Ts) (hfr : 1 ≤ rm.frames) (hlo : (rest.map fun v => v.category).sum + (nativeFrameWords "java/lang/System" "arraycopy" 5 + 11) ≤ rm.locals) (hd : decode cc pc = .ok (.invokestatic index, 3))
    (kk : ∀ H1 : Heap, Ia D q1 N1 (cpy f g sp dp m) H1 → Fr (Iv q1 (q1 + 1)) 0 H H1 → G K n k H1 (pc + 3) lv rest) : G K n k H pc lv (.int (J m) :: .int (J dp) :: .ref q1 :: .int (J sp) :: .ref q0 :: rest) := by
  intro locs ls hS h
  have hRR : zR K = rm := X.2.2.2.2.2.2.2.2.1
  have rs : rg sp := ⟨by omega, by omega⟩
  have rd : rg dp := ⟨by omega, by omega⟩
  have rm' : rg m := ⟨by omega, by omega⟩
  have z0 : rg 0 := ⟨by decide, by decide⟩
  have hc0 : H[q0]? = some (vp_cell (D.2.2 0) (N0, .inl (fun j => J (f j)))) := hA0
  have hc1 : H[q1]? = some (vp_cell (D.2.2 0) (N1, .inl (fun j => J (g j)))) := hA1
  have hK2 := (X.2.2.2.2.2.1.1.2 0 _ rfl).1
  obtain ⟨-, k0, hk0, cm0, hkk0⟩ := hK2 N0 (fun j => .int (J (f j)))
  obtain ⟨-, k1, hk1, cm1, hkk1⟩ := hK2 N1 (fun j => .int (J (g j)))
  have cs := J_cl rs
  have cd := J_cl rd
  have cm := J_cl rm'
  intro T hT XX
  obtain ⟨vm', X', step⟩ := XX.arraycopy X.1 X.2.2.2.1 (X.2.2.2.2.1 _ hlk) (X.2.2.2.2.1 _ hnat) (X.2.2.2.2.1 _ hstat) (X.2.2.2.2.1 _ hini) (src := q0) (dst := q1) (cs := vp_cell (D.2.2 0) (N0, .inl (fun j => J (f j)))) (cd := vp_cell (D.2.2 0) (N1, .inl (fun j => J (g j)))) (srcPos := J sp) (destPos := J dp) (n := J m) (by rw [hT]; exact hc0) (by rw [hT]; exact hc1)
    (fun _ h => by cases h) (fun _ h => by cases h) (fun h => by cases h) (fun h => by cases h) hk0 hk1 hkk0 hkk1 (by simp [refKind]) (by rw [J_0, J_lt rs z0]; omega) (by rw [J_0, J_lt rd z0]; omega) (by rw [J_0, J_lt rm' z0]; omega)
    (by rw [J_toInt rs, J_toInt rm']; show ¬ _ > ((arrV (D.2.2 0) N0 (fun j => .int (J (f j)))).slots.size : Int); rw [arrV_size]; omega)
    (by rw [J_toInt rd, J_toInt rm']; show ¬ _ > ((arrV (D.2.2 0) N1 (fun j => .int (J (g j)))).slots.size : Int); rw [arrV_size]; omega)
    (fun vm₁ _ i hi => by
      have e : (vp_cell (D.2.2 0) (N0, .inl (fun j => J (f j)))).slots.getD ((J sp).toNatClampNeg + i) .null = .int (J (f (((J sp).toNatClampNeg + i : Nat) : Int))) := by
        show (arrV (D.2.2 0) N0 (fun j => .int (J (f j)))).slots.getD _ _ = _
        rw [Array.getD_eq_getD_getElem?, arrV_read _ _ (by omega)]
        rfl
      refine ⟨?_, ?_⟩
      · rw [e]
        rfl
      · rw [e]
        exact trivial)
    (g := F0 (zm K) pc ls (.int (J m) :: .int (J dp) :: .ref q1 :: .int (J sp) :: .ref q0 :: rest)) rfl (by show ls.size = _; rw [h.1, X.2.2.1]; exact X.2.2.2.2.2.2.2.2.2.1) (rest := rest) rfl (by rw [X.2.1]; exact hd) (by rw [hRR]; exact hfr) (by rw [hRR]; show 2 * 0 + _ + _ ≤ _; omega)
  have e1 : copied (vp_cell (D.2.2 0) (N0, .inl (fun j => J (f j)))) (vp_cell (D.2.2 0) (N1, .inl (fun j => J (g j)))) (J sp) (J dp) (J m) = vp_cell (D.2.2 0) (N1, .inl (va_cpy (fun j => J (f j)) (fun j => J (g j)) (J sp).toNatClampNeg (J dp).toNatClampNeg (J m).toNatClampNeg)) := va_copied (fun z => .int z) (D.2.2 0) (D.2.2 0) (fun j => J (f j)) (fun j => J (g j)) (by omega)
  have e2 : va_cpy (fun j : Nat => J (f j)) (fun j => J (g j)) (J sp).toNatClampNeg (J dp).toNatClampNeg (J m).toNatClampNeg = fun j : Nat => J (cpy f g sp dp m j) := by
    funext j
    unfold va_cpy cpy
    rw [cs, cd, cm]
    dsimp only
    by_cases c : dp ≤ (j : Int) ∧ (j : Int) < dp + m
    · rw [if_pos c, if_pos (by omega), show (((sp.toNat + (j - dp.toNat) : Nat) : Int)) = sp + (j - dp) by omega]
    · rw [if_neg c, if_neg (by omega)]
  rw [e1, e2] at X' step
  have hl : q1 < H.size := (Array.getElem?_eq_some_iff.mp hc1).1
  generalize hcell : vp_cell (D.2.2 0) (N1, .inl (fun j : Nat => J (cpy f g sp dp m j))) = cell at X' step
  have hheap : ((T.setVm vm').setCell q1 cell).heap = H.setIfInBounds q1 cell := by rw [← hT]; rfl
  have oq : ∀ q : Nat, q ≠ q1 → (H.setIfInBounds q1 cell)[q]? = H[q]? := fun q hq => by simp [Array.getElem?_setIfInBounds, Ne.symm hq]
  have hb' : ∀ q, q = q1 → zba K ≤ q := fun q e => by rw [e, X.2.2.2.2.2.2.2.1]; exact hq
  obtain ⟨t, a1, b1⟩ := kk (H.setIfInBounds q1 cell) (by show (H.setIfInBounds q1 cell)[q1]? = some _; rw [hcell]; simp [Array.getElem?_setIfInBounds, hl]) (Up1.fr ⟨by simp, oq⟩) _ ls ⟨by simp; exact hS.1, fun q g1 g2 => by
      rw [oq q (fun e => g2 (hb' q e))]
      exact hS.2.1 q g1 g2, fun q hq => by
      rcases List.mem_append.mp hq with h | h
      · exact hS.2.2 q h
      · obtain ⟨z, -, hz⟩ := List.mem_map.mp h
        rw [← hz]
        exact hb' q1 rfl⟩ h _ hheap X'
  exact ⟨t, step t a1, b1⟩
end
def PI (P : Heap → Int → Heap → Prop) : Heap → Option Value → Heap → Prop := fun H v H1 => ∃ r : Int, v = some (.int (J r)) ∧ P H r H1
def PV (P : Heap → Heap → Prop) : Heap → Option Value → Heap → Prop := fun H v H1 => v = none ∧ P H H1
def PR (P : Heap → Value → Heap → Prop) : Heap → Option Value → Heap → Prop := fun H v H1 => ∃ r : Value, v = some r ∧ P H r H1
/-- a place of call, all that the tables say of it -/
def zCV (own : String) (Ts : List Cond) (index : Nat) (ci : Nat) (y : MethodName) (ws : List Cond) (bytes : ByteArray) (maxL : Nat) (ret : Option FieldType) (rm rmc : Room) (na : Nat) : Prop := ∃ r ws', GoodIn Ts (wsV own index y.cls y ws) ∧ ws = Cond.code y bytes maxL ret :: ws' ∧ (y.cls ≠ "java/lang/invoke/MethodHandle" ∧ y.cls ≠ "java/lang/invoke/VarHandle" ∧ (parseMethodDescriptor y.desc).map (fun d => d.parameters.length) = some na) ∧ (rmc.frames + 1 ≤ rm.frames ∧ 8 + (maxL + 11) + rmc.locals ≤ rm.locals) ∧ vwCl[ci]? = some r ∧ r.1 = y.cls
def zCS (own : String) (Ts : List Cond) (index : Nat) (y : MethodName) (ws : List Cond) (bytes : ByteArray) (maxL : Nat) (ret : Option FieldType) (rm rmc : Room) (na : Nat) : Prop := ∃ ws', GoodIn Ts (wsS own index y ws) ∧ ws = Cond.code y bytes maxL ret :: ws' ∧ (y.cls = own ∧ y.cls ≠ "java/lang/invoke/MethodHandle" ∧ y.cls ≠ "java/lang/invoke/VarHandle" ∧ (parseMethodDescriptor y.desc).map (fun d => d.parameters.length) = some na) ∧ (rmc.frames + 1 ≤ rm.frames ∧ 8 + (maxL + 11) + rmc.locals ≤ rm.locals)
def zCJ (own : String) (Ts : List Cond) (index : Nat) (y : MethodName) (ws : List Cond) (bytes : ByteArray) (maxL : Nat) (ret : Option FieldType) (rm rmc : Room) (na : Nat) : Prop := ∃ ws', GoodIn Ts (va_wsS own index y ws) ∧ ws = Cond.code y bytes maxL ret :: ws' ∧ (y.cls ≠ "java/lang/invoke/MethodHandle" ∧ y.cls ≠ "java/lang/invoke/VarHandle" ∧ (parseMethodDescriptor y.desc).map (fun d => d.parameters.length) = some na) ∧ (rmc.frames + 1 ≤ rm.frames ∧ 8 + (maxL + 11) + rmc.locals ≤ rm.locals)
def zCN (own : String) (Ts : List Cond) (index : Nat) (y : MethodName) (ws : List Cond) (bytes : ByteArray) (maxL : Nat) (ret : Option FieldType) (rm rmc : Room) (na : Nat) : Prop := ∃ host ws', GoodIn Ts ws ∧ Cond.methodLinkNest own index y host ∈ Ts ∧ Cond.initialized y.cls ∈ Ts ∧ Cond.static y ∈ Ts ∧ ws = Cond.code y bytes maxL ret :: ws' ∧ (y.cls ≠ "java/lang/invoke/MethodHandle" ∧ y.cls ≠ "java/lang/invoke/VarHandle" ∧ (parseMethodDescriptor y.desc).map (fun d => d.parameters.length) = some na) ∧ (rmc.frames + 1 ≤ rm.frames ∧ 8 + (maxL + 11) + rmc.locals ≤ rm.locals)
def zCI (own : String) (Ts : List Cond) (index : Nat) (y : MethodName) (ws : List Cond) (bytes : ByteArray) (maxL : Nat) (rm rmc : Room) (na : Nat) : Prop := ∃ ws', GoodIn Ts ws ∧ (Cond.methodLink own index y ∈ Ts ∨ ∃ host, Cond.methodLinkNest own index y host ∈ Ts) ∧ Cond.initialized y.cls ∈ Ts ∧ Cond.instanceMethod y ∈ Ts ∧ y.name = "<init>" ∧ ws = Cond.code y bytes maxL none :: ws' ∧ (y.cls ≠ "java/lang/invoke/MethodHandle" ∧ y.cls ≠ "java/lang/invoke/VarHandle" ∧ (parseMethodDescriptor y.desc).map (fun d => d.parameters.length) = some na) ∧ (rmc.frames + 1 ≤ rm.frames ∧ 8 + (maxL + 11) + rmc.locals ≤ rm.locals)
section
variable {K : zC} {n k : Nat} {H : Heap} {pc : Nat} {lv : List (Nat × Value)} {st : List Value} {cc : ByteArray} {own : String} {Ts : List Cond} {D : zD} {base : Nat} {rm : Room} {nL : Nat}
theorem gVi (X : GX K cc own Ts D base rm nL) {y : MethodName} {ws : List Cond} {rmc : Room} {As : List Value} {Pre : Heap → Prop} {bytes : ByteArray} {maxL index na : Nat} {ret : Option FieldType} {rest : List Value} {n2 k2 : Nat} {P : Heap → Int → Heap → Prop} {ci q : Nat} {fs : List Value} (cs : zCV own Ts index ci y ws bytes maxL ret rm rmc na) (hM : Ct (zl K) y ws rmc D base (.ref q :: As) Pre (PI P)) (hn : As.length = na) (hO : Ob D q ci fs H) (hq : base ≤ q) (hP : Pre H) (hst : st = As.reverse ++ .ref q :: rest) (hf : n + rmc.cells ≤ rm.cells ∧ k + rmc.slots ≤ rm.slots) (hdg : decode cc pc = .ok (.invokevirtual index, 3)) (hW : (rest.map fun v => v.category).sum ≤ 8) (hn2 : n + rmc.cells = n2) (hk2 : k + rmc.slots = k2) (kk : ∀ (r : Int) (H1 : Heap), P H r H1 → H.size ≤ H1.size → G K n2 k2 H1 (pc + 3) lv (.int (J r) :: rest)) : G K n k H pc lv st := by
  obtain ⟨r, ws', h1, h2, h3, h4, h5, h6⟩ := cs
  exact g_callV X hM h1 h2 na ⟨rfl, h3⟩ hn h4 hf h5 h6 hO (Nat.le_trans hq (Nat.le_of_lt hO.lt)) hP hdg hst hW (fun v H1 hp hs => by obtain ⟨r, rfl, hp⟩ := hp; subst hn2; subst hk2; exact kk r H1 hp hs)
theorem gSi (X : GX K cc own Ts D base rm nL) {y : MethodName} {ws : List Cond} {rmc : Room} {As : List Value} {Pre : Heap → Prop} {bytes : ByteArray} {maxL index na : Nat} {ret : Option FieldType} {rest : List Value} {n2 k2 : Nat} {P : Heap → Int → Heap → Prop} (cs : zCS own Ts index y ws bytes maxL ret rm rmc na) (hM : Ct (zl K) y ws rmc D base As Pre (PI P)) (hn : As.length = na) (hb : base ≤ H.size) (hP : Pre H) (hst : st = As.reverse ++ rest) (hf : n + rmc.cells ≤ rm.cells ∧ k + rmc.slots ≤ rm.slots) (hdg : decode cc pc = .ok (.invokestatic index, 3)) (hW : (rest.map fun v => v.category).sum ≤ 8) (hn2 : n + rmc.cells = n2) (hk2 : k + rmc.slots = k2) (kk : ∀ (r : Int) (H1 : Heap), P H r H1 → H.size ≤ H1.size → G K n2 k2 H1 (pc + 3) lv (.int (J r) :: rest)) : G K n k H pc lv st := by
  obtain ⟨ws', h1, h2, h3, h4⟩ := cs
  exact g_callS X hM h1 h2 na h3 hn h4 hf hb hP hdg hst hW (fun v H1 hp hs => by obtain ⟨r, rfl, hp⟩ := hp; subst hn2; subst hk2; exact kk r H1 hp hs)
theorem gJi (X : GX K cc own Ts D base rm nL) {y : MethodName} {ws : List Cond} {rmc : Room} {As : List Value} {Pre : Heap → Prop} {bytes : ByteArray} {maxL index na : Nat} {ret : Option FieldType} {rest : List Value} {n2 k2 : Nat} {P : Heap → Int → Heap → Prop} (cs : zCJ own Ts index y ws bytes maxL ret rm rmc na) (hM : Ct (zl K) y ws rmc D base As Pre (PI P)) (hn : As.length = na) (hb : base ≤ H.size) (hP : Pre H) (hst : st = As.reverse ++ rest) (hf : n + rmc.cells ≤ rm.cells ∧ k + rmc.slots ≤ rm.slots) (hdg : decode cc pc = .ok (.invokestatic index, 3)) (hW : (rest.map fun v => v.category).sum ≤ 8) (hn2 : n + rmc.cells = n2) (hk2 : k + rmc.slots = k2) (kk : ∀ (r : Int) (H1 : Heap), P H r H1 → H.size ≤ H1.size → G K n2 k2 H1 (pc + 3) lv (.int (J r) :: rest)) : G K n k H pc lv st := by
  obtain ⟨ws', h1, h2, h3, h4⟩ := cs
  exact g_callJ X hM h1 h2 na h3 hn h4 hf hb hP hdg hst hW (fun v H1 hp hs => by obtain ⟨r, rfl, hp⟩ := hp; subst hn2; subst hk2; exact kk r H1 hp hs)
theorem gNi (X : GX K cc own Ts D base rm nL) {y : MethodName} {ws : List Cond} {rmc : Room} {As : List Value} {Pre : Heap → Prop} {bytes : ByteArray} {maxL index na : Nat} {ret : Option FieldType} {rest : List Value} {n2 k2 : Nat} {P : Heap → Int → Heap → Prop} (cs : zCN own Ts index y ws bytes maxL ret rm rmc na) (hM : Ct (zl K) y ws rmc D base As Pre (PI P)) (hn : As.length = na) (hb : base ≤ H.size) (hP : Pre H) (hst : st = As.reverse ++ rest) (hf : n + rmc.cells ≤ rm.cells ∧ k + rmc.slots ≤ rm.slots) (hdg : decode cc pc = .ok (.invokestatic index, 3)) (hW : (rest.map fun v => v.category).sum ≤ 8) (hn2 : n + rmc.cells = n2) (hk2 : k + rmc.slots = k2) (kk : ∀ (r : Int) (H1 : Heap), P H r H1 → H.size ≤ H1.size → G K n2 k2 H1 (pc + 3) lv (.int (J r) :: rest)) : G K n k H pc lv st := by
  obtain ⟨host, ws', h1, h2, h3, h4, h5, h6, h7⟩ := cs
  exact g_callSN X hM h1 h2 h3 h4 h5 na h6 hn h7 hf hb hP hdg hst hW (fun v H1 hp hs => by obtain ⟨r, rfl, hp⟩ := hp; subst hn2; subst hk2; exact kk r H1 hp hs)
theorem gVv (X : GX K cc own Ts D base rm nL) {y : MethodName} {ws : List Cond} {rmc : Room} {As : List Value} {Pre : Heap → Prop} {bytes : ByteArray} {maxL index na : Nat} {ret : Option FieldType} {rest : List Value} {n2 k2 : Nat} {P : Heap → Heap → Prop} {ci q : Nat} {fs : List Value} (cs : zCV own Ts index ci y ws bytes maxL ret rm rmc na) (hM : Ct (zl K) y ws rmc D base (.ref q :: As) Pre (PV P)) (hn : As.length = na) (hO : Ob D q ci fs H) (hq : base ≤ q) (hP : Pre H) (hst : st = As.reverse ++ .ref q :: rest) (hf : n + rmc.cells ≤ rm.cells ∧ k + rmc.slots ≤ rm.slots) (hdg : decode cc pc = .ok (.invokevirtual index, 3)) (hW : (rest.map fun v => v.category).sum ≤ 8) (hn2 : n + rmc.cells = n2) (hk2 : k + rmc.slots = k2) (kk : ∀ (H1 : Heap), P H H1 → H.size ≤ H1.size → G K n2 k2 H1 (pc + 3) lv rest) : G K n k H pc lv st := by
  obtain ⟨r, ws', h1, h2, h3, h4, h5, h6⟩ := cs
  exact g_callV X hM h1 h2 na ⟨rfl, h3⟩ hn h4 hf h5 h6 hO (Nat.le_trans hq (Nat.le_of_lt hO.lt)) hP hdg hst hW (fun v H1 hp hs => by obtain ⟨rfl, hp⟩ := hp; subst hn2; subst hk2; exact kk H1 hp hs)
theorem gSv (X : GX K cc own Ts D base rm nL) {y : MethodName} {ws : List Cond} {rmc : Room} {As : List Value} {Pre : Heap → Prop} {bytes : ByteArray} {maxL index na : Nat} {ret : Option FieldType} {rest : List Value} {n2 k2 : Nat} {P : Heap → Heap → Prop} (cs : zCS own Ts index y ws bytes maxL ret rm rmc na) (hM : Ct (zl K) y ws rmc D base As Pre (PV P)) (hn : As.length = na) (hb : base ≤ H.size) (hP : Pre H) (hst : st = As.reverse ++ rest) (hf : n + rmc.cells ≤ rm.cells ∧ k + rmc.slots ≤ rm.slots) (hdg : decode cc pc = .ok (.invokestatic index, 3)) (hW : (rest.map fun v => v.category).sum ≤ 8) (hn2 : n + rmc.cells = n2) (hk2 : k + rmc.slots = k2) (kk : ∀ (H1 : Heap), P H H1 → H.size ≤ H1.size → G K n2 k2 H1 (pc + 3) lv rest) : G K n k H pc lv st := by
  obtain ⟨ws', h1, h2, h3, h4⟩ := cs
  exact g_callS X hM h1 h2 na h3 hn h4 hf hb hP hdg hst hW (fun v H1 hp hs => by obtain ⟨rfl, hp⟩ := hp; subst hn2; subst hk2; exact kk H1 hp hs)
theorem gJv (X : GX K cc own Ts D base rm nL) {y : MethodName} {ws : List Cond} {rmc : Room} {As : List Value} {Pre : Heap → Prop} {bytes : ByteArray} {maxL index na : Nat} {ret : Option FieldType} {rest : List Value} {n2 k2 : Nat} {P : Heap → Heap → Prop} (cs : zCJ own Ts index y ws bytes maxL ret rm rmc na) (hM : Ct (zl K) y ws rmc D base As Pre (PV P)) (hn : As.length = na) (hb : base ≤ H.size) (hP : Pre H) (hst : st = As.reverse ++ rest) (hf : n + rmc.cells ≤ rm.cells ∧ k + rmc.slots ≤ rm.slots) (hdg : decode cc pc = .ok (.invokestatic index, 3)) (hW : (rest.map fun v => v.category).sum ≤ 8) (hn2 : n + rmc.cells = n2) (hk2 : k + rmc.slots = k2) (kk : ∀ (H1 : Heap), P H H1 → H.size ≤ H1.size → G K n2 k2 H1 (pc + 3) lv rest) : G K n k H pc lv st := by
  obtain ⟨ws', h1, h2, h3, h4⟩ := cs
  exact g_callJ X hM h1 h2 na h3 hn h4 hf hb hP hdg hst hW (fun v H1 hp hs => by obtain ⟨rfl, hp⟩ := hp; subst hn2; subst hk2; exact kk H1 hp hs)
theorem gNv (X : GX K cc own Ts D base rm nL) {y : MethodName} {ws : List Cond} {rmc : Room} {As : List Value} {Pre : Heap → Prop} {bytes : ByteArray} {maxL index na : Nat} {ret : Option FieldType} {rest : List Value} {n2 k2 : Nat} {P : Heap → Heap → Prop} (cs : zCN own Ts index y ws bytes maxL ret rm rmc na) (hM : Ct (zl K) y ws rmc D base As Pre (PV P)) (hn : As.length = na) (hb : base ≤ H.size) (hP : Pre H) (hst : st = As.reverse ++ rest) (hf : n + rmc.cells ≤ rm.cells ∧ k + rmc.slots ≤ rm.slots) (hdg : decode cc pc = .ok (.invokestatic index, 3)) (hW : (rest.map fun v => v.category).sum ≤ 8) (hn2 : n + rmc.cells = n2) (hk2 : k + rmc.slots = k2) (kk : ∀ (H1 : Heap), P H H1 → H.size ≤ H1.size → G K n2 k2 H1 (pc + 3) lv rest) : G K n k H pc lv st := by
  obtain ⟨host, ws', h1, h2, h3, h4, h5, h6, h7⟩ := cs
  exact g_callSN X hM h1 h2 h3 h4 h5 na h6 hn h7 hf hb hP hdg hst hW (fun v H1 hp hs => by obtain ⟨rfl, hp⟩ := hp; subst hn2; subst hk2; exact kk H1 hp hs)
theorem gVr (X : GX K cc own Ts D base rm nL) {y : MethodName} {ws : List Cond} {rmc : Room} {As : List Value} {Pre : Heap → Prop} {bytes : ByteArray} {maxL index na : Nat} {ret : Option FieldType} {rest : List Value} {n2 k2 : Nat} {P : Heap → Value → Heap → Prop} {ci q : Nat} {fs : List Value} (cs : zCV own Ts index ci y ws bytes maxL ret rm rmc na) (hM : Ct (zl K) y ws rmc D base (.ref q :: As) Pre (PR P)) (hn : As.length = na) (hO : Ob D q ci fs H) (hq : base ≤ q) (hP : Pre H) (hst : st = As.reverse ++ .ref q :: rest) (hf : n + rmc.cells ≤ rm.cells ∧ k + rmc.slots ≤ rm.slots) (hdg : decode cc pc = .ok (.invokevirtual index, 3)) (hW : (rest.map fun v => v.category).sum ≤ 8) (hn2 : n + rmc.cells = n2) (hk2 : k + rmc.slots = k2) (kk : ∀ (r : Value) (H1 : Heap), P H r H1 → H.size ≤ H1.size → G K n2 k2 H1 (pc + 3) lv (r :: rest)) : G K n k H pc lv st := by
  obtain ⟨r, ws', h1, h2, h3, h4, h5, h6⟩ := cs
  exact g_callV X hM h1 h2 na ⟨rfl, h3⟩ hn h4 hf h5 h6 hO (Nat.le_trans hq (Nat.le_of_lt hO.lt)) hP hdg hst hW (fun v H1 hp hs => by obtain ⟨r, rfl, hp⟩ := hp; subst hn2; subst hk2; exact kk r H1 hp hs)
theorem gSr (X : GX K cc own Ts D base rm nL) {y : MethodName} {ws : List Cond} {rmc : Room} {As : List Value} {Pre : Heap → Prop} {bytes : ByteArray} {maxL index na : Nat} {ret : Option FieldType} {rest : List Value} {n2 k2 : Nat} {P : Heap → Value → Heap → Prop} (cs : zCS own Ts index y ws bytes maxL ret rm rmc na) (hM : Ct (zl K) y ws rmc D base As Pre (PR P)) (hn : As.length = na) (hb : base ≤ H.size) (hP : Pre H) (hst : st = As.reverse ++ rest) (hf : n + rmc.cells ≤ rm.cells ∧ k + rmc.slots ≤ rm.slots) (hdg : decode cc pc = .ok (.invokestatic index, 3)) (hW : (rest.map fun v => v.category).sum ≤ 8) (hn2 : n + rmc.cells = n2) (hk2 : k + rmc.slots = k2) (kk : ∀ (r : Value) (H1 : Heap), P H r H1 → H.size ≤ H1.size → G K n2 k2 H1 (pc + 3) lv (r :: rest)) : G K n k H pc lv st := by
  obtain ⟨ws', h1, h2, h3, h4⟩ := cs
  exact g_callS X hM h1 h2 na h3 hn h4 hf hb hP hdg hst hW (fun v H1 hp hs => by obtain ⟨r, rfl, hp⟩ := hp; subst hn2; subst hk2; exact kk r H1 hp hs)
theorem gJr (X : GX K cc own Ts D base rm nL) {y : MethodName} {ws : List Cond} {rmc : Room} {As : List Value} {Pre : Heap → Prop} {bytes : ByteArray} {maxL index na : Nat} {ret : Option FieldType} {rest : List Value} {n2 k2 : Nat} {P : Heap → Value → Heap → Prop} (cs : zCJ own Ts index y ws bytes maxL ret rm rmc na) (hM : Ct (zl K) y ws rmc D base As Pre (PR P)) (hn : As.length = na) (hb : base ≤ H.size) (hP : Pre H) (hst : st = As.reverse ++ rest) (hf : n + rmc.cells ≤ rm.cells ∧ k + rmc.slots ≤ rm.slots) (hdg : decode cc pc = .ok (.invokestatic index, 3)) (hW : (rest.map fun v => v.category).sum ≤ 8) (hn2 : n + rmc.cells = n2) (hk2 : k + rmc.slots = k2) (kk : ∀ (r : Value) (H1 : Heap), P H r H1 → H.size ≤ H1.size → G K n2 k2 H1 (pc + 3) lv (r :: rest)) : G K n k H pc lv st := by
  obtain ⟨ws', h1, h2, h3, h4⟩ := cs
  exact g_callJ X hM h1 h2 na h3 hn h4 hf hb hP hdg hst hW (fun v H1 hp hs => by obtain ⟨r, rfl, hp⟩ := hp; subst hn2; subst hk2; exact kk r H1 hp hs)
theorem gNr (X : GX K cc own Ts D base rm nL) {y : MethodName} {ws : List Cond} {rmc : Room} {As : List Value} {Pre : Heap → Prop} {bytes : ByteArray} {maxL index na : Nat} {ret : Option FieldType} {rest : List Value} {n2 k2 : Nat} {P : Heap → Value → Heap → Prop} (cs : zCN own Ts index y ws bytes maxL ret rm rmc na) (hM : Ct (zl K) y ws rmc D base As Pre (PR P)) (hn : As.length = na) (hb : base ≤ H.size) (hP : Pre H) (hst : st = As.reverse ++ rest) (hf : n + rmc.cells ≤ rm.cells ∧ k + rmc.slots ≤ rm.slots) (hdg : decode cc pc = .ok (.invokestatic index, 3)) (hW : (rest.map fun v => v.category).sum ≤ 8) (hn2 : n + rmc.cells = n2) (hk2 : k + rmc.slots = k2) (kk : ∀ (r : Value) (H1 : Heap), P H r H1 → H.size ≤ H1.size → G K n2 k2 H1 (pc + 3) lv (r :: rest)) : G K n k H pc lv st := by
  obtain ⟨host, ws', h1, h2, h3, h4, h5, h6, h7⟩ := cs
  exact g_callSN X hM h1 h2 h3 h4 h5 na h6 hn h7 hf hb hP hdg hst hW (fun v H1 hp hs => by obtain ⟨r, rfl, hp⟩ := hp; subst hn2; subst hk2; exact kk r H1 hp hs)
theorem gIv (X : GX K cc own Ts D base rm nL) {y : MethodName} {ws : List Cond} {rmc : Room} {As : List Value} {Pre : Heap → Prop} {bytes : ByteArray} {maxL index na : Nat} {ret : Option FieldType} {rest : List Value} {n2 k2 : Nat} {P : Heap → Heap → Prop} {q : Nat} (cs : zCI own Ts index y ws bytes maxL rm rmc na) (hM : Ct (zl K) y ws rmc D base (.ref q :: As) Pre (PV P)) (hn : As.length = na) (hb : base ≤ H.size) (hP : Pre H) (hst : st = As.reverse ++ .ref q :: rest) (hf : n + rmc.cells ≤ rm.cells ∧ k + rmc.slots ≤ rm.slots) (hdg : decode cc pc = .ok (.invokespecial index, 3)) (hW : (rest.map fun v => v.category).sum ≤ 8) (hn2 : n + rmc.cells = n2) (hk2 : k + rmc.slots = k2) (kk : ∀ (H1 : Heap), P H H1 → H.size ≤ H1.size → G K n2 k2 H1 (pc + 3) lv rest) : G K n k H pc lv st := by
  obtain ⟨ws', h1, h2, h3, h4, h5, h6, h7, h8⟩ := cs
  rcases h2 with h2 | ⟨host, h2⟩
  · exact g_callI (ret := none) X hM h1 h2 h3 h4 h5 h6 na h7 hn h8 hf hb hP hdg hst hW (fun v H1 hp hs => by obtain ⟨rfl, hp⟩ := hp; subst hn2; subst hk2; exact kk H1 hp hs)
  · exact g_callIN (ret := none) X hM h1 h2 h3 h4 h5 h6 na h7 hn h8 hf hb hP hdg hst hW (fun v H1 hp hs => by obtain ⟨rfl, hp⟩ := hp; subst hn2; subst hk2; exact kk H1 hp hs)
theorem g_iret (X : GX K cc own Ts D base rm nL) {mc ms : Nat} {P : Heap → Int → Heap → Prop} {H0 : Heap} (R : GR K (some .int) base mc ms (PI P)) (hH : (zs K).heap = H0) {z : Int} (hd : decode cc pc = .ok (.ireturn, 1)) (hp : P H0 z H) : G K mc ms H pc lv [.int (J z)] := g_ireturn X R (by rw [hH]; exact ⟨z, rfl, hp⟩) hd
theorem g_zret (X : GX K cc own Ts D base rm nL) {mc ms : Nat} {P : Heap → Int → Heap → Prop} {H0 : Heap} (R : GR K (some .boolean) base mc ms (PI P)) (hH : (zs K).heap = H0) {z : Int} (hz : z = 0 ∨ z = 1) (hd : decode cc pc = .ok (.ireturn, 1)) (hp : P H0 z H) : G K mc ms H pc lv [.int (J z)] := g_zreturn X R (by rcases hz with rfl | rfl <;> rfl) (by rw [hH]; exact ⟨z, rfl, hp⟩) hd
theorem g_vret (X : GX K cc own Ts D base rm nL) {mc ms : Nat} {P : Heap → Heap → Prop} {H0 : Heap} (R : GR K none base mc ms (PV P)) (hH : (zs K).heap = H0) (hd : decode cc pc = .ok (.return_, 1)) (hp : P H0 H) : G K mc ms H pc lv [] := g_vreturn X R (by rw [hH]; exact ⟨rfl, hp⟩) hd
theorem g_aret (X : GX K cc own Ts D base rm nL) {mc ms : Nat} {P : Heap → Value → Heap → Prop} {C : String} {H0 : Heap} (R : GR K (some (.object C)) base mc ms (PR P)) (hH : (zs K).heap = H0) {v : Value} (hv : v = .null ∨ ∃ a, v = .ref a) (hd : decode cc pc = .ok (.areturn, 1)) (hp : P H0 v H) : G K mc ms H pc lv [v] := g_areturn X R hv (by rw [hH]; exact ⟨v, rfl, hp⟩) hd
end
end
section
theorem zb0 {P : Prop} [Decidable P] (h : (if P then (1 : Int) else 0) = 0) : ¬ P := fun q => by rw [if_pos q] at h; omega
theorem zb1 {P : Prop} [Decidable P] (h : ¬ (if P then (1 : Int) else 0) = 0) : P := by
  by_cases q : P
  · exact q
  · rw [if_neg q] at h; exact absurd rfl h
theorem zbr (P : Prop) [Decidable P] : rg (if P then (1 : Int) else 0) := by split <;> exact ⟨by decide, by decide⟩
theorem zbo (P : Prop) [Decidable P] : (if P then (1 : Int) else 0) = 0 ∨ (if P then (1 : Int) else 0) = 1 := by split <;> simp
/-- a row: its object, its ints, how many of them count -/
def RowAt (D : zD) (r N : Nat) (n : Int) (f : Int → Int) (H : Heap) : Prop :=
  Ob D r 6 [.ref (r + 1), .int (J n)] H ∧ (∃ g : Int → Int, Ia D (r + 1) N g H ∧ ∀ i : Int, 0 ≤ i → i < n → g i = f i) ∧ 0 ≤ n ∧ n ≤ N ∧ N ≤ 100
theorem RowAt.fr {D : zD} {r N a b d : Nat} {n : Int} {f : Int → Int} {H H' : Heap} (h : RowAt D r N n f H) (fr : Fr (Iv a b) d H H') (e : r + 2 ≤ a ∨ b ≤ r) : RowAt D r N n f H' := by
  obtain ⟨h1, ⟨g, h2, h3⟩, h4⟩ := h
  exact ⟨h1.fr fr (by omega), ⟨g, h2.fr fr (by omega), h3⟩, h4⟩
theorem RowAt.congr {D : zD} {r N : Nat} {n : Int} {f f' : Int → Int} {H : Heap} (h : RowAt D r N n f H) (e : ∀ i : Int, 0 ≤ i → i < n → f i = f' i) : RowAt D r N n f' H := by
  obtain ⟨h1, ⟨g, h2, h3⟩, h4⟩ := h
  exact ⟨h1, ⟨g, h2, fun i a b => (h3 i a b).trans (e i a b)⟩, h4⟩
theorem RowAt.lt {D : zD} {r N : Nat} {n : Int} {f : Int → Int} {H : Heap} (h : RowAt D r N n f H) : r + 1 < H.size := by
  obtain ⟨h1, ⟨g, h2, h3⟩, h4⟩ := h
  exact h2.lt
theorem RowAt.bd {D : zD} {r N : Nat} {n : Int} {f : Int → Int} {H : Heap} (h : RowAt D r N n f H) : 0 ≤ n ∧ n ≤ N ∧ N ≤ 100 := h.2.2
/-- what is asked of a place that may be none -/
def itm (n : Int) (f : Int → Int) (i : Int) : Int := if 0 ≤ i ∧ i < n then f i else -1
def ins (f : Int → Int) (i v : Int) : Int → Int := fun j => if j < i then f j else if j = i then v else f (j - 1)
def del (f : Int → Int) (a b : Int) : Int → Int := fun j => if j < a then f j else f (j + (b - a + 1))
def rev (f : Int → Int) (a b : Int) : Int → Int := fun j => if a ≤ j ∧ j ≤ b then f (a + b - j) else f j
def swp (f : Int → Int) (a b lo hi : Int) : Int → Int := fun j => if (a ≤ j ∧ j < lo) ∨ (hi < j ∧ j ≤ b) then f (a + b - j) else f j
def exch (f : Int → Int) (a m b : Int) : Int → Int := fun j => if a ≤ j ∧ j ≤ b then (if j ≤ a + (b - m) then f (m + (j - a)) else f (j - (b - m + 1))) else f j
/-- some are taken out and put in again from a place on -/
def mvf (f : Int → Int) (a b p : Int) : Int → Int := fun j => if p ≤ j ∧ j ≤ p + (b - a) then f (a + (j - p)) else (if (if j < p then j else j - (b - a + 1)) < a then f (if j < p then j else j - (b - a + 1)) else f ((if j < p then j else j - (b - a + 1)) + (b - a + 1)))
theorem swp_0 (f : Int → Int) (a b : Int) : swp f a b a b = f := by
  funext j; simp only [swp]
  (repeat' split) <;> first | rfl | (exfalso; omega) | (congr 1; omega)
theorem swp_end {f : Int → Int} {a b lo hi : Int} (h : lo + hi = a + b) (h1 : hi ≤ lo) (h2 : a ≤ lo) (h3 : lo ≤ hi + 1) : swp f a b lo hi = rev f a b := by
  funext j; simp only [swp, rev]
  (repeat' split) <;> first | rfl | (exfalso; omega) | (congr 1; omega)
theorem exch_rev (f : Int → Int) {a m b : Int} (h1 : a ≤ m) (h2 : m ≤ b + 1) : rev (rev (rev f a (m - 1)) m b) a b = exch f a m b := by
  funext j; simp only [rev, exch]
  (repeat' split) <;> first | rfl | (exfalso; omega) | (congr 1; omega)
theorem mvf_lo (f : Int → Int) {a b p : Int} (h : p < a) (hab : a ≤ b) : exch f p a b = mvf f a b p := by
  funext j; simp only [exch, mvf]
  (repeat' split) <;> first | rfl | (exfalso; omega) | (congr 1; omega)
theorem mvf_hi (f : Int → Int) {a b p : Int} (h : a ≤ p) (hab : a ≤ b) : exch f a (b + 1) (p + b - a) = mvf f a b p := by
  funext j; simp only [exch, mvf]
  (repeat' split) <;> first | rfl | (exfalso; omega) | (congr 1; omega)
theorem swp_step {f g : Int → Int} {a b lo hi n : Int} (hg : ∀ i : Int, 0 ≤ i → i < n → g i = swp f a b lo hi i) (h : lo + hi = a + b) (h1 : a ≤ lo) (h2 : lo < hi) (h3 : 0 ≤ a) (h4 : b < n) : ∀ j : Int, 0 ≤ j → j < n → up (up g lo (g hi)) hi (g lo) j = swp f a b (lo + 1) (hi + (-1)) j := by
  intro j h0 h5
  have e1 := hg lo (by omega) (by omega)
  have e2 := hg hi (by omega) (by omega)
  have e3 := hg j h0 h5
  simp only [swp] at e1 e2 e3
  rw [if_neg (by omega)] at e1 e2
  simp only [up, swp]
  by_cases c1 : j = hi
  · rw [if_pos c1, e1, if_pos (by omega)]; congr 1; omega
  · rw [if_neg c1]
    by_cases c2 : j = lo
    · rw [if_pos c2, e2, if_pos (by omega)]; congr 1; omega
    · rw [if_neg c2, e3]
      by_cases c3 : (a ≤ j ∧ j < lo) ∨ (hi < j ∧ j ≤ b)
      · rw [if_pos c3, if_pos (by omega)]
      · rw [if_neg c3, if_neg (by omega)]
end
section
set_option maxRecDepth 20000 in
theorem ggX6_replace_X6_has : GoodIn wsX6_replace wsX6_has := goodIn_r _ [6, 7, 1, 8, 9] (by decide +kernel) (by decide +kernel)
set_option maxRecDepth 20000 in
theorem gX6_replace_X6_has : GoodIn wsX6_replace (wsV RX6 19 RX6 yX6_has wsX6_has) := goodIn_app (goodIn_of _ (by decide +kernel)) ggX6_replace_X6_has
set_option maxRecDepth 20000 in
theorem ggX6_cut_X6_has : GoodIn wsX6_cut wsX6_has := goodIn_r _ [11, 2, 1, 12, 13] (by decide +kernel) (by decide +kernel)
set_option maxRecDepth 20000 in
theorem gX6_cut_X6_has : GoodIn wsX6_cut (wsV RX6 19 RX6 yX6_has wsX6_has) := goodIn_app (goodIn_of _ (by decide +kernel)) ggX6_cut_X6_has
set_option maxRecDepth 20000 in
theorem ggX6_shift_X6_exchange : GoodIn wsX6_shift wsX6_exchange := goodIn_r _ [5, 6, 7, 8, 4, 9, 10, 11, 12, 13, 14, 15, 16, 17] (by decide +kernel) (by decide +kernel)
set_option maxRecDepth 20000 in
theorem gX6_shift_X6_exchange : GoodIn wsX6_shift (wsV RX6 29 RX6 yX6_exchange wsX6_exchange) := goodIn_app (goodIn_of _ (by decide +kernel)) ggX6_shift_X6_exchange
set_option maxRecDepth 20000 in
theorem ggX6_exchange_X6_turn : GoodIn wsX6_exchange wsX6_turn := goodIn_r _ [5, 6, 7, 8, 9, 4, 10, 11, 12, 13] (by decide +kernel) (by decide +kernel)
set_option maxRecDepth 20000 in
theorem gX6_exchange_X6_turn : GoodIn wsX6_exchange (wsV RX6 33 RX6 yX6_turn wsX6_turn) := goodIn_app (goodIn_of _ (by decide +kernel)) ggX6_exchange_X6_turn
set_option maxRecDepth 20000 in
theorem ggX6_turn_X6_has : GoodIn wsX6_turn wsX6_has := goodIn_r _ [6, 7, 1, 8, 9] (by decide +kernel) (by decide +kernel)
set_option maxRecDepth 20000 in
theorem gX6_turn_X6_has : GoodIn wsX6_turn (wsV RX6 19 RX6 yX6_has wsX6_has) := goodIn_app (goodIn_of _ (by decide +kernel)) ggX6_turn_X6_has
set_option maxRecDepth 20000 in
theorem ggX6_copyPart_X6_clear : GoodIn wsX6_copyPart wsX6_clear := goodIn_r _ [5, 6, 20, 21] (by decide +kernel) (by decide +kernel)
set_option maxRecDepth 20000 in
theorem gX6_copyPart_X6_clear : GoodIn wsX6_copyPart (wsV RX6 43 RX6 yX6_clear wsX6_clear) := goodIn_app (goodIn_of _ (by decide +kernel)) ggX6_copyPart_X6_clear
set_option maxRecDepth 20000 in
theorem ggX6_copyPart_X6_has : GoodIn wsX6_copyPart wsX6_has := goodIn_r _ [10, 6, 11, 20, 21] (by decide +kernel) (by decide +kernel)
set_option maxRecDepth 20000 in
theorem gX6_copyPart_X6_has : GoodIn wsX6_copyPart (wsV RX6 19 RX6 yX6_has wsX6_has) := goodIn_app (goodIn_of _ (by decide +kernel)) ggX6_copyPart_X6_has
set_option maxRecDepth 20000 in
theorem ggX6_copyPart_X6_item : GoodIn wsX6_copyPart wsX6_item := goodIn_r _ [15, 6, 11, 20, 21] (by decide +kernel) (by decide +kernel)
set_option maxRecDepth 20000 in
theorem gX6_copyPart_X6_item : GoodIn wsX6_copyPart (wsV RX6 46 RX6 yX6_item wsX6_item) := goodIn_app (goodIn_of _ (by decide +kernel)) ggX6_copyPart_X6_item
set_option maxRecDepth 20000 in
theorem ggX6_copyPart_X6_add : GoodIn wsX6_copyPart wsX6_add := goodIn_r _ [19, 6, 11, 20, 21] (by decide +kernel) (by decide +kernel)
set_option maxRecDepth 20000 in
theorem gX6_copyPart_X6_add : GoodIn wsX6_copyPart (wsV RX6 50 RX6 yX6_add wsX6_add) := goodIn_app (goodIn_of _ (by decide +kernel)) ggX6_copyPart_X6_add
set_option maxRecDepth 20000 in
theorem ggX6_countAlike_X6_item : GoodIn wsX6_countAlike wsX6_item := goodIn_r _ [6, 1, 7, 8, 9] (by decide +kernel) (by decide +kernel)
set_option maxRecDepth 20000 in
theorem gX6_countAlike_X6_item : GoodIn wsX6_countAlike (wsV RX6 46 RX6 yX6_item wsX6_item) := goodIn_app (goodIn_of _ (by decide +kernel)) ggX6_countAlike_X6_item
theorem dX6_init_0 : decode cX6_init 0 = .ok (.aload_n 0, 1) := by decide +kernel
theorem dX6_init_1 : decode cX6_init 1 = .ok (.invokespecial 3, 3) := by decide +kernel
theorem dX6_init_4 : decode cX6_init 4 = .ok (.aload_n 0, 1) := by decide +kernel
theorem dX6_init_5 : decode cX6_init 5 = .ok (.iload_n 1, 1) := by decide +kernel
theorem dX6_init_6 : decode cX6_init 6 = .ok (.ifCond .ge 7, 3) := by decide +kernel
theorem dX6_init_9 : decode cX6_init 9 = .ok (.iconst 0, 1) := by decide +kernel
theorem dX6_init_10 : decode cX6_init 10 = .ok (.goto 4, 3) := by decide +kernel
theorem dX6_init_13 : decode cX6_init 13 = .ok (.iload_n 1, 1) := by decide +kernel
theorem dX6_init_14 : decode cX6_init 14 = .ok (.newarray .int, 2) := by decide +kernel
theorem dX6_init_16 : decode cX6_init 16 = .ok (.putfield 9, 3) := by decide +kernel
theorem dX6_init_19 : decode cX6_init 19 = .ok (.return_, 1) := by decide +kernel
theorem dX6_has_0 : decode cX6_has 0 = .ok (.iload_n 1, 1) := by decide +kernel
theorem dX6_has_1 : decode cX6_has 1 = .ok (.ifCond .lt 24, 3) := by decide +kernel
theorem dX6_has_4 : decode cX6_has 4 = .ok (.iload_n 1, 1) := by decide +kernel
theorem dX6_has_5 : decode cX6_has 5 = .ok (.aload_n 0, 1) := by decide +kernel
theorem dX6_has_6 : decode cX6_has 6 = .ok (.getfield 15, 3) := by decide +kernel
theorem dX6_has_9 : decode cX6_has 9 = .ok (.if_icmp .ge 16, 3) := by decide +kernel
theorem dX6_has_12 : decode cX6_has 12 = .ok (.iload_n 1, 1) := by decide +kernel
theorem dX6_has_13 : decode cX6_has 13 = .ok (.aload_n 0, 1) := by decide +kernel
theorem dX6_has_14 : decode cX6_has 14 = .ok (.getfield 9, 3) := by decide +kernel
theorem dX6_has_17 : decode cX6_has 17 = .ok (.arraylength, 1) := by decide +kernel
theorem dX6_has_18 : decode cX6_has 18 = .ok (.if_icmp .ge 7, 3) := by decide +kernel
theorem dX6_has_21 : decode cX6_has 21 = .ok (.iconst 1, 1) := by decide +kernel
theorem dX6_has_22 : decode cX6_has 22 = .ok (.goto 4, 3) := by decide +kernel
theorem dX6_has_25 : decode cX6_has 25 = .ok (.iconst 0, 1) := by decide +kernel
theorem dX6_has_26 : decode cX6_has 26 = .ok (.ireturn, 1) := by decide +kernel
theorem dX6_item_0 : decode cX6_item 0 = .ok (.iload_n 1, 1) := by decide +kernel
theorem dX6_item_1 : decode cX6_item 1 = .ok (.ifCond .lt 29, 3) := by decide +kernel
theorem dX6_item_4 : decode cX6_item 4 = .ok (.iload_n 1, 1) := by decide +kernel
theorem dX6_item_5 : decode cX6_item 5 = .ok (.aload_n 0, 1) := by decide +kernel
theorem dX6_item_6 : decode cX6_item 6 = .ok (.getfield 15, 3) := by decide +kernel
theorem dX6_item_9 : decode cX6_item 9 = .ok (.if_icmp .ge 21, 3) := by decide +kernel
theorem dX6_item_12 : decode cX6_item 12 = .ok (.iload_n 1, 1) := by decide +kernel
theorem dX6_item_13 : decode cX6_item 13 = .ok (.aload_n 0, 1) := by decide +kernel
theorem dX6_item_14 : decode cX6_item 14 = .ok (.getfield 9, 3) := by decide +kernel
theorem dX6_item_17 : decode cX6_item 17 = .ok (.arraylength, 1) := by decide +kernel
theorem dX6_item_18 : decode cX6_item 18 = .ok (.if_icmp .ge 12, 3) := by decide +kernel
theorem dX6_item_21 : decode cX6_item 21 = .ok (.aload_n 0, 1) := by decide +kernel
theorem dX6_item_22 : decode cX6_item 22 = .ok (.getfield 9, 3) := by decide +kernel
theorem dX6_item_25 : decode cX6_item 25 = .ok (.iload_n 1, 1) := by decide +kernel
theorem dX6_item_26 : decode cX6_item 26 = .ok (.iaload, 1) := by decide +kernel
theorem dX6_item_27 : decode cX6_item 27 = .ok (.goto 4, 3) := by decide +kernel
theorem dX6_item_30 : decode cX6_item 30 = .ok (.iconst (-1), 1) := by decide +kernel
theorem dX6_item_31 : decode cX6_item 31 = .ok (.ireturn, 1) := by decide +kernel
theorem dX6_replace_0 : decode cX6_replace 0 = .ok (.aload_n 0, 1) := by decide +kernel
theorem dX6_replace_1 : decode cX6_replace 1 = .ok (.iload_n 1, 1) := by decide +kernel
theorem dX6_replace_2 : decode cX6_replace 2 = .ok (.invokevirtual 19, 3) := by decide +kernel
theorem dX6_replace_5 : decode cX6_replace 5 = .ok (.ifCond .eq 10, 3) := by decide +kernel
theorem dX6_replace_8 : decode cX6_replace 8 = .ok (.aload_n 0, 1) := by decide +kernel
theorem dX6_replace_9 : decode cX6_replace 9 = .ok (.getfield 9, 3) := by decide +kernel
theorem dX6_replace_12 : decode cX6_replace 12 = .ok (.iload_n 1, 1) := by decide +kernel
theorem dX6_replace_13 : decode cX6_replace 13 = .ok (.iload_n 2, 1) := by decide +kernel
theorem dX6_replace_14 : decode cX6_replace 14 = .ok (.iastore, 1) := by decide +kernel
theorem dX6_replace_15 : decode cX6_replace 15 = .ok (.return_, 1) := by decide +kernel
theorem dX6_insert_0 : decode cX6_insert 0 = .ok (.iload_n 1, 1) := by decide +kernel
theorem dX6_insert_1 : decode cX6_insert 1 = .ok (.ifCond .lt 23, 3) := by decide +kernel
theorem dX6_insert_4 : decode cX6_insert 4 = .ok (.iload_n 1, 1) := by decide +kernel
theorem dX6_insert_5 : decode cX6_insert 5 = .ok (.aload_n 0, 1) := by decide +kernel
theorem dX6_insert_6 : decode cX6_insert 6 = .ok (.getfield 15, 3) := by decide +kernel
theorem dX6_insert_9 : decode cX6_insert 9 = .ok (.if_icmp .gt 15, 3) := by decide +kernel
theorem dX6_insert_12 : decode cX6_insert 12 = .ok (.aload_n 0, 1) := by decide +kernel
theorem dX6_insert_13 : decode cX6_insert 13 = .ok (.getfield 15, 3) := by decide +kernel
theorem dX6_insert_16 : decode cX6_insert 16 = .ok (.aload_n 0, 1) := by decide +kernel
theorem dX6_insert_17 : decode cX6_insert 17 = .ok (.getfield 9, 3) := by decide +kernel
theorem dX6_insert_20 : decode cX6_insert 20 = .ok (.arraylength, 1) := by decide +kernel
theorem dX6_insert_21 : decode cX6_insert 21 = .ok (.if_icmp .lt 4, 3) := by decide +kernel
theorem dX6_insert_24 : decode cX6_insert 24 = .ok (.return_, 1) := by decide +kernel
theorem dX6_insert_25 : decode cX6_insert 25 = .ok (.aload_n 0, 1) := by decide +kernel
theorem dX6_insert_26 : decode cX6_insert 26 = .ok (.getfield 9, 3) := by decide +kernel
theorem dX6_insert_29 : decode cX6_insert 29 = .ok (.iload_n 1, 1) := by decide +kernel
theorem dX6_insert_30 : decode cX6_insert 30 = .ok (.aload_n 0, 1) := by decide +kernel
theorem dX6_insert_31 : decode cX6_insert 31 = .ok (.getfield 9, 3) := by decide +kernel
theorem dX6_insert_34 : decode cX6_insert 34 = .ok (.iload_n 1, 1) := by decide +kernel
theorem dX6_insert_35 : decode cX6_insert 35 = .ok (.iconst 1, 1) := by decide +kernel
theorem dX6_insert_36 : decode cX6_insert 36 = .ok (.iadd, 1) := by decide +kernel
theorem dX6_insert_37 : decode cX6_insert 37 = .ok (.aload_n 0, 1) := by decide +kernel
theorem dX6_insert_38 : decode cX6_insert 38 = .ok (.getfield 15, 3) := by decide +kernel
theorem dX6_insert_41 : decode cX6_insert 41 = .ok (.iload_n 1, 1) := by decide +kernel
theorem dX6_insert_42 : decode cX6_insert 42 = .ok (.isub, 1) := by decide +kernel
theorem dX6_insert_43 : decode cX6_insert 43 = .ok (.invokestatic 23, 3) := by decide +kernel
theorem dX6_insert_46 : decode cX6_insert 46 = .ok (.aload_n 0, 1) := by decide +kernel
theorem dX6_insert_47 : decode cX6_insert 47 = .ok (.getfield 9, 3) := by decide +kernel
theorem dX6_insert_50 : decode cX6_insert 50 = .ok (.iload_n 1, 1) := by decide +kernel
theorem dX6_insert_51 : decode cX6_insert 51 = .ok (.iload_n 2, 1) := by decide +kernel
theorem dX6_insert_52 : decode cX6_insert 52 = .ok (.iastore, 1) := by decide +kernel
theorem dX6_insert_53 : decode cX6_insert 53 = .ok (.aload_n 0, 1) := by decide +kernel
theorem dX6_insert_54 : decode cX6_insert 54 = .ok (.dup, 1) := by decide +kernel
theorem dX6_insert_55 : decode cX6_insert 55 = .ok (.getfield 15, 3) := by decide +kernel
theorem dX6_insert_58 : decode cX6_insert 58 = .ok (.iconst 1, 1) := by decide +kernel
theorem dX6_insert_59 : decode cX6_insert 59 = .ok (.iadd, 1) := by decide +kernel
theorem dX6_insert_60 : decode cX6_insert 60 = .ok (.putfield 15, 3) := by decide +kernel
theorem dX6_insert_63 : decode cX6_insert 63 = .ok (.return_, 1) := by decide +kernel
theorem dX6_add_0 : decode cX6_add 0 = .ok (.aload_n 0, 1) := by decide +kernel
theorem dX6_add_1 : decode cX6_add 1 = .ok (.getfield 15, 3) := by decide +kernel
theorem dX6_add_4 : decode cX6_add 4 = .ok (.ifCond .lt 35, 3) := by decide +kernel
theorem dX6_add_7 : decode cX6_add 7 = .ok (.aload_n 0, 1) := by decide +kernel
theorem dX6_add_8 : decode cX6_add 8 = .ok (.getfield 15, 3) := by decide +kernel
theorem dX6_add_11 : decode cX6_add 11 = .ok (.aload_n 0, 1) := by decide +kernel
theorem dX6_add_12 : decode cX6_add 12 = .ok (.getfield 9, 3) := by decide +kernel
theorem dX6_add_15 : decode cX6_add 15 = .ok (.arraylength, 1) := by decide +kernel
theorem dX6_add_16 : decode cX6_add 16 = .ok (.if_icmp .ge 23, 3) := by decide +kernel
theorem dX6_add_19 : decode cX6_add 19 = .ok (.aload_n 0, 1) := by decide +kernel
theorem dX6_add_20 : decode cX6_add 20 = .ok (.getfield 9, 3) := by decide +kernel
theorem dX6_add_23 : decode cX6_add 23 = .ok (.aload_n 0, 1) := by decide +kernel
theorem dX6_add_24 : decode cX6_add 24 = .ok (.getfield 15, 3) := by decide +kernel
theorem dX6_add_27 : decode cX6_add 27 = .ok (.iload_n 1, 1) := by decide +kernel
theorem dX6_add_28 : decode cX6_add 28 = .ok (.iastore, 1) := by decide +kernel
theorem dX6_add_29 : decode cX6_add 29 = .ok (.aload_n 0, 1) := by decide +kernel
theorem dX6_add_30 : decode cX6_add 30 = .ok (.dup, 1) := by decide +kernel
theorem dX6_add_31 : decode cX6_add 31 = .ok (.getfield 15, 3) := by decide +kernel
theorem dX6_add_34 : decode cX6_add 34 = .ok (.iconst 1, 1) := by decide +kernel
theorem dX6_add_35 : decode cX6_add 35 = .ok (.iadd, 1) := by decide +kernel
theorem dX6_add_36 : decode cX6_add 36 = .ok (.putfield 15, 3) := by decide +kernel
theorem dX6_add_39 : decode cX6_add 39 = .ok (.return_, 1) := by decide +kernel
theorem dX6_cut_0 : decode cX6_cut 0 = .ok (.aload_n 0, 1) := by decide +kernel
theorem dX6_cut_1 : decode cX6_cut 1 = .ok (.iload_n 1, 1) := by decide +kernel
theorem dX6_cut_2 : decode cX6_cut 2 = .ok (.invokevirtual 19, 3) := by decide +kernel
theorem dX6_cut_5 : decode cX6_cut 5 = .ok (.ifCond .eq 16, 3) := by decide +kernel
theorem dX6_cut_8 : decode cX6_cut 8 = .ok (.aload_n 0, 1) := by decide +kernel
theorem dX6_cut_9 : decode cX6_cut 9 = .ok (.iload_n 2, 1) := by decide +kernel
theorem dX6_cut_10 : decode cX6_cut 10 = .ok (.invokevirtual 19, 3) := by decide +kernel
theorem dX6_cut_13 : decode cX6_cut 13 = .ok (.ifCond .eq 8, 3) := by decide +kernel
theorem dX6_cut_16 : decode cX6_cut 16 = .ok (.iload_n 2, 1) := by decide +kernel
theorem dX6_cut_17 : decode cX6_cut 17 = .ok (.iload_n 1, 1) := by decide +kernel
theorem dX6_cut_18 : decode cX6_cut 18 = .ok (.if_icmp .ge 4, 3) := by decide +kernel
theorem dX6_cut_21 : decode cX6_cut 21 = .ok (.return_, 1) := by decide +kernel
theorem dX6_cut_22 : decode cX6_cut 22 = .ok (.aload_n 0, 1) := by decide +kernel
theorem dX6_cut_23 : decode cX6_cut 23 = .ok (.getfield 9, 3) := by decide +kernel
theorem dX6_cut_26 : decode cX6_cut 26 = .ok (.iload_n 2, 1) := by decide +kernel
theorem dX6_cut_27 : decode cX6_cut 27 = .ok (.iconst 1, 1) := by decide +kernel
theorem dX6_cut_28 : decode cX6_cut 28 = .ok (.iadd, 1) := by decide +kernel
theorem dX6_cut_29 : decode cX6_cut 29 = .ok (.aload_n 0, 1) := by decide +kernel
theorem dX6_cut_30 : decode cX6_cut 30 = .ok (.getfield 9, 3) := by decide +kernel
theorem dX6_cut_33 : decode cX6_cut 33 = .ok (.iload_n 1, 1) := by decide +kernel
theorem dX6_cut_34 : decode cX6_cut 34 = .ok (.aload_n 0, 1) := by decide +kernel
theorem dX6_cut_35 : decode cX6_cut 35 = .ok (.getfield 15, 3) := by decide +kernel
theorem dX6_cut_38 : decode cX6_cut 38 = .ok (.iload_n 2, 1) := by decide +kernel
theorem dX6_cut_39 : decode cX6_cut 39 = .ok (.isub, 1) := by decide +kernel
theorem dX6_cut_40 : decode cX6_cut 40 = .ok (.iconst 1, 1) := by decide +kernel
theorem dX6_cut_41 : decode cX6_cut 41 = .ok (.isub, 1) := by decide +kernel
theorem dX6_cut_42 : decode cX6_cut 42 = .ok (.invokestatic 23, 3) := by decide +kernel
theorem dX6_cut_45 : decode cX6_cut 45 = .ok (.aload_n 0, 1) := by decide +kernel
theorem dX6_cut_46 : decode cX6_cut 46 = .ok (.dup, 1) := by decide +kernel
theorem dX6_cut_47 : decode cX6_cut 47 = .ok (.getfield 15, 3) := by decide +kernel
theorem dX6_cut_50 : decode cX6_cut 50 = .ok (.iload_n 2, 1) := by decide +kernel
theorem dX6_cut_51 : decode cX6_cut 51 = .ok (.iload_n 1, 1) := by decide +kernel
theorem dX6_cut_52 : decode cX6_cut 52 = .ok (.isub, 1) := by decide +kernel
theorem dX6_cut_53 : decode cX6_cut 53 = .ok (.iconst 1, 1) := by decide +kernel
theorem dX6_cut_54 : decode cX6_cut 54 = .ok (.iadd, 1) := by decide +kernel
theorem dX6_cut_55 : decode cX6_cut 55 = .ok (.isub, 1) := by decide +kernel
theorem dX6_cut_56 : decode cX6_cut 56 = .ok (.putfield 15, 3) := by decide +kernel
theorem dX6_cut_59 : decode cX6_cut 59 = .ok (.return_, 1) := by decide +kernel
theorem dX6_clear_0 : decode cX6_clear 0 = .ok (.aload_n 0, 1) := by decide +kernel
theorem dX6_clear_1 : decode cX6_clear 1 = .ok (.iconst 0, 1) := by decide +kernel
theorem dX6_clear_2 : decode cX6_clear 2 = .ok (.putfield 15, 3) := by decide +kernel
theorem dX6_clear_5 : decode cX6_clear 5 = .ok (.return_, 1) := by decide +kernel
theorem dX6_shift_0 : decode cX6_shift 0 = .ok (.iload_n 3, 1) := by decide +kernel
theorem dX6_shift_1 : decode cX6_shift 1 = .ok (.iload_n 1, 1) := by decide +kernel
theorem dX6_shift_2 : decode cX6_shift 2 = .ok (.if_icmp .ge 13, 3) := by decide +kernel
theorem dX6_shift_5 : decode cX6_shift 5 = .ok (.aload_n 0, 1) := by decide +kernel
theorem dX6_shift_6 : decode cX6_shift 6 = .ok (.iload_n 3, 1) := by decide +kernel
theorem dX6_shift_7 : decode cX6_shift 7 = .ok (.iload_n 1, 1) := by decide +kernel
theorem dX6_shift_8 : decode cX6_shift 8 = .ok (.iload_n 2, 1) := by decide +kernel
theorem dX6_shift_9 : decode cX6_shift 9 = .ok (.invokevirtual 29, 3) := by decide +kernel
theorem dX6_shift_12 : decode cX6_shift 12 = .ok (.goto 16, 3) := by decide +kernel
theorem dX6_shift_15 : decode cX6_shift 15 = .ok (.aload_n 0, 1) := by decide +kernel
theorem dX6_shift_16 : decode cX6_shift 16 = .ok (.iload_n 1, 1) := by decide +kernel
theorem dX6_shift_17 : decode cX6_shift 17 = .ok (.iload_n 2, 1) := by decide +kernel
theorem dX6_shift_18 : decode cX6_shift 18 = .ok (.iconst 1, 1) := by decide +kernel
theorem dX6_shift_19 : decode cX6_shift 19 = .ok (.iadd, 1) := by decide +kernel
theorem dX6_shift_20 : decode cX6_shift 20 = .ok (.iload_n 3, 1) := by decide +kernel
theorem dX6_shift_21 : decode cX6_shift 21 = .ok (.iload_n 2, 1) := by decide +kernel
theorem dX6_shift_22 : decode cX6_shift 22 = .ok (.iadd, 1) := by decide +kernel
theorem dX6_shift_23 : decode cX6_shift 23 = .ok (.iload_n 1, 1) := by decide +kernel
theorem dX6_shift_24 : decode cX6_shift 24 = .ok (.isub, 1) := by decide +kernel
theorem dX6_shift_25 : decode cX6_shift 25 = .ok (.invokevirtual 29, 3) := by decide +kernel
theorem dX6_shift_28 : decode cX6_shift 28 = .ok (.return_, 1) := by decide +kernel
theorem dX6_exchange_0 : decode cX6_exchange 0 = .ok (.aload_n 0, 1) := by decide +kernel
theorem dX6_exchange_1 : decode cX6_exchange 1 = .ok (.iload_n 1, 1) := by decide +kernel
theorem dX6_exchange_2 : decode cX6_exchange 2 = .ok (.iload_n 2, 1) := by decide +kernel
theorem dX6_exchange_3 : decode cX6_exchange 3 = .ok (.iconst 1, 1) := by decide +kernel
theorem dX6_exchange_4 : decode cX6_exchange 4 = .ok (.isub, 1) := by decide +kernel
theorem dX6_exchange_5 : decode cX6_exchange 5 = .ok (.invokevirtual 33, 3) := by decide +kernel
theorem dX6_exchange_8 : decode cX6_exchange 8 = .ok (.aload_n 0, 1) := by decide +kernel
theorem dX6_exchange_9 : decode cX6_exchange 9 = .ok (.iload_n 2, 1) := by decide +kernel
theorem dX6_exchange_10 : decode cX6_exchange 10 = .ok (.iload_n 3, 1) := by decide +kernel
theorem dX6_exchange_11 : decode cX6_exchange 11 = .ok (.invokevirtual 33, 3) := by decide +kernel
theorem dX6_exchange_14 : decode cX6_exchange 14 = .ok (.aload_n 0, 1) := by decide +kernel
theorem dX6_exchange_15 : decode cX6_exchange 15 = .ok (.iload_n 1, 1) := by decide +kernel
theorem dX6_exchange_16 : decode cX6_exchange 16 = .ok (.iload_n 3, 1) := by decide +kernel
theorem dX6_exchange_17 : decode cX6_exchange 17 = .ok (.invokevirtual 33, 3) := by decide +kernel
theorem dX6_exchange_20 : decode cX6_exchange 20 = .ok (.return_, 1) := by decide +kernel
theorem dX6_turn_0 : decode cX6_turn 0 = .ok (.iload_n 1, 1) := by decide +kernel
theorem dX6_turn_1 : decode cX6_turn 1 = .ok (.istore_n 3, 1) := by decide +kernel
theorem dX6_turn_2 : decode cX6_turn 2 = .ok (.iload_n 2, 1) := by decide +kernel
theorem dX6_turn_3 : decode cX6_turn 3 = .ok (.istore 4, 2) := by decide +kernel
theorem dX6_turn_5 : decode cX6_turn 5 = .ok (.iload_n 3, 1) := by decide +kernel
theorem dX6_turn_6 : decode cX6_turn 6 = .ok (.iload 4, 2) := by decide +kernel
theorem dX6_turn_8 : decode cX6_turn 8 = .ok (.if_icmp .ge 59, 3) := by decide +kernel
theorem dX6_turn_11 : decode cX6_turn 11 = .ok (.aload_n 0, 1) := by decide +kernel
theorem dX6_turn_12 : decode cX6_turn 12 = .ok (.iload_n 3, 1) := by decide +kernel
theorem dX6_turn_13 : decode cX6_turn 13 = .ok (.invokevirtual 19, 3) := by decide +kernel
theorem dX6_turn_16 : decode cX6_turn 16 = .ok (.ifCond .eq 51, 3) := by decide +kernel
theorem dX6_turn_19 : decode cX6_turn 19 = .ok (.aload_n 0, 1) := by decide +kernel
theorem dX6_turn_20 : decode cX6_turn 20 = .ok (.iload 4, 2) := by decide +kernel
theorem dX6_turn_22 : decode cX6_turn 22 = .ok (.invokevirtual 19, 3) := by decide +kernel
theorem dX6_turn_25 : decode cX6_turn 25 = .ok (.ifCond .eq 42, 3) := by decide +kernel
theorem dX6_turn_28 : decode cX6_turn 28 = .ok (.aload_n 0, 1) := by decide +kernel
theorem dX6_turn_29 : decode cX6_turn 29 = .ok (.getfield 9, 3) := by decide +kernel
theorem dX6_turn_32 : decode cX6_turn 32 = .ok (.iload_n 3, 1) := by decide +kernel
theorem dX6_turn_33 : decode cX6_turn 33 = .ok (.iaload, 1) := by decide +kernel
theorem dX6_turn_34 : decode cX6_turn 34 = .ok (.istore 5, 2) := by decide +kernel
theorem dX6_turn_36 : decode cX6_turn 36 = .ok (.aload_n 0, 1) := by decide +kernel
theorem dX6_turn_37 : decode cX6_turn 37 = .ok (.getfield 9, 3) := by decide +kernel
theorem dX6_turn_40 : decode cX6_turn 40 = .ok (.iload_n 3, 1) := by decide +kernel
theorem dX6_turn_41 : decode cX6_turn 41 = .ok (.aload_n 0, 1) := by decide +kernel
theorem dX6_turn_42 : decode cX6_turn 42 = .ok (.getfield 9, 3) := by decide +kernel
theorem dX6_turn_45 : decode cX6_turn 45 = .ok (.iload 4, 2) := by decide +kernel
theorem dX6_turn_47 : decode cX6_turn 47 = .ok (.iaload, 1) := by decide +kernel
theorem dX6_turn_48 : decode cX6_turn 48 = .ok (.iastore, 1) := by decide +kernel
theorem dX6_turn_49 : decode cX6_turn 49 = .ok (.aload_n 0, 1) := by decide +kernel
theorem dX6_turn_50 : decode cX6_turn 50 = .ok (.getfield 9, 3) := by decide +kernel
theorem dX6_turn_53 : decode cX6_turn 53 = .ok (.iload 4, 2) := by decide +kernel
theorem dX6_turn_55 : decode cX6_turn 55 = .ok (.iload 5, 2) := by decide +kernel
theorem dX6_turn_57 : decode cX6_turn 57 = .ok (.iastore, 1) := by decide +kernel
theorem dX6_turn_58 : decode cX6_turn 58 = .ok (.iinc 3 1, 3) := by decide +kernel
theorem dX6_turn_61 : decode cX6_turn 61 = .ok (.iinc 4 (-1), 3) := by decide +kernel
theorem dX6_turn_64 : decode cX6_turn 64 = .ok (.goto (-59), 3) := by decide +kernel
theorem dX6_turn_67 : decode cX6_turn 67 = .ok (.return_, 1) := by decide +kernel
theorem dX6_copyFrom_0 : decode cX6_copyFrom 0 = .ok (.aload_n 0, 1) := by decide +kernel
theorem dX6_copyFrom_1 : decode cX6_copyFrom 1 = .ok (.aload_n 1, 1) := by decide +kernel
theorem dX6_copyFrom_2 : decode cX6_copyFrom 2 = .ok (.getfield 15, 3) := by decide +kernel
theorem dX6_copyFrom_5 : decode cX6_copyFrom 5 = .ok (.aload_n 0, 1) := by decide +kernel
theorem dX6_copyFrom_6 : decode cX6_copyFrom 6 = .ok (.getfield 9, 3) := by decide +kernel
theorem dX6_copyFrom_9 : decode cX6_copyFrom 9 = .ok (.arraylength, 1) := by decide +kernel
theorem dX6_copyFrom_10 : decode cX6_copyFrom 10 = .ok (.invokestatic 37, 3) := by decide +kernel
theorem dX6_copyFrom_13 : decode cX6_copyFrom 13 = .ok (.putfield 15, 3) := by decide +kernel
theorem dX6_copyFrom_16 : decode cX6_copyFrom 16 = .ok (.aload_n 1, 1) := by decide +kernel
theorem dX6_copyFrom_17 : decode cX6_copyFrom 17 = .ok (.getfield 9, 3) := by decide +kernel
theorem dX6_copyFrom_20 : decode cX6_copyFrom 20 = .ok (.iconst 0, 1) := by decide +kernel
theorem dX6_copyFrom_21 : decode cX6_copyFrom 21 = .ok (.aload_n 0, 1) := by decide +kernel
theorem dX6_copyFrom_22 : decode cX6_copyFrom 22 = .ok (.getfield 9, 3) := by decide +kernel
theorem dX6_copyFrom_25 : decode cX6_copyFrom 25 = .ok (.iconst 0, 1) := by decide +kernel
theorem dX6_copyFrom_26 : decode cX6_copyFrom 26 = .ok (.aload_n 0, 1) := by decide +kernel
theorem dX6_copyFrom_27 : decode cX6_copyFrom 27 = .ok (.getfield 15, 3) := by decide +kernel
theorem dX6_copyFrom_30 : decode cX6_copyFrom 30 = .ok (.invokestatic 23, 3) := by decide +kernel
theorem dX6_copyFrom_33 : decode cX6_copyFrom 33 = .ok (.return_, 1) := by decide +kernel
theorem dX6_copyPart_0 : decode cX6_copyPart 0 = .ok (.aload_n 0, 1) := by decide +kernel
theorem dX6_copyPart_1 : decode cX6_copyPart 1 = .ok (.invokevirtual 43, 3) := by decide +kernel
theorem dX6_copyPart_4 : decode cX6_copyPart 4 = .ok (.iconst 0, 1) := by decide +kernel
theorem dX6_copyPart_5 : decode cX6_copyPart 5 = .ok (.istore 5, 2) := by decide +kernel
theorem dX6_copyPart_7 : decode cX6_copyPart 7 = .ok (.iload 5, 2) := by decide +kernel
theorem dX6_copyPart_9 : decode cX6_copyPart 9 = .ok (.iload 4, 2) := by decide +kernel
theorem dX6_copyPart_11 : decode cX6_copyPart 11 = .ok (.if_icmp .ge 36, 3) := by decide +kernel
theorem dX6_copyPart_14 : decode cX6_copyPart 14 = .ok (.aload_n 1, 1) := by decide +kernel
theorem dX6_copyPart_15 : decode cX6_copyPart 15 = .ok (.iload_n 2, 1) := by decide +kernel
theorem dX6_copyPart_16 : decode cX6_copyPart 16 = .ok (.iload 5, 2) := by decide +kernel
theorem dX6_copyPart_18 : decode cX6_copyPart 18 = .ok (.iload_n 3, 1) := by decide +kernel
theorem dX6_copyPart_19 : decode cX6_copyPart 19 = .ok (.imul, 1) := by decide +kernel
theorem dX6_copyPart_20 : decode cX6_copyPart 20 = .ok (.iadd, 1) := by decide +kernel
theorem dX6_copyPart_21 : decode cX6_copyPart 21 = .ok (.invokevirtual 19, 3) := by decide +kernel
theorem dX6_copyPart_24 : decode cX6_copyPart 24 = .ok (.ifCond .eq 23, 3) := by decide +kernel
theorem dX6_copyPart_27 : decode cX6_copyPart 27 = .ok (.aload_n 0, 1) := by decide +kernel
theorem dX6_copyPart_28 : decode cX6_copyPart 28 = .ok (.aload_n 1, 1) := by decide +kernel
theorem dX6_copyPart_29 : decode cX6_copyPart 29 = .ok (.iload_n 2, 1) := by decide +kernel
theorem dX6_copyPart_30 : decode cX6_copyPart 30 = .ok (.iload 5, 2) := by decide +kernel
theorem dX6_copyPart_32 : decode cX6_copyPart 32 = .ok (.iload_n 3, 1) := by decide +kernel
theorem dX6_copyPart_33 : decode cX6_copyPart 33 = .ok (.imul, 1) := by decide +kernel
theorem dX6_copyPart_34 : decode cX6_copyPart 34 = .ok (.iadd, 1) := by decide +kernel
theorem dX6_copyPart_35 : decode cX6_copyPart 35 = .ok (.invokevirtual 46, 3) := by decide +kernel
theorem dX6_copyPart_38 : decode cX6_copyPart 38 = .ok (.invokevirtual 50, 3) := by decide +kernel
theorem dX6_copyPart_41 : decode cX6_copyPart 41 = .ok (.iinc 5 1, 3) := by decide +kernel
theorem dX6_copyPart_44 : decode cX6_copyPart 44 = .ok (.goto (-37), 3) := by decide +kernel
theorem dX6_copyPart_47 : decode cX6_copyPart 47 = .ok (.return_, 1) := by decide +kernel
theorem dX6_countAlike_0 : decode cX6_countAlike 0 = .ok (.iconst 0, 1) := by decide +kernel
theorem dX6_countAlike_1 : decode cX6_countAlike 1 = .ok (.istore 4, 2) := by decide +kernel
theorem dX6_countAlike_3 : decode cX6_countAlike 3 = .ok (.iload 4, 2) := by decide +kernel
theorem dX6_countAlike_5 : decode cX6_countAlike 5 = .ok (.aload_n 1, 1) := by decide +kernel
theorem dX6_countAlike_6 : decode cX6_countAlike 6 = .ok (.getfield 15, 3) := by decide +kernel
theorem dX6_countAlike_9 : decode cX6_countAlike 9 = .ok (.if_icmp .ge 28, 3) := by decide +kernel
theorem dX6_countAlike_12 : decode cX6_countAlike 12 = .ok (.aload_n 0, 1) := by decide +kernel
theorem dX6_countAlike_13 : decode cX6_countAlike 13 = .ok (.iload_n 2, 1) := by decide +kernel
theorem dX6_countAlike_14 : decode cX6_countAlike 14 = .ok (.iload 4, 2) := by decide +kernel
theorem dX6_countAlike_16 : decode cX6_countAlike 16 = .ok (.iload_n 3, 1) := by decide +kernel
theorem dX6_countAlike_17 : decode cX6_countAlike 17 = .ok (.imul, 1) := by decide +kernel
theorem dX6_countAlike_18 : decode cX6_countAlike 18 = .ok (.iadd, 1) := by decide +kernel
theorem dX6_countAlike_19 : decode cX6_countAlike 19 = .ok (.invokevirtual 46, 3) := by decide +kernel
theorem dX6_countAlike_22 : decode cX6_countAlike 22 = .ok (.aload_n 1, 1) := by decide +kernel
theorem dX6_countAlike_23 : decode cX6_countAlike 23 = .ok (.iload 4, 2) := by decide +kernel
theorem dX6_countAlike_25 : decode cX6_countAlike 25 = .ok (.invokevirtual 46, 3) := by decide +kernel
theorem dX6_countAlike_28 : decode cX6_countAlike 28 = .ok (.if_icmp .ne 9, 3) := by decide +kernel
theorem dX6_countAlike_31 : decode cX6_countAlike 31 = .ok (.iinc 4 1, 3) := by decide +kernel
theorem dX6_countAlike_34 : decode cX6_countAlike 34 = .ok (.goto (-31), 3) := by decide +kernel
theorem dX6_countAlike_37 : decode cX6_countAlike 37 = .ok (.iload 4, 2) := by decide +kernel
theorem dX6_countAlike_39 : decode cX6_countAlike 39 = .ok (.ireturn, 1) := by decide +kernel
end
section
abbrev rm_X6_has : Room := { frames := 0, cells := 0, slots := 0, locals := 0 }
theorem zF_X6_has_15 : zF RX6 wsX6_has 6 1 15 := ⟨RX6, TX6, 2, rfl, by decide +kernel, by decide, by decide +kernel⟩
theorem zF_X6_has_9 : zF RX6 wsX6_has 6 0 9 := ⟨RX6, TX6, 2, rfl, by decide +kernel, by decide, by decide +kernel⟩
set_option maxRecDepth 100000 in
/-- whether there is such a place -/
theorem c_X6_has (l : Launch) (D : zD) (base : Nat) (r N : Nat) (n : Int) (f : Int → Int) (i : Int) (hi : rg i) : Ct l yX6_has wsX6_has rm_X6_has D base [.ref r, .int (J i)] (fun H => RowAt D r N n f H) (PI (fun H v H1 => H = H1 ∧ (if 0 ≤ i ∧ i < n then 1 else 0) = v)) := by
  refine Ct.of (own := RX6) (cc := cX6_has) (maxL := 2) (by decide +kernel) rfl (Nat.le_of_ble_eq_true rfl) rfl ?_
  intro K H X R hH hnm hP
  show G K 0 0 H 0 [(0, .ref r), (1, .int (J i))] []
  have hR := hP
  obtain ⟨hO, ⟨g, hA, hg⟩, hn0, hnN, hN⟩ := hP
  refine g_iload_n (pc := 0) (pl := 1) X dX6_has_0 rfl ?_
  refine g_if_lt (pc := 1) X 25 dX6_has_1 (by decide) (by omega) (fun c1 => ?_) (fun c1 => ?_)
  · skip
    refine g_iconst (pc := 25) X dX6_has_25 ?_
    refine g_zret (pc := 26) X R hH (by first | exact Or.inl rfl | exact Or.inr rfl | omega) dX6_has_26 ?_
    refine ⟨rfl, ?_⟩
    split <;> first | rfl | (exfalso; omega)
  · skip
    refine g_iload_n (pc := 4) (pl := 1) X dX6_has_4 rfl ?_
    refine g_aload_n (pc := 5) (pl := 0) X dX6_has_5 rfl ?_
    refine g_getf (pc := 6) X zF_X6_has_15 hO rfl dX6_has_6 ?_
    refine g_icmp_ge (pc := 9) X 25 dX6_has_9 (by decide) (by omega) (by omega) (fun c9 => ?_) (fun c9 => ?_)
    · skip
      refine g_iconst (pc := 25) X dX6_has_25 ?_
      refine g_zret (pc := 26) X R hH (by first | exact Or.inl rfl | exact Or.inr rfl | omega) dX6_has_26 ?_
      refine ⟨rfl, ?_⟩
      split <;> first | rfl | (exfalso; omega)
    · skip
      refine g_iload_n (pc := 12) (pl := 1) X dX6_has_12 rfl ?_
      refine g_aload_n (pc := 13) (pl := 0) X dX6_has_13 rfl ?_
      refine g_getf (pc := 14) X zF_X6_has_9 hO rfl dX6_has_14 ?_
      refine g_alen (pc := 17) X hA dX6_has_17 ?_
      refine g_icmp_ge (pc := 18) X 25 dX6_has_18 (by decide) (by omega) (by omega) (fun c18 => ?_) (fun c18 => ?_)
      · skip
        refine g_iconst (pc := 25) X dX6_has_25 ?_
        refine g_zret (pc := 26) X R hH (by first | exact Or.inl rfl | exact Or.inr rfl | omega) dX6_has_26 ?_
        refine ⟨rfl, ?_⟩
        split <;> first | rfl | (exfalso; omega)
      · skip
        refine g_iconst (pc := 21) X dX6_has_21 ?_
        refine g_goto (pc := 22) X 26 dX6_has_22 (by decide) ?_
        refine g_zret (pc := 26) X R hH (by first | exact Or.inl rfl | exact Or.inr rfl | omega) dX6_has_26 ?_
        refine ⟨rfl, ?_⟩
        split <;> first | rfl | (exfalso; omega)

abbrev rm_X6_item : Room := { frames := 0, cells := 0, slots := 0, locals := 0 }
theorem zF_X6_item_15 : zF RX6 wsX6_item 6 1 15 := ⟨RX6, TX6, 2, rfl, by decide +kernel, by decide, by decide +kernel⟩
theorem zF_X6_item_9 : zF RX6 wsX6_item 6 0 9 := ⟨RX6, TX6, 2, rfl, by decide +kernel, by decide, by decide +kernel⟩
set_option maxRecDepth 100000 in
/-- what is there, or -1 -/
theorem c_X6_item (l : Launch) (D : zD) (base : Nat) (r N : Nat) (n : Int) (f : Int → Int) (i : Int) (hi : rg i) : Ct l yX6_item wsX6_item rm_X6_item D base [.ref r, .int (J i)] (fun H => RowAt D r N n f H) (PI (fun H v H1 => H = H1 ∧ itm n f i = v)) := by
  refine Ct.of (own := RX6) (cc := cX6_item) (maxL := 2) (by decide +kernel) rfl (Nat.le_of_ble_eq_true rfl) rfl ?_
  intro K H X R hH hnm hP
  show G K 0 0 H 0 [(0, .ref r), (1, .int (J i))] []
  have hR := hP
  obtain ⟨hO, ⟨g, hA, hg⟩, hn0, hnN, hN⟩ := hP
  refine g_iload_n (pc := 0) (pl := 1) X dX6_item_0 rfl ?_
  refine g_if_lt (pc := 1) X 30 dX6_item_1 (by decide) (by omega) (fun c1 => ?_) (fun c1 => ?_)
  · skip
    refine g_iconst (pc := 30) X dX6_item_30 ?_
    refine g_iret (pc := 31) X R hH dX6_item_31 ?_
    refine ⟨rfl, ?_⟩
    unfold itm
    split <;> first | rfl | (exfalso; omega) | (exact (hg _ (by omega) (by omega)).symm)
  · skip
    refine g_iload_n (pc := 4) (pl := 1) X dX6_item_4 rfl ?_
    refine g_aload_n (pc := 5) (pl := 0) X dX6_item_5 rfl ?_
    refine g_getf (pc := 6) X zF_X6_item_15 hO rfl dX6_item_6 ?_
    refine g_icmp_ge (pc := 9) X 30 dX6_item_9 (by decide) (by omega) (by omega) (fun c9 => ?_) (fun c9 => ?_)
    · skip
      refine g_iconst (pc := 30) X dX6_item_30 ?_
      refine g_iret (pc := 31) X R hH dX6_item_31 ?_
      refine ⟨rfl, ?_⟩
      unfold itm
      split <;> first | rfl | (exfalso; omega) | (exact (hg _ (by omega) (by omega)).symm)
    · skip
      refine g_iload_n (pc := 12) (pl := 1) X dX6_item_12 rfl ?_
      refine g_aload_n (pc := 13) (pl := 0) X dX6_item_13 rfl ?_
      refine g_getf (pc := 14) X zF_X6_item_9 hO rfl dX6_item_14 ?_
      refine g_alen (pc := 17) X hA dX6_item_17 ?_
      refine g_icmp_ge (pc := 18) X 30 dX6_item_18 (by decide) (by omega) (by omega) (fun c18 => ?_) (fun c18 => ?_)
      · skip
        refine g_iconst (pc := 30) X dX6_item_30 ?_
        refine g_iret (pc := 31) X R hH dX6_item_31 ?_
        refine ⟨rfl, ?_⟩
        unfold itm
        split <;> first | rfl | (exfalso; omega) | (exact (hg _ (by omega) (by omega)).symm)
      · skip
        refine g_aload_n (pc := 21) (pl := 0) X dX6_item_21 rfl ?_
        refine g_getf (pc := 22) X zF_X6_item_9 hO rfl dX6_item_22 ?_
        refine g_iload_n (pc := 25) (pl := 1) X dX6_item_25 rfl ?_
        refine g_iaload (pc := 26) X hA (by omega) (by omega) (by omega) dX6_item_26 ?_
        refine g_goto (pc := 27) X 31 dX6_item_27 (by decide) ?_
        refine g_iret (pc := 31) X R hH dX6_item_31 ?_
        refine ⟨rfl, ?_⟩
        unfold itm
        split <;> first | rfl | (exfalso; omega) | (exact (hg _ (by omega) (by omega)).symm)

abbrev rm_X6_replace : Room := { frames := 1, cells := 0, slots := 0, locals := 21 }
theorem cs_X6_replace_19 : zCV RX6 wsX6_replace 19 6 yX6_has wsX6_has cX6_has 2 (some .boolean) rm_X6_replace rm_X6_has 1 := ⟨_, _, gX6_replace_X6_has, rfl, ⟨by decide +kernel, by decide +kernel, by decide +kernel⟩, ⟨Nat.le_of_ble_eq_true rfl, Nat.le_of_ble_eq_true rfl⟩, rfl, rfl⟩
theorem zF_X6_replace_9 : zF RX6 wsX6_replace 6 0 9 := ⟨RX6, TX6, 2, rfl, by decide +kernel, by decide, by decide +kernel⟩
set_option maxRecDepth 100000 in
theorem c_X6_replace (l : Launch) (D : zD) (base : Nat) (r N : Nat) (n : Int) (f : Int → Int) (i v : Int) (hq : base ≤ r) (hi : rg i) : Ct l yX6_replace wsX6_replace rm_X6_replace D base [.ref r, .int (J i), .int (J v)] (fun H => RowAt D r N n f H) (PV (fun H H1 => RowAt D r N n (up f i v) H1 ∧ Fr (Iv r (r + 2)) 0 H H1)) := by
  refine Ct.of (own := RX6) (cc := cX6_replace) (maxL := 3) (by decide +kernel) rfl (Nat.le_of_ble_eq_true rfl) rfl ?_
  intro K H X R hH hnm hP
  show G K 0 0 H 0 [(0, .ref r), (1, .int (J i)), (2, .int (J v))] []
  have hR := hP
  obtain ⟨hO, ⟨g, hA, hg⟩, hn0, hnN, hN⟩ := hP
  refine g_aload_n (pc := 0) (pl := 0) X dX6_replace_0 rfl ?_
  refine g_iload_n (pc := 1) (pl := 1) X dX6_replace_1 rfl ?_
  refine gVi (pc := 2) (n2 := 0) (k2 := 0) X cs_X6_replace_19 (c_X6_has (zl K) D base r N n f i (by omega)) rfl hO (by omega) hR rfl ⟨Nat.le_of_ble_eq_true rfl, Nat.le_of_ble_eq_true rfl⟩ dX6_replace_2 (Nat.le_of_ble_eq_true rfl) rfl rfl (fun v2 H1 hp2 hs2 => ?_)
  obtain ⟨rfl, rfl⟩ := hp2
  refine g_if_eq (pc := 5) X 15 dX6_replace_5 (by decide) (zbr _) (fun c5 => ?_) (fun c5 => ?_)
  · skip
    replace c5 := zb0 c5
    refine g_vret (pc := 15) X R hH dX6_replace_15 ?_
    refine ⟨⟨hO, ⟨_, hA, fun j h0 h1 => ?_⟩, ⟨hn0, hnN, hN⟩⟩, (Fr.refl _ _)⟩
    simp only [up]
    (repeat' split) <;> first | rfl | (exfalso; omega) | (congr 1 <;> omega) | (rw [hg _ (by omega) (by omega)] <;> first | rfl | (congr 1 <;> omega))
  · skip
    replace c5 := zb1 c5
    refine g_aload_n (pc := 8) (pl := 0) X dX6_replace_8 rfl ?_
    refine g_getf (pc := 9) X zF_X6_replace_9 hO rfl dX6_replace_9 ?_
    refine g_iload_n (pc := 12) (pl := 1) X dX6_replace_12 rfl ?_
    refine g_iload_n (pc := 13) (pl := 2) X dX6_replace_13 rfl ?_
    refine g_iastore (pc := 14) X hA (by omega) (by omega) (by omega) (by omega) dX6_replace_14 (fun H1 hAn hf1 => ?_)
    replace hO := hO.fr hf1 (by omega)
    replace hA := hAn
    clear hAn
    refine g_vret (pc := 15) X R hH dX6_replace_15 ?_
    refine ⟨⟨hO, ⟨_, hA, fun j h0 h1 => ?_⟩, ⟨hn0, hnN, hN⟩⟩, (hf1.wide (by omega) (by omega))⟩
    simp only [up]
    (repeat' split) <;> first | rfl | (exfalso; omega) | (congr 1 <;> omega) | (rw [hg _ (by omega) (by omega)] <;> first | rfl | (congr 1 <;> omega))

abbrev rm_X6_insert : Room := { frames := 1, cells := 0, slots := 0, locals := 60 }
theorem zF_X6_insert_15 : zF RX6 wsX6_insert 6 1 15 := ⟨RX6, TX6, 2, rfl, by decide +kernel, by decide, by decide +kernel⟩
theorem zF_X6_insert_9 : zF RX6 wsX6_insert 6 0 9 := ⟨RX6, TX6, 2, rfl, by decide +kernel, by decide, by decide +kernel⟩
theorem zW_X6_insert_15 : zW RX6 wsX6_insert 6 1 15 false (tyX6 1) := ⟨RX6, TX6, 2, tyX6, rfl, by decide +kernel, by decide, by decide +kernel, tyX6_ok, nmX6, rfl, rfl, rfl⟩
set_option maxRecDepth 100000 in
theorem c_X6_insert (l : Launch) (D : zD) (base : Nat) (r N : Nat) (n : Int) (f : Int → Int) (i v : Int) (hq : base ≤ r) (hi : 0 ≤ i ∧ i ≤ n ∧ n < N) : Ct l yX6_insert wsX6_insert rm_X6_insert D base [.ref r, .int (J i), .int (J v)] (fun H => RowAt D r N n f H) (PV (fun H H1 => RowAt D r N (n + 1) (ins f i v) H1 ∧ Fr (Iv r (r + 2)) 0 H H1)) := by
  refine Ct.of (own := RX6) (cc := cX6_insert) (maxL := 3) (by decide +kernel) rfl (Nat.le_of_ble_eq_true rfl) rfl ?_
  intro K H X R hH hnm hP
  show G K 0 0 H 0 [(0, .ref r), (1, .int (J i)), (2, .int (J v))] []
  have hR := hP
  obtain ⟨hO, ⟨g, hA, hg⟩, hn0, hnN, hN⟩ := hP
  refine g_iload_n (pc := 0) (pl := 1) X dX6_insert_0 rfl ?_
  refine g_if_lt (pc := 1) X 24 dX6_insert_1 (by decide) (by omega) (fun c1 => ?_) (fun c1 => ?_)
  · skip
    omega
  · skip
    refine g_iload_n (pc := 4) (pl := 1) X dX6_insert_4 rfl ?_
    refine g_aload_n (pc := 5) (pl := 0) X dX6_insert_5 rfl ?_
    refine g_getf (pc := 6) X zF_X6_insert_15 hO rfl dX6_insert_6 ?_
    refine g_icmp_gt (pc := 9) X 24 dX6_insert_9 (by decide) (by omega) (by omega) (fun c9 => ?_) (fun c9 => ?_)
    · skip
      omega
    · skip
      refine g_aload_n (pc := 12) (pl := 0) X dX6_insert_12 rfl ?_
      refine g_getf (pc := 13) X zF_X6_insert_15 hO rfl dX6_insert_13 ?_
      refine g_aload_n (pc := 16) (pl := 0) X dX6_insert_16 rfl ?_
      refine g_getf (pc := 17) X zF_X6_insert_9 hO rfl dX6_insert_17 ?_
      refine g_alen (pc := 20) X hA dX6_insert_20 ?_
      refine g_icmp_lt (pc := 21) X 25 dX6_insert_21 (by decide) (by omega) (by omega) (fun c21 => ?_) (fun c21 => ?_)
      · skip
        refine g_aload_n (pc := 25) (pl := 0) X dX6_insert_25 rfl ?_
        refine g_getf (pc := 26) X zF_X6_insert_9 hO rfl dX6_insert_26 ?_
        refine g_iload_n (pc := 29) (pl := 1) X dX6_insert_29 rfl ?_
        refine g_aload_n (pc := 30) (pl := 0) X dX6_insert_30 rfl ?_
        refine g_getf (pc := 31) X zF_X6_insert_9 hO rfl dX6_insert_31 ?_
        refine g_iload_n (pc := 34) (pl := 1) X dX6_insert_34 rfl ?_
        refine g_iconst (pc := 35) X dX6_insert_35 ?_
        refine g_iadd (pc := 36) X dX6_insert_36 ?_
        refine g_aload_n (pc := 37) (pl := 0) X dX6_insert_37 rfl ?_
        refine g_getf (pc := 38) X zF_X6_insert_15 hO rfl dX6_insert_38 ?_
        refine g_iload_n (pc := 41) (pl := 1) X dX6_insert_41 rfl ?_
        refine g_isub (pc := 42) X dX6_insert_42 ?_
        refine g_copy (pc := 43) X hA hA (by omega) (by omega) (by omega) (by omega) (by omega) (by omega) (by omega) (by decide +kernel) (by decide +kernel) (by decide +kernel) (by decide +kernel) (by decide) (Nat.le_of_ble_eq_true rfl) dX6_insert_43 (fun H1 hAn hf1 => ?_)
        replace hO := hO.fr hf1 (by omega)
        replace hA := hAn
        clear hAn
        refine g_aload_n (pc := 46) (pl := 0) X dX6_insert_46 rfl ?_
        refine g_getf (pc := 47) X zF_X6_insert_9 hO rfl dX6_insert_47 ?_
        refine g_iload_n (pc := 50) (pl := 1) X dX6_insert_50 rfl ?_
        refine g_iload_n (pc := 51) (pl := 2) X dX6_insert_51 rfl ?_
        refine g_iastore (pc := 52) X hA (by omega) (by omega) (by omega) (by omega) dX6_insert_52 (fun H2 hAn hf2 => ?_)
        replace hO := hO.fr hf2 (by omega)
        replace hA := hAn
        clear hAn
        refine g_aload_n (pc := 53) (pl := 0) X dX6_insert_53 rfl ?_
        refine g_dup (pc := 54) X dX6_insert_54 rfl ?_
        refine g_getf (pc := 55) X zF_X6_insert_15 hO rfl dX6_insert_55 ?_
        refine g_iconst (pc := 58) X dX6_insert_58 ?_
        refine g_iadd (pc := 59) X dX6_insert_59 ?_
        refine g_putf (pc := 60) X zW_X6_insert_15 hO (by omega) rfl rfl rfl dX6_insert_60 (fun H3 hOn hf3 => ?_)
        replace hA := hA.fr hf3 (by omega)
        replace hO : Ob D r 6 [.ref (r + 1), .int (J (n + 1))] H3 := hOn
        clear hOn
        refine g_vret (pc := 63) X R hH dX6_insert_63 ?_
        refine ⟨⟨hO, ⟨_, hA, fun j h0 h1 => ?_⟩, ⟨by omega, by omega, hN⟩⟩, (Fr.trans (hf1.wide (by omega) (by omega)) (Fr.trans (hf2.wide (by omega) (by omega)) (hf3.wide (by omega) (by omega))))⟩
        simp only [up, cpy, ins]
        (repeat' split) <;> first | rfl | (exfalso; omega) | (congr 1 <;> omega) | (rw [hg _ (by omega) (by omega)] <;> first | rfl | (congr 1 <;> omega))
      · skip
        omega

abbrev rm_X6_add : Room := { frames := 0, cells := 0, slots := 0, locals := 0 }
theorem zF_X6_add_15 : zF RX6 wsX6_add 6 1 15 := ⟨RX6, TX6, 2, rfl, by decide +kernel, by decide, by decide +kernel⟩
theorem zF_X6_add_9 : zF RX6 wsX6_add 6 0 9 := ⟨RX6, TX6, 2, rfl, by decide +kernel, by decide, by decide +kernel⟩
theorem zW_X6_add_15 : zW RX6 wsX6_add 6 1 15 false (tyX6 1) := ⟨RX6, TX6, 2, tyX6, rfl, by decide +kernel, by decide, by decide +kernel, tyX6_ok, nmX6, rfl, rfl, rfl⟩
set_option maxRecDepth 100000 in
theorem c_X6_add (l : Launch) (D : zD) (base : Nat) (r N : Nat) (n : Int) (f : Int → Int) (v : Int) (hq : base ≤ r) (hi : n < N) : Ct l yX6_add wsX6_add rm_X6_add D base [.ref r, .int (J v)] (fun H => RowAt D r N n f H) (PV (fun H H1 => RowAt D r N (n + 1) (up f n v) H1 ∧ Fr (Iv r (r + 2)) 0 H H1)) := by
  refine Ct.of (own := RX6) (cc := cX6_add) (maxL := 2) (by decide +kernel) rfl (Nat.le_of_ble_eq_true rfl) rfl ?_
  intro K H X R hH hnm hP
  show G K 0 0 H 0 [(0, .ref r), (1, .int (J v))] []
  have hR := hP
  obtain ⟨hO, ⟨g, hA, hg⟩, hn0, hnN, hN⟩ := hP
  refine g_aload_n (pc := 0) (pl := 0) X dX6_add_0 rfl ?_
  refine g_getf (pc := 1) X zF_X6_add_15 hO rfl dX6_add_1 ?_
  refine g_if_lt (pc := 4) X 39 dX6_add_4 (by decide) (by omega) (fun c4 => ?_) (fun c4 => ?_)
  · skip
    omega
  · skip
    refine g_aload_n (pc := 7) (pl := 0) X dX6_add_7 rfl ?_
    refine g_getf (pc := 8) X zF_X6_add_15 hO rfl dX6_add_8 ?_
    refine g_aload_n (pc := 11) (pl := 0) X dX6_add_11 rfl ?_
    refine g_getf (pc := 12) X zF_X6_add_9 hO rfl dX6_add_12 ?_
    refine g_alen (pc := 15) X hA dX6_add_15 ?_
    refine g_icmp_ge (pc := 16) X 39 dX6_add_16 (by decide) (by omega) (by omega) (fun c16 => ?_) (fun c16 => ?_)
    · skip
      omega
    · skip
      refine g_aload_n (pc := 19) (pl := 0) X dX6_add_19 rfl ?_
      refine g_getf (pc := 20) X zF_X6_add_9 hO rfl dX6_add_20 ?_
      refine g_aload_n (pc := 23) (pl := 0) X dX6_add_23 rfl ?_
      refine g_getf (pc := 24) X zF_X6_add_15 hO rfl dX6_add_24 ?_
      refine g_iload_n (pc := 27) (pl := 1) X dX6_add_27 rfl ?_
      refine g_iastore (pc := 28) X hA (by omega) (by omega) (by omega) (by omega) dX6_add_28 (fun H1 hAn hf1 => ?_)
      replace hO := hO.fr hf1 (by omega)
      replace hA := hAn
      clear hAn
      refine g_aload_n (pc := 29) (pl := 0) X dX6_add_29 rfl ?_
      refine g_dup (pc := 30) X dX6_add_30 rfl ?_
      refine g_getf (pc := 31) X zF_X6_add_15 hO rfl dX6_add_31 ?_
      refine g_iconst (pc := 34) X dX6_add_34 ?_
      refine g_iadd (pc := 35) X dX6_add_35 ?_
      refine g_putf (pc := 36) X zW_X6_add_15 hO (by omega) rfl rfl rfl dX6_add_36 (fun H2 hOn hf2 => ?_)
      replace hA := hA.fr hf2 (by omega)
      replace hO : Ob D r 6 [.ref (r + 1), .int (J (n + 1))] H2 := hOn
      clear hOn
      refine g_vret (pc := 39) X R hH dX6_add_39 ?_
      refine ⟨⟨hO, ⟨_, hA, fun j h0 h1 => ?_⟩, ⟨by omega, by omega, hN⟩⟩, (Fr.trans (hf1.wide (by omega) (by omega)) (hf2.wide (by omega) (by omega)))⟩
      simp only [up]
      (repeat' split) <;> first | rfl | (exfalso; omega) | (congr 1 <;> omega) | (rw [hg _ (by omega) (by omega)] <;> first | rfl | (congr 1 <;> omega))

abbrev rm_X6_clear : Room := { frames := 0, cells := 0, slots := 0, locals := 0 }
theorem zW_X6_clear_15 : zW RX6 wsX6_clear 6 1 15 false (tyX6 1) := ⟨RX6, TX6, 2, tyX6, rfl, by decide +kernel, by decide, by decide +kernel, tyX6_ok, nmX6, rfl, rfl, rfl⟩
set_option maxRecDepth 100000 in
theorem c_X6_clear (l : Launch) (D : zD) (base : Nat) (r N : Nat) (n : Int) (f : Int → Int) (hq : base ≤ r) : Ct l yX6_clear wsX6_clear rm_X6_clear D base [.ref r] (fun H => RowAt D r N n f H) (PV (fun H H1 => RowAt D r N 0 f H1 ∧ Fr (Iv r (r + 2)) 0 H H1)) := by
  refine Ct.of (own := RX6) (cc := cX6_clear) (maxL := 1) (by decide +kernel) rfl (Nat.le_of_ble_eq_true rfl) rfl ?_
  intro K H X R hH hnm hP
  show G K 0 0 H 0 [(0, .ref r)] []
  have hR := hP
  obtain ⟨hO, ⟨g, hA, hg⟩, hn0, hnN, hN⟩ := hP
  refine g_aload_n (pc := 0) (pl := 0) X dX6_clear_0 rfl ?_
  refine g_iconst (pc := 1) X dX6_clear_1 ?_
  refine g_putf (pc := 2) X zW_X6_clear_15 hO (by omega) rfl rfl rfl dX6_clear_2 (fun H1 hOn hf1 => ?_)
  replace hA := hA.fr hf1 (by omega)
  replace hO : Ob D r 6 [.ref (r + 1), .int (J 0)] H1 := hOn
  clear hOn
  refine g_vret (pc := 5) X R hH dX6_clear_5 ?_
  exact ⟨⟨hO, ⟨_, hA, fun j h0 h1 => by omega⟩, ⟨by omega, by omega, hN⟩⟩, (hf1.wide (by omega) (by omega))⟩

abbrev rm_X6_cut : Room := { frames := 1, cells := 0, slots := 0, locals := 60 }
theorem cs_X6_cut_19 : zCV RX6 wsX6_cut 19 6 yX6_has wsX6_has cX6_has 2 (some .boolean) rm_X6_cut rm_X6_has 1 := ⟨_, _, gX6_cut_X6_has, rfl, ⟨by decide +kernel, by decide +kernel, by decide +kernel⟩, ⟨Nat.le_of_ble_eq_true rfl, Nat.le_of_ble_eq_true rfl⟩, rfl, rfl⟩
theorem zF_X6_cut_9 : zF RX6 wsX6_cut 6 0 9 := ⟨RX6, TX6, 2, rfl, by decide +kernel, by decide, by decide +kernel⟩
theorem zF_X6_cut_15 : zF RX6 wsX6_cut 6 1 15 := ⟨RX6, TX6, 2, rfl, by decide +kernel, by decide, by decide +kernel⟩
theorem zW_X6_cut_15 : zW RX6 wsX6_cut 6 1 15 false (tyX6 1) := ⟨RX6, TX6, 2, tyX6, rfl, by decide +kernel, by decide, by decide +kernel, tyX6_ok, nmX6, rfl, rfl, rfl⟩
set_option maxRecDepth 100000 in
theorem c_X6_cut (l : Launch) (D : zD) (base : Nat) (r N : Nat) (n : Int) (f : Int → Int) (a b : Int) (hq : base ≤ r) (hi : 0 ≤ a ∧ a ≤ b ∧ b < n) : Ct l yX6_cut wsX6_cut rm_X6_cut D base [.ref r, .int (J a), .int (J b)] (fun H => RowAt D r N n f H) (PV (fun H H1 => RowAt D r N (n - (b - a + 1)) (del f a b) H1 ∧ Fr (Iv r (r + 2)) 0 H H1)) := by
  refine Ct.of (own := RX6) (cc := cX6_cut) (maxL := 3) (by decide +kernel) rfl (Nat.le_of_ble_eq_true rfl) rfl ?_
  intro K H X R hH hnm hP
  show G K 0 0 H 0 [(0, .ref r), (1, .int (J a)), (2, .int (J b))] []
  have hbd := hP.bd
  have hR := hP
  obtain ⟨hO, ⟨g, hA, hg⟩, hn0, hnN, hN⟩ := hP
  refine g_aload_n (pc := 0) (pl := 0) X dX6_cut_0 rfl ?_
  refine g_iload_n (pc := 1) (pl := 1) X dX6_cut_1 rfl ?_
  refine gVi (pc := 2) (n2 := 0) (k2 := 0) X cs_X6_cut_19 (c_X6_has (zl K) D base r N n f a (by omega)) rfl hO (by omega) hR rfl ⟨Nat.le_of_ble_eq_true rfl, Nat.le_of_ble_eq_true rfl⟩ dX6_cut_2 (Nat.le_of_ble_eq_true rfl) rfl rfl (fun v2 H1 hp2 hs2 => ?_)
  obtain ⟨rfl, rfl⟩ := hp2
  refine g_if_eq (pc := 5) X 21 dX6_cut_5 (by decide) (zbr _) (fun c5 => ?_) (fun c5 => ?_)
  · skip
    replace c5 := zb0 c5
    omega
  · skip
    replace c5 := zb1 c5
    refine g_aload_n (pc := 8) (pl := 0) X dX6_cut_8 rfl ?_
    refine g_iload_n (pc := 9) (pl := 2) X dX6_cut_9 rfl ?_
    refine gVi (pc := 10) (n2 := 0) (k2 := 0) X cs_X6_cut_19 (c_X6_has (zl K) D base r N n f b (by omega)) rfl hO (by omega) hR rfl ⟨Nat.le_of_ble_eq_true rfl, Nat.le_of_ble_eq_true rfl⟩ dX6_cut_10 (Nat.le_of_ble_eq_true rfl) rfl rfl (fun v10 H1 hp10 hs10 => ?_)
    obtain ⟨rfl, rfl⟩ := hp10
    refine g_if_eq (pc := 13) X 21 dX6_cut_13 (by decide) (zbr _) (fun c13 => ?_) (fun c13 => ?_)
    · skip
      replace c13 := zb0 c13
      omega
    · skip
      replace c13 := zb1 c13
      refine g_iload_n (pc := 16) (pl := 2) X dX6_cut_16 rfl ?_
      refine g_iload_n (pc := 17) (pl := 1) X dX6_cut_17 rfl ?_
      refine g_icmp_ge (pc := 18) X 22 dX6_cut_18 (by decide) (by omega) (by omega) (fun c18 => ?_) (fun c18 => ?_)
      · skip
        refine g_aload_n (pc := 22) (pl := 0) X dX6_cut_22 rfl ?_
        refine g_getf (pc := 23) X zF_X6_cut_9 hO rfl dX6_cut_23 ?_
        refine g_iload_n (pc := 26) (pl := 2) X dX6_cut_26 rfl ?_
        refine g_iconst (pc := 27) X dX6_cut_27 ?_
        refine g_iadd (pc := 28) X dX6_cut_28 ?_
        refine g_aload_n (pc := 29) (pl := 0) X dX6_cut_29 rfl ?_
        refine g_getf (pc := 30) X zF_X6_cut_9 hO rfl dX6_cut_30 ?_
        refine g_iload_n (pc := 33) (pl := 1) X dX6_cut_33 rfl ?_
        refine g_aload_n (pc := 34) (pl := 0) X dX6_cut_34 rfl ?_
        refine g_getf (pc := 35) X zF_X6_cut_15 hO rfl dX6_cut_35 ?_
        refine g_iload_n (pc := 38) (pl := 2) X dX6_cut_38 rfl ?_
        refine g_isub (pc := 39) X dX6_cut_39 ?_
        refine g_iconst (pc := 40) X dX6_cut_40 ?_
        refine g_isub (pc := 41) X dX6_cut_41 ?_
        refine g_copy (pc := 42) X hA hA (by omega) (by omega) (by omega) (by omega) (by omega) (by omega) (by omega) (by decide +kernel) (by decide +kernel) (by decide +kernel) (by decide +kernel) (by decide) (Nat.le_of_ble_eq_true rfl) dX6_cut_42 (fun H1 hAn hf1 => ?_)
        replace hO := hO.fr hf1 (by omega)
        replace hA := hAn
        clear hAn
        refine g_aload_n (pc := 45) (pl := 0) X dX6_cut_45 rfl ?_
        refine g_dup (pc := 46) X dX6_cut_46 rfl ?_
        refine g_getf (pc := 47) X zF_X6_cut_15 hO rfl dX6_cut_47 ?_
        refine g_iload_n (pc := 50) (pl := 2) X dX6_cut_50 rfl ?_
        refine g_iload_n (pc := 51) (pl := 1) X dX6_cut_51 rfl ?_
        refine g_isub (pc := 52) X dX6_cut_52 ?_
        refine g_iconst (pc := 53) X dX6_cut_53 ?_
        refine g_iadd (pc := 54) X dX6_cut_54 ?_
        refine g_isub (pc := 55) X dX6_cut_55 ?_
        refine g_putf (pc := 56) X zW_X6_cut_15 hO (by omega) rfl rfl rfl dX6_cut_56 (fun H2 hOn hf2 => ?_)
        replace hA := hA.fr hf2 (by omega)
        replace hO : Ob D r 6 [.ref (r + 1), .int (J (n - ((b - a) + 1)))] H2 := hOn
        clear hOn
        refine g_vret (pc := 59) X R hH dX6_cut_59 ?_
        refine ⟨⟨hO, ⟨_, hA, fun j h0 h1 => ?_⟩, ⟨by omega, by omega, hN⟩⟩, (Fr.trans (hf1.wide (by omega) (by omega)) (hf2.wide (by omega) (by omega)))⟩
        simp only [cpy, del]
        (repeat' split) <;> first | rfl | (exfalso; omega) | (congr 1 <;> omega) | (rw [hg _ (by omega) (by omega)] <;> first | rfl | (congr 1 <;> omega))
      · skip
        omega

abbrev rm_X6_turn : Room := { frames := 1, cells := 0, slots := 0, locals := 21 }
theorem cs_X6_turn_19 : zCV RX6 wsX6_turn 19 6 yX6_has wsX6_has cX6_has 2 (some .boolean) rm_X6_turn rm_X6_has 1 := ⟨_, _, gX6_turn_X6_has, rfl, ⟨by decide +kernel, by decide +kernel, by decide +kernel⟩, ⟨Nat.le_of_ble_eq_true rfl, Nat.le_of_ble_eq_true rfl⟩, rfl, rfl⟩
theorem zF_X6_turn_9 : zF RX6 wsX6_turn 6 0 9 := ⟨RX6, TX6, 2, rfl, by decide +kernel, by decide, by decide +kernel⟩
set_option maxRecDepth 100000 in
theorem c_X6_turn (l : Launch) (D : zD) (base : Nat) (r N : Nat) (n : Int) (f : Int → Int) (a b : Int) (hq : base ≤ r) (hi : 0 ≤ a ∧ b < n ∧ a ≤ b + 1) : Ct l yX6_turn wsX6_turn rm_X6_turn D base [.ref r, .int (J a), .int (J b)] (fun H => RowAt D r N n f H) (PV (fun H H1 => RowAt D r N n (rev f a b) H1 ∧ Fr (Iv r (r + 2)) 0 H H1)) := by
  refine Ct.of (own := RX6) (cc := cX6_turn) (maxL := 6) (by decide +kernel) rfl (Nat.le_of_ble_eq_true rfl) rfl ?_
  intro K H X R hH hnm hP
  show G K 0 0 H 0 [(0, .ref r), (1, .int (J a)), (2, .int (J b))] []
  have hbd := hP.bd
  refine g_iload_n (pc := 0) (pl := 1) X dX6_turn_0 rfl ?_
  refine g_istore_n (pc := 1) (lv' := [(3, _), (0, _), (1, _), (2, _)]) X dX6_turn_1 (by decide) rfl ?_
  refine g_iload_n (pc := 2) (pl := 3) X dX6_turn_2 rfl ?_
  refine g_istore (pc := 3) (lv' := [(4, _), (3, _), (0, _), (1, _), (2, _)]) X dX6_turn_3 (by decide) rfl ?_
  have hL5 : ∀ (fu : Nat) (lo hi : Int) (Hx : Heap), (hi + 1 - lo).toNat < fu → (lo + hi = a + b ∧ a ≤ lo ∧ lo ≤ hi + 1) → (RowAt D r N n (swp f a b lo hi) Hx) → (Fr (Iv r (r + 2)) 0 H Hx) → G K 0 0 Hx 5 [(0, .ref r), (3, .int (J lo)), (4, .int (J hi))] [] := by
    intro fu
    induction fu with
    | zero => intro lo hi Hx hm; exact absurd hm (Nat.not_lt_zero _)
    | succ fu ih5 =>
      intro lo hi Hx hm h1 h2 h3
      have hR := h2
      obtain ⟨hO, ⟨g, hA, hg⟩, hn0, hnN, hN⟩ := h2
      refine g_iload_n (pc := 5) (pl := 1) X dX6_turn_5 rfl ?_
      refine g_iload (pc := 6) (pl := 2) X dX6_turn_6 rfl ?_
      refine g_icmp_ge (pc := 8) X 67 dX6_turn_8 (by decide) (by omega) (by omega) (fun c8 => ?_) (fun c8 => ?_)
      · skip
        refine g_vret (pc := 67) X R hH dX6_turn_67 ?_
        exact ⟨swp_end (f := f) (a := a) (b := b) (lo := lo) (hi := hi) (by omega) (by omega) (by omega) (by omega) ▸ hR, h3⟩
      · skip
        refine g_aload_n (pc := 11) (pl := 0) X dX6_turn_11 rfl ?_
        refine g_iload_n (pc := 12) (pl := 1) X dX6_turn_12 rfl ?_
        refine gVi (pc := 13) (n2 := 0) (k2 := 0) X cs_X6_turn_19 (c_X6_has (zl K) D base r N n (swp f a b lo hi) lo (by omega)) rfl hO (by omega) hR rfl ⟨Nat.le_of_ble_eq_true rfl, Nat.le_of_ble_eq_true rfl⟩ dX6_turn_13 (Nat.le_of_ble_eq_true rfl) rfl rfl (fun v13 H1 hp13 hs13 => ?_)
        obtain ⟨rfl, rfl⟩ := hp13
        refine g_if_eq (pc := 16) X 67 dX6_turn_16 (by decide) (zbr _) (fun c16 => ?_) (fun c16 => ?_)
        · skip
          replace c16 := zb0 c16
          omega
        · skip
          replace c16 := zb1 c16
          refine g_aload_n (pc := 19) (pl := 0) X dX6_turn_19 rfl ?_
          refine g_iload (pc := 20) (pl := 2) X dX6_turn_20 rfl ?_
          refine gVi (pc := 22) (n2 := 0) (k2 := 0) X cs_X6_turn_19 (c_X6_has (zl K) D base r N n (swp f a b lo hi) hi (by omega)) rfl hO (by omega) hR rfl ⟨Nat.le_of_ble_eq_true rfl, Nat.le_of_ble_eq_true rfl⟩ dX6_turn_22 (Nat.le_of_ble_eq_true rfl) rfl rfl (fun v22 H1 hp22 hs22 => ?_)
          obtain ⟨rfl, rfl⟩ := hp22
          refine g_if_eq (pc := 25) X 67 dX6_turn_25 (by decide) (zbr _) (fun c25 => ?_) (fun c25 => ?_)
          · skip
            replace c25 := zb0 c25
            omega
          · skip
            replace c25 := zb1 c25
            refine g_aload_n (pc := 28) (pl := 0) X dX6_turn_28 rfl ?_
            refine g_getf (pc := 29) X zF_X6_turn_9 hO rfl dX6_turn_29 ?_
            refine g_iload_n (pc := 32) (pl := 1) X dX6_turn_32 rfl ?_
            refine g_iaload (pc := 33) X hA (by omega) (by omega) (by omega) dX6_turn_33 ?_
            refine g_istore (pc := 34) (lv' := [(5, _), (0, _), (3, _), (4, _)]) X dX6_turn_34 (by decide) rfl ?_
            refine g_aload_n (pc := 36) (pl := 1) X dX6_turn_36 rfl ?_
            refine g_getf (pc := 37) X zF_X6_turn_9 hO rfl dX6_turn_37 ?_
            refine g_iload_n (pc := 40) (pl := 2) X dX6_turn_40 rfl ?_
            refine g_aload_n (pc := 41) (pl := 1) X dX6_turn_41 rfl ?_
            refine g_getf (pc := 42) X zF_X6_turn_9 hO rfl dX6_turn_42 ?_
            refine g_iload (pc := 45) (pl := 3) X dX6_turn_45 rfl ?_
            refine g_iaload (pc := 47) X hA (by omega) (by omega) (by omega) dX6_turn_47 ?_
            refine g_iastore (pc := 48) X hA (by omega) (by omega) (by omega) (by omega) dX6_turn_48 (fun H1 hAn hf1 => ?_)
            replace hO := hO.fr hf1 (by omega)
            replace hA := hAn
            clear hAn
            refine g_aload_n (pc := 49) (pl := 1) X dX6_turn_49 rfl ?_
            refine g_getf (pc := 50) X zF_X6_turn_9 hO rfl dX6_turn_50 ?_
            refine g_iload (pc := 53) (pl := 3) X dX6_turn_53 rfl ?_
            refine g_iload (pc := 55) (pl := 0) X dX6_turn_55 rfl ?_
            refine g_iastore (pc := 57) X hA (by omega) (by omega) (by omega) (by omega) dX6_turn_57 (fun H2 hAn hf2 => ?_)
            replace hO := hO.fr hf2 (by omega)
            replace hA := hAn
            clear hAn
            refine g_iinc (pc := 58) (pl := 2) (x := lo) (lv' := [(3, _), (5, _), (0, _), (4, _)]) X dX6_turn_58 rfl (by decide) rfl ?_
            refine g_iinc (pc := 61) (pl := 3) (x := hi) (lv' := [(4, _), (3, _), (5, _), (0, _)]) X dX6_turn_61 rfl (by decide) rfl ?_
            refine g_goto (pc := 64) X 5 dX6_turn_64 (by decide) ?_
            refine G.pick [3, 1, 0] (lv' := [(0, _), (3, _), (4, _)]) rfl ?_
            exact ih5 (lo + 1) (hi + (-1)) H2 (by omega) (by omega) ⟨hO, ⟨_, hA, swp_step hg (by omega) (by omega) (by omega) (by omega) (by omega)⟩, hn0, hnN, hN⟩ (Fr.trans (h3.wide (by omega) (by omega)) (Fr.trans (hf1.wide (by omega) (by omega)) (hf2.wide (by omega) (by omega))))
  refine G.pick [2, 1, 0] (lv' := [(0, _), (3, _), (4, _)]) rfl ?_
  exact hL5 _ a b H (Nat.lt_succ_self _) (by omega) (by rw [swp_0]; exact hP) (Fr.refl _ _)

abbrev rm_X6_exchange : Room := { frames := 2, cells := 0, slots := 0, locals := 46 }
theorem cs_X6_exchange_33 : zCV RX6 wsX6_exchange 33 6 yX6_turn wsX6_turn cX6_turn 6 none rm_X6_exchange rm_X6_turn 2 := ⟨_, _, gX6_exchange_X6_turn, rfl, ⟨by decide +kernel, by decide +kernel, by decide +kernel⟩, ⟨Nat.le_of_ble_eq_true rfl, Nat.le_of_ble_eq_true rfl⟩, rfl, rfl⟩
set_option maxRecDepth 100000 in
theorem c_X6_exchange (l : Launch) (D : zD) (base : Nat) (r N : Nat) (n : Int) (f : Int → Int) (a m b : Int) (hq : base ≤ r) (hi : 0 ≤ a ∧ b < n ∧ a ≤ m ∧ m ≤ b + 1) : Ct l yX6_exchange wsX6_exchange rm_X6_exchange D base [.ref r, .int (J a), .int (J m), .int (J b)] (fun H => RowAt D r N n f H) (PV (fun H H1 => RowAt D r N n (exch f a m b) H1 ∧ Fr (Iv r (r + 2)) 0 H H1)) := by
  refine Ct.of (own := RX6) (cc := cX6_exchange) (maxL := 4) (by decide +kernel) rfl (Nat.le_of_ble_eq_true rfl) rfl ?_
  intro K H X R hH hnm hP
  show G K 0 0 H 0 [(0, .ref r), (1, .int (J a)), (2, .int (J m)), (3, .int (J b))] []
  have hbd := hP.bd
  obtain ⟨hO, -⟩ := id hP
  refine g_aload_n (pc := 0) (pl := 0) X dX6_exchange_0 rfl ?_
  refine g_iload_n (pc := 1) (pl := 1) X dX6_exchange_1 rfl ?_
  refine g_iload_n (pc := 2) (pl := 2) X dX6_exchange_2 rfl ?_
  refine g_iconst (pc := 3) X dX6_exchange_3 ?_
  refine g_isub (pc := 4) X dX6_exchange_4 ?_
  refine gVv (pc := 5) (n2 := 0) (k2 := 0) X cs_X6_exchange_33 (c_X6_turn (zl K) D base r N n f a (m - 1) hq (by omega)) rfl hO (by omega) hP rfl ⟨Nat.le_of_ble_eq_true rfl, Nat.le_of_ble_eq_true rfl⟩ dX6_exchange_5 (Nat.le_of_ble_eq_true rfl) rfl rfl (fun H1 hp5 hs5 => ?_)
  obtain ⟨hR1, hfa⟩ := hp5
  obtain ⟨hO, -⟩ := id hR1
  refine g_aload_n (pc := 8) (pl := 0) X dX6_exchange_8 rfl ?_
  refine g_iload_n (pc := 9) (pl := 2) X dX6_exchange_9 rfl ?_
  refine g_iload_n (pc := 10) (pl := 3) X dX6_exchange_10 rfl ?_
  refine gVv (pc := 11) (n2 := 0) (k2 := 0) X cs_X6_exchange_33 (c_X6_turn (zl K) D base r N n (rev f a (m - 1)) m b hq (by omega)) rfl hO (by omega) hR1 rfl ⟨Nat.le_of_ble_eq_true rfl, Nat.le_of_ble_eq_true rfl⟩ dX6_exchange_11 (Nat.le_of_ble_eq_true rfl) rfl rfl (fun H2 hp11 hs11 => ?_)
  obtain ⟨hR2, hfb⟩ := hp11
  obtain ⟨hO, -⟩ := id hR2
  refine g_aload_n (pc := 14) (pl := 0) X dX6_exchange_14 rfl ?_
  refine g_iload_n (pc := 15) (pl := 1) X dX6_exchange_15 rfl ?_
  refine g_iload_n (pc := 16) (pl := 3) X dX6_exchange_16 rfl ?_
  refine gVv (pc := 17) (n2 := 0) (k2 := 0) X cs_X6_exchange_33 (c_X6_turn (zl K) D base r N n (rev (rev f a (m - 1)) m b) a b hq (by omega)) rfl hO (by omega) hR2 rfl ⟨Nat.le_of_ble_eq_true rfl, Nat.le_of_ble_eq_true rfl⟩ dX6_exchange_17 (Nat.le_of_ble_eq_true rfl) rfl rfl (fun H3 hp17 hs17 => ?_)
  obtain ⟨hR3, hfc⟩ := hp17
  refine g_vret (pc := 20) X R hH dX6_exchange_20 ?_
  exact ⟨exch_rev f (a := a) (m := m) (b := b) (by omega) (by omega) ▸ hR3, Fr.trans0 hfa (Fr.trans0 hfb hfc)⟩

abbrev rm_X6_shift : Room := { frames := 3, cells := 0, slots := 0, locals := 69 }
theorem cs_X6_shift_29 : zCV RX6 wsX6_shift 29 6 yX6_exchange wsX6_exchange cX6_exchange 4 none rm_X6_shift rm_X6_exchange 3 := ⟨_, _, gX6_shift_X6_exchange, rfl, ⟨by decide +kernel, by decide +kernel, by decide +kernel⟩, ⟨Nat.le_of_ble_eq_true rfl, Nat.le_of_ble_eq_true rfl⟩, rfl, rfl⟩
set_option maxRecDepth 100000 in
theorem c_X6_shift (l : Launch) (D : zD) (base : Nat) (r N : Nat) (n : Int) (f : Int → Int) (a b p : Int) (hq : base ≤ r) (hi : 0 ≤ a ∧ a ≤ b ∧ b < n ∧ 0 ≤ p ∧ p + (b - a + 1) ≤ n) : Ct l yX6_shift wsX6_shift rm_X6_shift D base [.ref r, .int (J a), .int (J b), .int (J p)] (fun H => RowAt D r N n f H) (PV (fun H H1 => RowAt D r N n (mvf f a b p) H1 ∧ Fr (Iv r (r + 2)) 0 H H1)) := by
  refine Ct.of (own := RX6) (cc := cX6_shift) (maxL := 4) (by decide +kernel) rfl (Nat.le_of_ble_eq_true rfl) rfl ?_
  intro K H X R hH hnm hP
  show G K 0 0 H 0 [(0, .ref r), (1, .int (J a)), (2, .int (J b)), (3, .int (J p))] []
  have hbd := hP.bd
  obtain ⟨hO, -⟩ := id hP
  refine g_iload_n (pc := 0) (pl := 3) X dX6_shift_0 rfl ?_
  refine g_iload_n (pc := 1) (pl := 1) X dX6_shift_1 rfl ?_
  refine g_icmp_ge (pc := 2) X 15 dX6_shift_2 (by decide) (by omega) (by omega) (fun c2 => ?_) (fun c2 => ?_)
  · skip
    refine g_aload_n (pc := 15) (pl := 0) X dX6_shift_15 rfl ?_
    refine g_iload_n (pc := 16) (pl := 1) X dX6_shift_16 rfl ?_
    refine g_iload_n (pc := 17) (pl := 2) X dX6_shift_17 rfl ?_
    refine g_iconst (pc := 18) X dX6_shift_18 ?_
    refine g_iadd (pc := 19) X dX6_shift_19 ?_
    refine g_iload_n (pc := 20) (pl := 3) X dX6_shift_20 rfl ?_
    refine g_iload_n (pc := 21) (pl := 2) X dX6_shift_21 rfl ?_
    refine g_iadd (pc := 22) X dX6_shift_22 ?_
    refine g_iload_n (pc := 23) (pl := 1) X dX6_shift_23 rfl ?_
    refine g_isub (pc := 24) X dX6_shift_24 ?_
    refine gVv (pc := 25) (n2 := 0) (k2 := 0) X cs_X6_shift_29 (c_X6_exchange (zl K) D base r N n f a (b + 1) (p + b - a) hq (by omega)) rfl hO (by omega) hP rfl ⟨Nat.le_of_ble_eq_true rfl, Nat.le_of_ble_eq_true rfl⟩ dX6_shift_25 (Nat.le_of_ble_eq_true rfl) rfl rfl (fun H1 hp25 hs25 => ?_)
    obtain ⟨hR1, hfa⟩ := hp25
    rw [mvf_hi f (by omega) (by omega)] at hR1
    refine g_vret (pc := 28) X R hH dX6_shift_28 ?_
    exact ⟨hR1, hfa⟩
  · skip
    refine g_aload_n (pc := 5) (pl := 0) X dX6_shift_5 rfl ?_
    refine g_iload_n (pc := 6) (pl := 3) X dX6_shift_6 rfl ?_
    refine g_iload_n (pc := 7) (pl := 1) X dX6_shift_7 rfl ?_
    refine g_iload_n (pc := 8) (pl := 2) X dX6_shift_8 rfl ?_
    refine gVv (pc := 9) (n2 := 0) (k2 := 0) X cs_X6_shift_29 (c_X6_exchange (zl K) D base r N n f p a b hq (by omega)) rfl hO (by omega) hP rfl ⟨Nat.le_of_ble_eq_true rfl, Nat.le_of_ble_eq_true rfl⟩ dX6_shift_9 (Nat.le_of_ble_eq_true rfl) rfl rfl (fun H1 hp9 hs9 => ?_)
    obtain ⟨hR1, hfa⟩ := hp9
    rw [mvf_lo f (by omega) (by omega)] at hR1
    refine g_goto (pc := 12) X 28 dX6_shift_12 (by decide) ?_
    refine g_vret (pc := 28) X R hH dX6_shift_28 ?_
    exact ⟨hR1, hfa⟩

abbrev rm_X6_copyFrom : Room := { frames := 1, cells := 0, slots := 0, locals := 60 }
theorem zF_X6_copyFrom_15 : zF RX6 wsX6_copyFrom 6 1 15 := ⟨RX6, TX6, 2, rfl, by decide +kernel, by decide, by decide +kernel⟩
theorem zF_X6_copyFrom_9 : zF RX6 wsX6_copyFrom 6 0 9 := ⟨RX6, TX6, 2, rfl, by decide +kernel, by decide, by decide +kernel⟩
theorem zW_X6_copyFrom_15 : zW RX6 wsX6_copyFrom 6 1 15 false (tyX6 1) := ⟨RX6, TX6, 2, tyX6, rfl, by decide +kernel, by decide, by decide +kernel, tyX6_ok, nmX6, rfl, rfl, rfl⟩
set_option maxRecDepth 100000 in
theorem c_X6_copyFrom (l : Launch) (D : zD) (base : Nat) (r N o N2 : Nat) (n n2 : Int) (f f2 : Int → Int) (hq : base ≤ r) (hi : n2 ≤ N) (ho : r + 2 ≤ o ∨ o + 2 ≤ r) : Ct l yX6_copyFrom wsX6_copyFrom rm_X6_copyFrom D base [.ref r, .ref o] (fun H => RowAt D r N n f H ∧ RowAt D o N2 n2 f2 H) (PV (fun H H1 => RowAt D r N n2 f2 H1 ∧ Fr (Iv r (r + 2)) 0 H H1)) := by
  refine Ct.of (own := RX6) (cc := cX6_copyFrom) (maxL := 2) (by decide +kernel) rfl (Nat.le_of_ble_eq_true rfl) rfl ?_
  intro K H X R hH hnm hP
  show G K 0 0 H 0 [(0, .ref r), (1, .ref o)] []
  obtain ⟨⟨hO, ⟨g, hA, hg⟩, hn0, hnN, hN⟩, ⟨hO2, ⟨g2, hA2, hg2⟩, hm0, hmN, hM⟩⟩ := hP
  refine g_aload_n (pc := 0) (pl := 0) X dX6_copyFrom_0 rfl ?_
  refine g_aload_n (pc := 1) (pl := 1) X dX6_copyFrom_1 rfl ?_
  refine g_getf (pc := 2) X zF_X6_copyFrom_15 hO2 rfl dX6_copyFrom_2 ?_
  refine g_aload_n (pc := 5) (pl := 0) X dX6_copyFrom_5 rfl ?_
  refine g_getf (pc := 6) X zF_X6_copyFrom_9 hO rfl dX6_copyFrom_6 ?_
  refine g_alen (pc := 9) X hA dX6_copyFrom_9 ?_
  refine g_mmin (pc := 10) X (by omega) (by omega) (by decide +kernel) (by decide +kernel) (by decide +kernel) (by decide +kernel) (by decide) (Nat.le_of_ble_eq_true rfl) (by decide) dX6_copyFrom_10 ?_
  rw [show (if (N : Int) < n2 then (N : Int) else n2) = n2 from if_neg (by omega)]
  refine g_putf (pc := 13) X zW_X6_copyFrom_15 hO (by omega) rfl rfl rfl dX6_copyFrom_13 (fun H1 hOn hf1 => ?_)
  replace hO2 := hO2.fr hf1 (by omega)
  replace hA := hA.fr hf1 (by omega)
  replace hA2 := hA2.fr hf1 (by omega)
  replace hO : Ob D r 6 [.ref (r + 1), .int (J n2)] H1 := hOn
  clear hOn
  refine g_aload_n (pc := 16) (pl := 1) X dX6_copyFrom_16 rfl ?_
  refine g_getf (pc := 17) X zF_X6_copyFrom_9 hO2 rfl dX6_copyFrom_17 ?_
  refine g_iconst (pc := 20) X dX6_copyFrom_20 ?_
  refine g_aload_n (pc := 21) (pl := 0) X dX6_copyFrom_21 rfl ?_
  refine g_getf (pc := 22) X zF_X6_copyFrom_9 hO rfl dX6_copyFrom_22 ?_
  refine g_iconst (pc := 25) X dX6_copyFrom_25 ?_
  refine g_aload_n (pc := 26) (pl := 0) X dX6_copyFrom_26 rfl ?_
  refine g_getf (pc := 27) X zF_X6_copyFrom_15 hO rfl dX6_copyFrom_27 ?_
  refine g_copy (pc := 30) X hA2 hA (by omega) (by omega) (by omega) (by omega) (by omega) (by omega) (by omega) (by decide +kernel) (by decide +kernel) (by decide +kernel) (by decide +kernel) (by decide) (Nat.le_of_ble_eq_true rfl) dX6_copyFrom_30 (fun H2 hAn hf2 => ?_)
  replace hO := hO.fr hf2 (by omega)
  replace hO2 := hO2.fr hf2 (by omega)
  replace hA2 := hA2.fr hf2 (by omega)
  replace hA := hAn
  clear hAn
  refine g_vret (pc := 33) X R hH dX6_copyFrom_33 ?_
  refine ⟨⟨hO, ⟨_, hA, fun j h0 h1 => ?_⟩, ⟨by omega, by omega, hN⟩⟩, (Fr.trans (hf1.wide (by omega) (by omega)) (hf2.wide (by omega) (by omega)))⟩
  simp only [cpy]
  rw [if_pos (by omega), ← hg2 _ h0 h1] <;> congr 1 <;> omega

abbrev rm_X6_copyPart : Room := { frames := 1, cells := 0, slots := 0, locals := 21 }
theorem cs_X6_copyPart_43 : zCV RX6 wsX6_copyPart 43 6 yX6_clear wsX6_clear cX6_clear 1 none rm_X6_copyPart rm_X6_clear 0 := ⟨_, _, gX6_copyPart_X6_clear, rfl, ⟨by decide +kernel, by decide +kernel, by decide +kernel⟩, ⟨Nat.le_of_ble_eq_true rfl, Nat.le_of_ble_eq_true rfl⟩, rfl, rfl⟩
theorem cs_X6_copyPart_19 : zCV RX6 wsX6_copyPart 19 6 yX6_has wsX6_has cX6_has 2 (some .boolean) rm_X6_copyPart rm_X6_has 1 := ⟨_, _, gX6_copyPart_X6_has, rfl, ⟨by decide +kernel, by decide +kernel, by decide +kernel⟩, ⟨Nat.le_of_ble_eq_true rfl, Nat.le_of_ble_eq_true rfl⟩, rfl, rfl⟩
theorem cs_X6_copyPart_46 : zCV RX6 wsX6_copyPart 46 6 yX6_item wsX6_item cX6_item 2 (some .int) rm_X6_copyPart rm_X6_item 1 := ⟨_, _, gX6_copyPart_X6_item, rfl, ⟨by decide +kernel, by decide +kernel, by decide +kernel⟩, ⟨Nat.le_of_ble_eq_true rfl, Nat.le_of_ble_eq_true rfl⟩, rfl, rfl⟩
theorem cs_X6_copyPart_50 : zCV RX6 wsX6_copyPart 50 6 yX6_add wsX6_add cX6_add 2 none rm_X6_copyPart rm_X6_add 1 := ⟨_, _, gX6_copyPart_X6_add, rfl, ⟨by decide +kernel, by decide +kernel, by decide +kernel⟩, ⟨Nat.le_of_ble_eq_true rfl, Nat.le_of_ble_eq_true rfl⟩, rfl, rfl⟩
set_option maxRecDepth 100000 in
theorem c_X6_copyPart (l : Launch) (D : zD) (base : Nat) (r N o N2 : Nat) (n n2 : Int) (f f2 : Int → Int) (a e w : Int) (hq : base ≤ r) (ho : r + 2 ≤ o ∨ o + 2 ≤ r) (hq2 : base ≤ o) (he : e = 1 ∨ e = -1) (hw : 0 ≤ w ∧ w ≤ N) (ha : -1 ≤ a ∧ a ≤ 1000) : Ct l yX6_copyPart wsX6_copyPart rm_X6_copyPart D base [.ref r, .ref o, .int (J a), .int (J e), .int (J w)] (fun H => RowAt D r N n f H ∧ RowAt D o N2 n2 f2 H) (PV (fun H H1 => ∃ c : Int, 0 ≤ c ∧ c ≤ w ∧ (∀ i : Int, 0 ≤ i → i < c → 0 ≤ a + i * e ∧ a + i * e < n2) ∧ (c = w ∨ ¬ (0 ≤ a + c * e ∧ a + c * e < n2)) ∧ RowAt D r N c (fun j => f2 (a + j * e)) H1 ∧ Fr (Iv r (r + 2)) 0 H H1)) := by
  refine Ct.of (own := RX6) (cc := cX6_copyPart) (maxL := 6) (by decide +kernel) rfl (Nat.le_of_ble_eq_true rfl) rfl ?_
  intro K H X R hH hnm hP
  show G K 0 0 H 0 [(0, .ref r), (1, .ref o), (2, .int (J a)), (3, .int (J e)), (4, .int (J w))] []
  obtain ⟨hR, hR2⟩ := hP
  have hbd := hR.bd
  have hbd2 := hR2.bd
  obtain ⟨hO, -⟩ := id hR
  refine g_aload_n (pc := 0) (pl := 0) X dX6_copyPart_0 rfl ?_
  refine gVv (pc := 1) (n2 := 0) (k2 := 0) X cs_X6_copyPart_43 (c_X6_clear (zl K) D base r N n f hq) rfl hO (by omega) hR rfl ⟨Nat.le_of_ble_eq_true rfl, Nat.le_of_ble_eq_true rfl⟩ dX6_copyPart_1 (Nat.le_of_ble_eq_true rfl) rfl rfl (fun H1 hp1 hs1 => ?_)
  obtain ⟨hR1, hfa⟩ := hp1
  replace hR2 := hR2.fr hfa (by omega)
  refine g_iconst (pc := 4) X dX6_copyPart_4 ?_
  refine g_istore (pc := 5) (lv' := [(5, _), (0, _), (1, _), (2, _), (3, _), (4, _)]) X dX6_copyPart_5 (by decide) rfl ?_
  have hL7 : ∀ (fu : Nat) (t : Int) (Hx : Heap), (w - t).toNat < fu → (0 ≤ t ∧ t ≤ w) → (∀ i : Int, 0 ≤ i → i < t → 0 ≤ a + i * e ∧ a + i * e < n2) → (RowAt D r N t (fun j => f2 (a + j * e)) Hx) → (RowAt D o N2 n2 f2 Hx) → (Fr (Iv r (r + 2)) 0 H Hx) → G K 0 0 Hx 7 [(0, .ref r), (1, .ref o), (2, .int (J a)), (3, .int (J e)), (4, .int (J w)), (5, .int (J t))] [] := by
    intro fu
    induction fu with
    | zero => intro t Hx hm; exact absurd hm (Nat.not_lt_zero _)
    | succ fu ih7 =>
      intro t Hx hm h1 h2 hR1 hR2 h3
      have hte : t * e = t ∨ t * e = -t := by rcases he with rfl | rfl <;> omega
      obtain ⟨hO, -⟩ := id hR1
      obtain ⟨hO2, -⟩ := id hR2
      refine g_iload (pc := 7) (pl := 5) X dX6_copyPart_7 rfl ?_
      refine g_iload (pc := 9) (pl := 4) X dX6_copyPart_9 rfl ?_
      refine g_icmp_ge (pc := 11) X 47 dX6_copyPart_11 (by decide) (by omega) (by omega) (fun c11 => ?_) (fun c11 => ?_)
      · skip
        refine g_vret (pc := 47) X R hH dX6_copyPart_47 ?_
        exact ⟨t, by omega, by omega, h2, by omega, hR1, h3⟩
      · skip
        refine g_aload_n (pc := 14) (pl := 1) X dX6_copyPart_14 rfl ?_
        refine g_iload_n (pc := 15) (pl := 2) X dX6_copyPart_15 rfl ?_
        refine g_iload (pc := 16) (pl := 5) X dX6_copyPart_16 rfl ?_
        refine g_iload_n (pc := 18) (pl := 3) X dX6_copyPart_18 rfl ?_
        refine g_imul (pc := 19) X dX6_copyPart_19 ?_
        refine g_iadd (pc := 20) X dX6_copyPart_20 ?_
        refine gVi (pc := 21) (n2 := 0) (k2 := 0) X cs_X6_copyPart_19 (c_X6_has (zl K) D base o N2 n2 f2 (a + t * e) (by omega)) rfl hO2 (by omega) hR2 rfl ⟨Nat.le_of_ble_eq_true rfl, Nat.le_of_ble_eq_true rfl⟩ dX6_copyPart_21 (Nat.le_of_ble_eq_true rfl) rfl rfl (fun v21 H2 hp21 hs21 => ?_)
        obtain ⟨rfl, rfl⟩ := hp21
        refine g_if_eq (pc := 24) X 47 dX6_copyPart_24 (by decide) (zbr _) (fun c24 => ?_) (fun c24 => ?_)
        · skip
          replace c24 := zb0 c24
          refine g_vret (pc := 47) X R hH dX6_copyPart_47 ?_
          exact ⟨t, by omega, by omega, h2, by omega, hR1, h3⟩
        · skip
          replace c24 := zb1 c24
          refine g_aload_n (pc := 27) (pl := 0) X dX6_copyPart_27 rfl ?_
          refine g_aload_n (pc := 28) (pl := 1) X dX6_copyPart_28 rfl ?_
          refine g_iload_n (pc := 29) (pl := 2) X dX6_copyPart_29 rfl ?_
          refine g_iload (pc := 30) (pl := 5) X dX6_copyPart_30 rfl ?_
          refine g_iload_n (pc := 32) (pl := 3) X dX6_copyPart_32 rfl ?_
          refine g_imul (pc := 33) X dX6_copyPart_33 ?_
          refine g_iadd (pc := 34) X dX6_copyPart_34 ?_
          refine gVi (pc := 35) (n2 := 0) (k2 := 0) X cs_X6_copyPart_46 (c_X6_item (zl K) D base o N2 n2 f2 (a + t * e) (by omega)) rfl hO2 (by omega) hR2 rfl ⟨Nat.le_of_ble_eq_true rfl, Nat.le_of_ble_eq_true rfl⟩ dX6_copyPart_35 (Nat.le_of_ble_eq_true rfl) rfl rfl (fun v35 H2 hp35 hs35 => ?_)
          obtain ⟨rfl, rfl⟩ := hp35
          refine gVv (pc := 38) (n2 := 0) (k2 := 0) X cs_X6_copyPart_50 (c_X6_add (zl K) D base r N t (fun j => f2 (a + j * e)) (itm n2 f2 (a + t * e)) hq (by omega)) rfl hO (by omega) hR1 rfl ⟨Nat.le_of_ble_eq_true rfl, Nat.le_of_ble_eq_true rfl⟩ dX6_copyPart_38 (Nat.le_of_ble_eq_true rfl) rfl rfl (fun H2 hp38 hs38 => ?_)
          obtain ⟨hR1, hfb⟩ := hp38
          replace hR2 := hR2.fr hfb (by omega)
          refine g_iinc (pc := 41) (pl := 5) (x := t) (lv' := [(5, _), (0, _), (1, _), (2, _), (3, _), (4, _)]) X dX6_copyPart_41 rfl (by decide) rfl ?_
          refine g_goto (pc := 44) X 7 dX6_copyPart_44 (by decide) ?_
          refine G.pick [1, 2, 3, 4, 5, 0] (lv' := [(0, _), (1, _), (2, _), (3, _), (4, _), (5, _)]) rfl ?_
          exact ih7 (t + 1) H2 (by omega) (by omega) (fun i h0 h1 => by rcases Int.lt_or_le i t with c | c; exact h2 i h0 c; rw [show i = t by omega]; exact c24) (hR1.congr (fun i h0 h1 => by simp only [up]; by_cases c : i = t; (rw [if_pos c, show itm n2 f2 (a + t * e) = f2 (a + t * e) from if_pos c24, c]); (rw [if_neg c]))) hR2 (Fr.trans0 h3 hfb)
  refine G.pick [1, 2, 3, 4, 5, 0] (lv' := [(0, _), (1, _), (2, _), (3, _), (4, _), (5, _)]) rfl ?_
  exact hL7 _ 0 H1 (Nat.lt_succ_self _) (by omega) (fun i h0 h1 => by omega) (hR1.congr (fun i h0 h1 => by omega)) hR2 hfa

abbrev rm_X6_countAlike : Room := { frames := 1, cells := 0, slots := 0, locals := 21 }
theorem zF_X6_countAlike_15 : zF RX6 wsX6_countAlike 6 1 15 := ⟨RX6, TX6, 2, rfl, by decide +kernel, by decide, by decide +kernel⟩
theorem cs_X6_countAlike_46 : zCV RX6 wsX6_countAlike 46 6 yX6_item wsX6_item cX6_item 2 (some .int) rm_X6_countAlike rm_X6_item 1 := ⟨_, _, gX6_countAlike_X6_item, rfl, ⟨by decide +kernel, by decide +kernel, by decide +kernel⟩, ⟨Nat.le_of_ble_eq_true rfl, Nat.le_of_ble_eq_true rfl⟩, rfl, rfl⟩
set_option maxRecDepth 100000 in
theorem c_X6_countAlike (l : Launch) (D : zD) (base : Nat) (r N o N2 : Nat) (n n2 : Int) (f f2 : Int → Int) (a e : Int) (hq : base ≤ r) (hq2 : base ≤ o) (he : e = 1 ∨ e = -1) (ha : -1 ≤ a ∧ a ≤ 1000) (hv : ∀ i : Int, 0 ≤ i → i < n → rg (f i)) (hv2 : ∀ i : Int, 0 ≤ i → i < n2 → rg (f2 i)) : Ct l yX6_countAlike wsX6_countAlike rm_X6_countAlike D base [.ref r, .ref o, .int (J a), .int (J e)] (fun H => RowAt D r N n f H ∧ RowAt D o N2 n2 f2 H) (PI (fun H v H1 => H = H1 ∧ 0 ≤ v ∧ v ≤ n2 ∧ (∀ i : Int, 0 ≤ i → i < v → itm n f (a + i * e) = f2 i) ∧ (v = n2 ∨ ¬ itm n f (a + v * e) = f2 v))) := by
  refine Ct.of (own := RX6) (cc := cX6_countAlike) (maxL := 5) (by decide +kernel) rfl (Nat.le_of_ble_eq_true rfl) rfl ?_
  intro K H X R hH hnm hP
  show G K 0 0 H 0 [(0, .ref r), (1, .ref o), (2, .int (J a)), (3, .int (J e))] []
  obtain ⟨hR, hR2⟩ := hP
  have hbd := hR.bd
  have hbd2 := hR2.bd
  obtain ⟨hO, -⟩ := id hR
  obtain ⟨hO2, -⟩ := id hR2
  refine g_iconst (pc := 0) X dX6_countAlike_0 ?_
  refine g_istore (pc := 1) (lv' := [(4, _), (0, _), (1, _), (2, _), (3, _)]) X dX6_countAlike_1 (by decide) rfl ?_
  have hL3 : ∀ (fu : Nat) (t : Int), (n2 - t).toNat < fu → (0 ≤ t ∧ t ≤ n2) → (∀ i : Int, 0 ≤ i → i < t → itm n f (a + i * e) = f2 i) → G K 0 0 H 3 [(0, .ref r), (1, .ref o), (2, .int (J a)), (3, .int (J e)), (4, .int (J t))] [] := by
    intro fu
    induction fu with
    | zero => intro t hm; exact absurd hm (Nat.not_lt_zero _)
    | succ fu ih3 =>
      intro t hm h1 h2
      have hte : t * e = t ∨ t * e = -t := by rcases he with rfl | rfl <;> omega
      refine g_iload (pc := 3) (pl := 4) X dX6_countAlike_3 rfl ?_
      refine g_aload_n (pc := 5) (pl := 1) X dX6_countAlike_5 rfl ?_
      refine g_getf (pc := 6) X zF_X6_countAlike_15 hO2 rfl dX6_countAlike_6 ?_
      refine g_icmp_ge (pc := 9) X 37 dX6_countAlike_9 (by decide) (by omega) (by omega) (fun c9 => ?_) (fun c9 => ?_)
      · skip
        refine g_iload (pc := 37) (pl := 4) X dX6_countAlike_37 rfl ?_
        refine g_iret (pc := 39) X R hH dX6_countAlike_39 ?_
        refine ⟨rfl, by omega, by omega, h2, ?_⟩
        first | (left; omega) | (right; assumption)
      · skip
        refine g_aload_n (pc := 12) (pl := 0) X dX6_countAlike_12 rfl ?_
        refine g_iload_n (pc := 13) (pl := 2) X dX6_countAlike_13 rfl ?_
        refine g_iload (pc := 14) (pl := 4) X dX6_countAlike_14 rfl ?_
        refine g_iload_n (pc := 16) (pl := 3) X dX6_countAlike_16 rfl ?_
        refine g_imul (pc := 17) X dX6_countAlike_17 ?_
        refine g_iadd (pc := 18) X dX6_countAlike_18 ?_
        refine gVi (pc := 19) (n2 := 0) (k2 := 0) X cs_X6_countAlike_46 (c_X6_item (zl K) D base r N n f (a + t * e) (by omega)) rfl hO (by omega) hR rfl ⟨Nat.le_of_ble_eq_true rfl, Nat.le_of_ble_eq_true rfl⟩ dX6_countAlike_19 (Nat.le_of_ble_eq_true rfl) rfl rfl (fun v19 H1 hp19 hs19 => ?_)
        obtain ⟨rfl, rfl⟩ := hp19
        refine g_aload_n (pc := 22) (pl := 1) X dX6_countAlike_22 rfl ?_
        refine g_iload (pc := 23) (pl := 4) X dX6_countAlike_23 rfl ?_
        refine gVi (pc := 25) (n2 := 0) (k2 := 0) X cs_X6_countAlike_46 (c_X6_item (zl K) D base o N2 n2 f2 t (by omega)) rfl hO2 (by omega) hR2 rfl ⟨Nat.le_of_ble_eq_true rfl, Nat.le_of_ble_eq_true rfl⟩ dX6_countAlike_25 (Nat.le_of_ble_eq_true rfl) rfl rfl (fun v25 H1 hp25 hs25 => ?_)
        obtain ⟨rfl, rfl⟩ := hp25
        have hi2 : itm n2 f2 t = f2 t := if_pos (by omega)
        rw [hi2]
        refine g_icmp_ne (pc := 28) X 37 dX6_countAlike_28 (by decide) (by unfold itm; split; exact hv _ (by omega) (by omega); exact ⟨by decide, by decide⟩) (hv2 t (by omega) (by omega)) (fun c28 => ?_) (fun c28 => ?_)
        · skip
          refine g_iload (pc := 37) (pl := 4) X dX6_countAlike_37 rfl ?_
          refine g_iret (pc := 39) X R hH dX6_countAlike_39 ?_
          refine ⟨rfl, by omega, by omega, h2, ?_⟩
          first | (left; omega) | (right; assumption)
        · skip
          refine g_iinc (pc := 31) (pl := 4) (x := t) (lv' := [(4, _), (0, _), (1, _), (2, _), (3, _)]) X dX6_countAlike_31 rfl (by decide) rfl ?_
          refine g_goto (pc := 34) X 3 dX6_countAlike_34 (by decide) ?_
          refine G.pick [1, 2, 3, 4, 0] (lv' := [(0, _), (1, _), (2, _), (3, _), (4, _)]) rfl ?_
          exact ih3 (t + 1) (by omega) (by omega) (fun i h0 h1 => by rcases Int.lt_or_le i t with c | c; exact h2 i h0 c; rw [show i = t by omega]; exact c28)
  refine G.pick [1, 2, 3, 4, 0] (lv' := [(0, _), (1, _), (2, _), (3, _), (4, _)]) rfl ?_
  exact hL3 _ 0 (Nat.lt_succ_self _) (by omega) (fun i h0 h1 => by omega)

abbrev rm_X6_init : Room := { frames := 1, cells := 1, slots := 80, locals := 12 }
theorem zW_X6_init_9 : zW RX6 wsX6_init 6 0 9 true (tyX6 0) := ⟨RX6, TX6, 2, tyX6, rfl, by decide +kernel, by decide, by decide +kernel, tyX6_ok, nmX6, rfl, rfl, rfl⟩
set_option maxRecDepth 100000 in
theorem c_X6_init (l : Launch) (D : zD) (base : Nat) (r N : Nat) (hq : base ≤ r) (hi : N ≤ 80) : Ct l yX6_init wsX6_init rm_X6_init D base [.ref r, .int (J (N : Int))] (fun H => Ob D r 6 [.null, .int (J 0)] H ∧ H.size = r + 1) (PV (fun H H1 => RowAt D r N 0 (fun _ => 0) H1 ∧ Fr (Iv r (r + 1)) 1 H H1)) := by
  refine Ct.of (own := RX6) (cc := cX6_init) (maxL := 2) (by decide +kernel) rfl (Nat.le_of_ble_eq_true rfl) rfl ?_
  intro K H X R hH hnm hP
  show G K 0 0 H 0 [(0, .ref r), (1, .int (J (N : Int)))] []
  obtain ⟨hO, hsz⟩ := hP
  refine g_aload_n (pc := 0) (pl := 0) X dX6_init_0 rfl ?_
  refine g_objInit (pc := 1) X (by decide +kernel) (by decide +kernel) (by decide +kernel) (by decide) (Nat.le_of_ble_eq_true rfl) dX6_init_1 ?_
  refine g_aload_n (pc := 4) (pl := 0) X dX6_init_4 rfl ?_
  refine g_iload_n (pc := 5) (pl := 1) X dX6_init_5 rfl ?_
  refine g_if_ge (pc := 6) X 13 dX6_init_6 (by decide) (by omega) (fun c6 => ?_) (fun c6 => ?_)
  · skip
    refine g_iload_n (pc := 13) (pl := 1) X dX6_init_13 rfl ?_
    refine g_newarr (pc := 14) (N := N) (n2 := 1) (k2 := N) X (by decide +kernel) rfl (by omega) (Nat.le_of_ble_eq_true rfl) (by show 0 + N ≤ 80; omega) dX6_init_14 rfl (Nat.zero_add N) (fun H1 hz1 hNew hon1 => ?_)
    rw [hsz] at hNew ⊢
    have hA := hNew
    clear hNew
    have hf1 : Fr (Iv 0 0) 1 H H1 := Fr.new hz1 hon1
    replace hsz : H1.size = r + 2 := by have e := hf1.1; omega
    replace hO := hO.fr hf1 (by omega)
    refine g_putF (pc := 16) X zW_X6_init_9 hnm rfl hO (by omega) rfl rfl rfl dX6_init_16 (fun H2 hOn hf2 => ?_)
    replace hsz : H2.size = r + 2 := by have e := hf2.1; omega
    replace hA := hA.fr hf2 (by omega)
    replace hO : Ob D r 6 [.ref (r + 1), .int (J 0)] H2 := hOn
    clear hOn
    refine G.widen (n' := 1) (k' := 80) (by omega) (by omega) ?_
    refine g_vret (pc := 19) X R hH dX6_init_19 ?_
    exact ⟨⟨hO, ⟨_, hA, fun j h0 h1 => by omega⟩, ⟨by omega, by omega, by omega⟩⟩, (Fr.trans hf1.any (hf2.wide (by omega) (by omega)))⟩
  · skip
    omega
end
