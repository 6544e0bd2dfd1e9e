section
-- ===== PART A: goes FIRST, ahead of the names: the tables' words, and 'selects' of the private methods out of them =====
/-- a private method of a class that the tables say can be made, by its rows of tables_1 -/
def lw_okq (q : MethodName × Nat) : Prop := (q.1.cls ≠ "java/lang/invoke/MethodHandle" ∧ q.1.cls ≠ "java/lang/invoke/VarHandle") ∧ Cond.instantiable q.1.cls q.2 ∈ tables_1 ∧ Cond.privateMethod q.1 ∈ tables_1 ∧ Cond.instanceMethod q.1 ∈ tables_1
theorem lw_p0 : lw_okq (⟨"AnchoredNotes$History", "forgetOldest", "()V"⟩, 2) := ⟨⟨by decide +kernel, by decide +kernel⟩, List.mem_of_getElem? (i := 216) (by decide +kernel), List.mem_of_getElem? (i := 313) (by decide +kernel), List.mem_of_getElem? (i := 314) (by decide +kernel)⟩
theorem lw_p1 : lw_okq (⟨"AnchoredNotes$Page", "passageError", "(II)I"⟩, 6) := ⟨⟨by decide +kernel, by decide +kernel⟩, List.mem_of_getElem? (i := 23) (by decide +kernel), List.mem_of_getElem? (i := 341) (by decide +kernel), List.mem_of_getElem? (i := 342) (by decide +kernel)⟩
theorem lw_p2 : lw_okq (⟨"AnchoredNotes$Row", "exchange", "(III)V"⟩, 2) := ⟨⟨by decide +kernel, by decide +kernel⟩, List.mem_of_getElem? (i := 29) (by decide +kernel), List.mem_of_getElem? (i := 367) (by decide +kernel), List.mem_of_getElem? (i := 368) (by decide +kernel)⟩
theorem lw_p3 : lw_okq (⟨"AnchoredNotes$Row", "turn", "(II)V"⟩, 2) := ⟨⟨by decide +kernel, by decide +kernel⟩, List.mem_of_getElem? (i := 29) (by decide +kernel), List.mem_of_getElem? (i := 371) (by decide +kernel), List.mem_of_getElem? (i := 372) (by decide +kernel)⟩
theorem lw_p4 : lw_okq (⟨"AnchoredNotes$Page", "anchor", "(III)V"⟩, 6) := ⟨⟨by decide +kernel, by decide +kernel⟩, List.mem_of_getElem? (i := 23) (by decide +kernel), List.mem_of_getElem? (i := 399) (by decide +kernel), List.mem_of_getElem? (i := 400) (by decide +kernel)⟩
theorem lw_p5 : lw_okq (⟨"AnchoredNotes$Page", "remove", "(I)V"⟩, 6) := ⟨⟨by decide +kernel, by decide +kernel⟩, List.mem_of_getElem? (i := 23) (by decide +kernel), List.mem_of_getElem? (i := 443) (by decide +kernel), List.mem_of_getElem? (i := 444) (by decide +kernel)⟩
theorem lw_p6 : lw_okq (⟨"AnchoredNotes$Margin", "empty", "()V"⟩, 7) := ⟨⟨by decide +kernel, by decide +kernel⟩, List.mem_of_getElem? (i := 133) (by decide +kernel), List.mem_of_getElem? (i := 511) (by decide +kernel), List.mem_of_getElem? (i := 512) (by decide +kernel)⟩
theorem lw_p7 : lw_okq (⟨"AnchoredNotes$Margin", "print", "(III)V"⟩, 7) := ⟨⟨by decide +kernel, by decide +kernel⟩, List.mem_of_getElem? (i := 133) (by decide +kernel), List.mem_of_getElem? (i := 523) (by decide +kernel), List.mem_of_getElem? (i := 524) (by decide +kernel)⟩
theorem lw_p8 : lw_okq (⟨"AnchoredNotes$OrderReader", "readNumber", "(LAnchoredNotes$Row;)Z"⟩, 4) := ⟨⟨by decide +kernel, by decide +kernel⟩, List.mem_of_getElem? (i := 191) (by decide +kernel), List.mem_of_getElem? (i := 591) (by decide +kernel), List.mem_of_getElem? (i := 592) (by decide +kernel)⟩
theorem lw_p9 : lw_okq (⟨"AnchoredNotes$OrderReader", "readLetters", "(LAnchoredNotes$Row;)Z"⟩, 4) := ⟨⟨by decide +kernel, by decide +kernel⟩, List.mem_of_getElem? (i := 191) (by decide +kernel), List.mem_of_getElem? (i := 603) (by decide +kernel), List.mem_of_getElem? (i := 604) (by decide +kernel)⟩
theorem lw_p10 : lw_okq (⟨"AnchoredNotes", "obey", "()I"⟩, 7) := ⟨⟨by decide +kernel, by decide +kernel⟩, List.mem_of_getElem? (i := 15) (by decide +kernel), List.mem_of_getElem? (i := 616) (by decide +kernel), List.mem_of_getElem? (i := 617) (by decide +kernel)⟩
theorem lw_p11 : lw_okq (⟨"AnchoredNotes", "writeRow", "(I)I"⟩, 7) := ⟨⟨by decide +kernel, by decide +kernel⟩, List.mem_of_getElem? (i := 15) (by decide +kernel), List.mem_of_getElem? (i := 620) (by decide +kernel), List.mem_of_getElem? (i := 621) (by decide +kernel)⟩
theorem lw_p12 : lw_okq (⟨"AnchoredNotesModel", "records", "()V"⟩, 17) := ⟨⟨by decide +kernel, by decide +kernel⟩, List.mem_of_getElem? (i := 642) (by decide +kernel), List.mem_of_getElem? (i := 719) (by decide +kernel), List.mem_of_getElem? (i := 720) (by decide +kernel)⟩
theorem lw_p13 : lw_okq (⟨"AnchoredNotesModel", "mayWrite", "(II)I"⟩, 17) := ⟨⟨by decide +kernel, by decide +kernel⟩, List.mem_of_getElem? (i := 642) (by decide +kernel), List.mem_of_getElem? (i := 734) (by decide +kernel), List.mem_of_getElem? (i := 735) (by decide +kernel)⟩
theorem lw_p14 : lw_okq (⟨"AnchoredNotesModel", "comes", "(III)V"⟩, 17) := ⟨⟨by decide +kernel, by decide +kernel⟩, List.mem_of_getElem? (i := 642) (by decide +kernel), List.mem_of_getElem? (i := 738) (by decide +kernel), List.mem_of_getElem? (i := 739) (by decide +kernel)⟩
theorem lw_p15 : lw_okq (⟨"AnchoredNotesModel", "maySpan", "(II)I"⟩, 17) := ⟨⟨by decide +kernel, by decide +kernel⟩, List.mem_of_getElem? (i := 642) (by decide +kernel), List.mem_of_getElem? (i := 746) (by decide +kernel), List.mem_of_getElem? (i := 747) (by decide +kernel)⟩
def lw_privs_1 : List (MethodName × Nat) := [(⟨"AnchoredNotes$History", "forgetOldest", "()V"⟩, 2), (⟨"AnchoredNotes$Page", "passageError", "(II)I"⟩, 6), (⟨"AnchoredNotes$Row", "exchange", "(III)V"⟩, 2), (⟨"AnchoredNotes$Row", "turn", "(II)V"⟩, 2), (⟨"AnchoredNotes$Page", "anchor", "(III)V"⟩, 6), (⟨"AnchoredNotes$Page", "remove", "(I)V"⟩, 6), (⟨"AnchoredNotes$Margin", "empty", "()V"⟩, 7), (⟨"AnchoredNotes$Margin", "print", "(III)V"⟩, 7), (⟨"AnchoredNotes$OrderReader", "readNumber", "(LAnchoredNotes$Row;)Z"⟩, 4), (⟨"AnchoredNotes$OrderReader", "readLetters", "(LAnchoredNotes$Row;)Z"⟩, 4), (⟨"AnchoredNotes", "obey", "()I"⟩, 7), (⟨"AnchoredNotes", "writeRow", "(I)I"⟩, 7), (⟨"AnchoredNotesModel", "records", "()V"⟩, 17), (⟨"AnchoredNotesModel", "mayWrite", "(II)I"⟩, 17), (⟨"AnchoredNotesModel", "comes", "(III)V"⟩, 17), (⟨"AnchoredNotesModel", "maySpan", "(II)I"⟩, 17)]
theorem lw_r1 : ∀ q ∈ lw_privs_1, lw_okq q := List.forall_mem_cons.mpr ⟨lw_p0, List.forall_mem_cons.mpr ⟨lw_p1, List.forall_mem_cons.mpr ⟨lw_p2, List.forall_mem_cons.mpr ⟨lw_p3, List.forall_mem_cons.mpr ⟨lw_p4, List.forall_mem_cons.mpr ⟨lw_p5, List.forall_mem_cons.mpr ⟨lw_p6, List.forall_mem_cons.mpr ⟨lw_p7, List.forall_mem_cons.mpr ⟨lw_p8, List.forall_mem_cons.mpr ⟨lw_p9, List.forall_mem_cons.mpr ⟨lw_p10, List.forall_mem_cons.mpr ⟨lw_p11, List.forall_mem_cons.mpr ⟨lw_p12, List.forall_mem_cons.mpr ⟨lw_p13, List.forall_mem_cons.mpr ⟨lw_p14, List.forall_mem_cons.mpr ⟨lw_p15, fun _ h => absurd h List.not_mem_nil⟩⟩⟩⟩⟩⟩⟩⟩⟩⟩⟩⟩⟩⟩⟩⟩
theorem lw_p16 : lw_okq (⟨"AnchoredNotesModel", "isPlace", "(I)Z"⟩, 17) := ⟨⟨by decide +kernel, by decide +kernel⟩, List.mem_of_getElem? (i := 642) (by decide +kernel), List.mem_of_getElem? (i := 750) (by decide +kernel), List.mem_of_getElem? (i := 751) (by decide +kernel)⟩
theorem lw_p17 : lw_okq (⟨"AnchoredNotesModel", "erases", "(II)I"⟩, 17) := ⟨⟨by decide +kernel, by decide +kernel⟩, List.mem_of_getElem? (i := 642) (by decide +kernel), List.mem_of_getElem? (i := 754) (by decide +kernel), List.mem_of_getElem? (i := 755) (by decide +kernel)⟩
theorem lw_p18 : lw_okq (⟨"AnchoredNotesModel", "orphans", "()I"⟩, 17) := ⟨⟨by decide +kernel, by decide +kernel⟩, List.mem_of_getElem? (i := 642) (by decide +kernel), List.mem_of_getElem? (i := 758) (by decide +kernel), List.mem_of_getElem? (i := 759) (by decide +kernel)⟩
theorem lw_p19 : lw_okq (⟨"AnchoredNotesModel", "isOrphan", "(I)Z"⟩, 17) := ⟨⟨by decide +kernel, by decide +kernel⟩, List.mem_of_getElem? (i := 642) (by decide +kernel), List.mem_of_getElem? (i := 762) (by decide +kernel), List.mem_of_getElem? (i := 763) (by decide +kernel)⟩
theorem lw_p20 : lw_okq (⟨"AnchoredNotesModel", "isReply", "(I)Z"⟩, 17) := ⟨⟨by decide +kernel, by decide +kernel⟩, List.mem_of_getElem? (i := 642) (by decide +kernel), List.mem_of_getElem? (i := 766) (by decide +kernel), List.mem_of_getElem? (i := 767) (by decide +kernel)⟩
theorem lw_p21 : lw_okq (⟨"AnchoredNotesModel", "of0", "(II)I"⟩, 17) := ⟨⟨by decide +kernel, by decide +kernel⟩, List.mem_of_getElem? (i := 642) (by decide +kernel), List.mem_of_getElem? (i := 770) (by decide +kernel), List.mem_of_getElem? (i := 771) (by decide +kernel)⟩
theorem lw_p22 : lw_okq (⟨"AnchoredNotesModel", "present", "(I)I"⟩, 17) := ⟨⟨by decide +kernel, by decide +kernel⟩, List.mem_of_getElem? (i := 642) (by decide +kernel), List.mem_of_getElem? (i := 774) (by decide +kernel), List.mem_of_getElem? (i := 775) (by decide +kernel)⟩
theorem lw_p23 : lw_okq (⟨"AnchoredNotesModel", "isOf", "(II)Z"⟩, 17) := ⟨⟨by decide +kernel, by decide +kernel⟩, List.mem_of_getElem? (i := 642) (by decide +kernel), List.mem_of_getElem? (i := 778) (by decide +kernel), List.mem_of_getElem? (i := 779) (by decide +kernel)⟩
theorem lw_p24 : lw_okq (⟨"AnchoredNotesModel", "goes", "(II)V"⟩, 17) := ⟨⟨by decide +kernel, by decide +kernel⟩, List.mem_of_getElem? (i := 642) (by decide +kernel), List.mem_of_getElem? (i := 782) (by decide +kernel), List.mem_of_getElem? (i := 783) (by decide +kernel)⟩
theorem lw_p25 : lw_okq (⟨"AnchoredNotesModel", "mayMove", "(III)I"⟩, 17) := ⟨⟨by decide +kernel, by decide +kernel⟩, List.mem_of_getElem? (i := 642) (by decide +kernel), List.mem_of_getElem? (i := 790) (by decide +kernel), List.mem_of_getElem? (i := 791) (by decide +kernel)⟩
theorem lw_p26 : lw_okq (⟨"AnchoredNotesModel", "moves", "(III)V"⟩, 17) := ⟨⟨by decide +kernel, by decide +kernel⟩, List.mem_of_getElem? (i := 642) (by decide +kernel), List.mem_of_getElem? (i := 794) (by decide +kernel), List.mem_of_getElem? (i := 795) (by decide +kernel)⟩
theorem lw_p27 : lw_okq (⟨"AnchoredNotesModel", "torn", "()I"⟩, 17) := ⟨⟨by decide +kernel, by decide +kernel⟩, List.mem_of_getElem? (i := 642) (by decide +kernel), List.mem_of_getElem? (i := 798) (by decide +kernel), List.mem_of_getElem? (i := 799) (by decide +kernel)⟩
theorem lw_p28 : lw_okq (⟨"AnchoredNotesModel", "finds", "(I)V"⟩, 17) := ⟨⟨by decide +kernel, by decide +kernel⟩, List.mem_of_getElem? (i := 642) (by decide +kernel), List.mem_of_getElem? (i := 802) (by decide +kernel), List.mem_of_getElem? (i := 803) (by decide +kernel)⟩
theorem lw_p29 : lw_okq (⟨"AnchoredNotesModel", "mayNote", "(II)I"⟩, 17) := ⟨⟨by decide +kernel, by decide +kernel⟩, List.mem_of_getElem? (i := 642) (by decide +kernel), List.mem_of_getElem? (i := 810) (by decide +kernel), List.mem_of_getElem? (i := 811) (by decide +kernel)⟩
theorem lw_p30 : lw_okq (⟨"AnchoredNotesModel", "notes", "(II)I"⟩, 17) := ⟨⟨by decide +kernel, by decide +kernel⟩, List.mem_of_getElem? (i := 642) (by decide +kernel), List.mem_of_getElem? (i := 814) (by decide +kernel), List.mem_of_getElem? (i := 815) (by decide +kernel)⟩
theorem lw_p31 : lw_okq (⟨"AnchoredNotesModel", "takes", "(III)V"⟩, 17) := ⟨⟨by decide +kernel, by decide +kernel⟩, List.mem_of_getElem? (i := 642) (by decide +kernel), List.mem_of_getElem? (i := 818) (by decide +kernel), List.mem_of_getElem? (i := 819) (by decide +kernel)⟩
def lw_privs_2 : List (MethodName × Nat) := [(⟨"AnchoredNotesModel", "isPlace", "(I)Z"⟩, 17), (⟨"AnchoredNotesModel", "erases", "(II)I"⟩, 17), (⟨"AnchoredNotesModel", "orphans", "()I"⟩, 17), (⟨"AnchoredNotesModel", "isOrphan", "(I)Z"⟩, 17), (⟨"AnchoredNotesModel", "isReply", "(I)Z"⟩, 17), (⟨"AnchoredNotesModel", "of0", "(II)I"⟩, 17), (⟨"AnchoredNotesModel", "present", "(I)I"⟩, 17), (⟨"AnchoredNotesModel", "isOf", "(II)Z"⟩, 17), (⟨"AnchoredNotesModel", "goes", "(II)V"⟩, 17), (⟨"AnchoredNotesModel", "mayMove", "(III)I"⟩, 17), (⟨"AnchoredNotesModel", "moves", "(III)V"⟩, 17), (⟨"AnchoredNotesModel", "torn", "()I"⟩, 17), (⟨"AnchoredNotesModel", "finds", "(I)V"⟩, 17), (⟨"AnchoredNotesModel", "mayNote", "(II)I"⟩, 17), (⟨"AnchoredNotesModel", "notes", "(II)I"⟩, 17), (⟨"AnchoredNotesModel", "takes", "(III)V"⟩, 17)]
theorem lw_r2 : ∀ q ∈ lw_privs_2, lw_okq q := List.forall_mem_cons.mpr ⟨lw_p16, List.forall_mem_cons.mpr ⟨lw_p17, List.forall_mem_cons.mpr ⟨lw_p18, List.forall_mem_cons.mpr ⟨lw_p19, List.forall_mem_cons.mpr ⟨lw_p20, List.forall_mem_cons.mpr ⟨lw_p21, List.forall_mem_cons.mpr ⟨lw_p22, List.forall_mem_cons.mpr ⟨lw_p23, List.forall_mem_cons.mpr ⟨lw_p24, List.forall_mem_cons.mpr ⟨lw_p25, List.forall_mem_cons.mpr ⟨lw_p26, List.forall_mem_cons.mpr ⟨lw_p27, List.forall_mem_cons.mpr ⟨lw_p28, List.forall_mem_cons.mpr ⟨lw_p29, List.forall_mem_cons.mpr ⟨lw_p30, List.forall_mem_cons.mpr ⟨lw_p31, fun _ h => absurd h List.not_mem_nil⟩⟩⟩⟩⟩⟩⟩⟩⟩⟩⟩⟩⟩⟩⟩⟩
theorem lw_p32 : lw_okq (⟨"AnchoredNotesModel", "remembers", "(III)V"⟩, 17) := ⟨⟨by decide +kernel, by decide +kernel⟩, List.mem_of_getElem? (i := 642) (by decide +kernel), List.mem_of_getElem? (i := 822) (by decide +kernel), List.mem_of_getElem? (i := 823) (by decide +kernel)⟩
theorem lw_p33 : lw_okq (⟨"AnchoredNotesModel", "mayReply", "(I)I"⟩, 17) := ⟨⟨by decide +kernel, by decide +kernel⟩, List.mem_of_getElem? (i := 642) (by decide +kernel), List.mem_of_getElem? (i := 830) (by decide +kernel), List.mem_of_getElem? (i := 831) (by decide +kernel)⟩
theorem lw_p34 : lw_okq (⟨"AnchoredNotesModel", "isNote", "(I)Z"⟩, 17) := ⟨⟨by decide +kernel, by decide +kernel⟩, List.mem_of_getElem? (i := 642) (by decide +kernel), List.mem_of_getElem? (i := 834) (by decide +kernel), List.mem_of_getElem? (i := 835) (by decide +kernel)⟩
theorem lw_p35 : lw_okq (⟨"AnchoredNotesModel", "replies", "(I)I"⟩, 17) := ⟨⟨by decide +kernel, by decide +kernel⟩, List.mem_of_getElem? (i := 642) (by decide +kernel), List.mem_of_getElem? (i := 838) (by decide +kernel), List.mem_of_getElem? (i := 839) (by decide +kernel)⟩
theorem lw_p36 : lw_okq (⟨"AnchoredNotesModel", "drops", "(I)I"⟩, 17) := ⟨⟨by decide +kernel, by decide +kernel⟩, List.mem_of_getElem? (i := 642) (by decide +kernel), List.mem_of_getElem? (i := 846) (by decide +kernel), List.mem_of_getElem? (i := 847) (by decide +kernel)⟩
theorem lw_p37 : lw_okq (⟨"AnchoredNotesModel", "isBelow", "(II)Z"⟩, 17) := ⟨⟨by decide +kernel, by decide +kernel⟩, List.mem_of_getElem? (i := 642) (by decide +kernel), List.mem_of_getElem? (i := 850) (by decide +kernel), List.mem_of_getElem? (i := 851) (by decide +kernel)⟩
theorem lw_p38 : lw_okq (⟨"AnchoredNotesModel", "noteGoes", "(I)V"⟩, 17) := ⟨⟨by decide +kernel, by decide +kernel⟩, List.mem_of_getElem? (i := 642) (by decide +kernel), List.mem_of_getElem? (i := 854) (by decide +kernel), List.mem_of_getElem? (i := 855) (by decide +kernel)⟩
theorem lw_p39 : lw_okq (⟨"AnchoredNotesModel", "mayReclaim", "(I)I"⟩, 17) := ⟨⟨by decide +kernel, by decide +kernel⟩, List.mem_of_getElem? (i := 642) (by decide +kernel), List.mem_of_getElem? (i := 862) (by decide +kernel), List.mem_of_getElem? (i := 863) (by decide +kernel)⟩
theorem lw_p40 : lw_okq (⟨"AnchoredNotesModel", "possible", "(II)I"⟩, 17) := ⟨⟨by decide +kernel, by decide +kernel⟩, List.mem_of_getElem? (i := 642) (by decide +kernel), List.mem_of_getElem? (i := 866) (by decide +kernel), List.mem_of_getElem? (i := 867) (by decide +kernel)⟩
theorem lw_p41 : lw_okq (⟨"AnchoredNotesModel", "looksLike", "(II)Z"⟩, 17) := ⟨⟨by decide +kernel, by decide +kernel⟩, List.mem_of_getElem? (i := 642) (by decide +kernel), List.mem_of_getElem? (i := 870) (by decide +kernel), List.mem_of_getElem? (i := 871) (by decide +kernel)⟩
theorem lw_p42 : lw_okq (⟨"AnchoredNotesModel", "likeness", "(II)I"⟩, 17) := ⟨⟨by decide +kernel, by decide +kernel⟩, List.mem_of_getElem? (i := 642) (by decide +kernel), List.mem_of_getElem? (i := 874) (by decide +kernel), List.mem_of_getElem? (i := 875) (by decide +kernel)⟩
theorem lw_p43 : lw_okq (⟨"AnchoredNotesModel", "reclaims", "(I)I"⟩, 17) := ⟨⟨by decide +kernel, by decide +kernel⟩, List.mem_of_getElem? (i := 642) (by decide +kernel), List.mem_of_getElem? (i := 878) (by decide +kernel), List.mem_of_getElem? (i := 879) (by decide +kernel)⟩
theorem lw_p44 : lw_okq (⟨"AnchoredNotesModel", "ofNote", "(II)I"⟩, 17) := ⟨⟨by decide +kernel, by decide +kernel⟩, List.mem_of_getElem? (i := 642) (by decide +kernel), List.mem_of_getElem? (i := 890) (by decide +kernel), List.mem_of_getElem? (i := 891) (by decide +kernel)⟩
theorem lw_p45 : lw_okq (⟨"AnchoredNotesModel", "rootOf", "(IZ)I"⟩, 17) := ⟨⟨by decide +kernel, by decide +kernel⟩, List.mem_of_getElem? (i := 642) (by decide +kernel), List.mem_of_getElem? (i := 894) (by decide +kernel), List.mem_of_getElem? (i := 895) (by decide +kernel)⟩
theorem lw_p46 : lw_okq (⟨"AnchoredNotesModel", "below", "(I)I"⟩, 17) := ⟨⟨by decide +kernel, by decide +kernel⟩, List.mem_of_getElem? (i := 642) (by decide +kernel), List.mem_of_getElem? (i := 898) (by decide +kernel), List.mem_of_getElem? (i := 899) (by decide +kernel)⟩
theorem lw_p47 : lw_okq (⟨"AnchoredNotesModel", "prints", "(I)V"⟩, 17) := ⟨⟨by decide +kernel, by decide +kernel⟩, List.mem_of_getElem? (i := 642) (by decide +kernel), List.mem_of_getElem? (i := 914) (by decide +kernel), List.mem_of_getElem? (i := 915) (by decide +kernel)⟩
def lw_privs_3 : List (MethodName × Nat) := [(⟨"AnchoredNotesModel", "remembers", "(III)V"⟩, 17), (⟨"AnchoredNotesModel", "mayReply", "(I)I"⟩, 17), (⟨"AnchoredNotesModel", "isNote", "(I)Z"⟩, 17), (⟨"AnchoredNotesModel", "replies", "(I)I"⟩, 17), (⟨"AnchoredNotesModel", "drops", "(I)I"⟩, 17), (⟨"AnchoredNotesModel", "isBelow", "(II)Z"⟩, 17), (⟨"AnchoredNotesModel", "noteGoes", "(I)V"⟩, 17), (⟨"AnchoredNotesModel", "mayReclaim", "(I)I"⟩, 17), (⟨"AnchoredNotesModel", "possible", "(II)I"⟩, 17), (⟨"AnchoredNotesModel", "looksLike", "(II)Z"⟩, 17), (⟨"AnchoredNotesModel", "likeness", "(II)I"⟩, 17), (⟨"AnchoredNotesModel", "reclaims", "(I)I"⟩, 17), (⟨"AnchoredNotesModel", "ofNote", "(II)I"⟩, 17), (⟨"AnchoredNotesModel", "rootOf", "(IZ)I"⟩, 17), (⟨"AnchoredNotesModel", "below", "(I)I"⟩, 17), (⟨"AnchoredNotesModel", "prints", "(I)V"⟩, 17)]
theorem lw_r3 : ∀ q ∈ lw_privs_3, lw_okq q := List.forall_mem_cons.mpr ⟨lw_p32, List.forall_mem_cons.mpr ⟨lw_p33, List.forall_mem_cons.mpr ⟨lw_p34, List.forall_mem_cons.mpr ⟨lw_p35, List.forall_mem_cons.mpr ⟨lw_p36, List.forall_mem_cons.mpr ⟨lw_p37, List.forall_mem_cons.mpr ⟨lw_p38, List.forall_mem_cons.mpr ⟨lw_p39, List.forall_mem_cons.mpr ⟨lw_p40, List.forall_mem_cons.mpr ⟨lw_p41, List.forall_mem_cons.mpr ⟨lw_p42, List.forall_mem_cons.mpr ⟨lw_p43, List.forall_mem_cons.mpr ⟨lw_p44, List.forall_mem_cons.mpr ⟨lw_p45, List.forall_mem_cons.mpr ⟨lw_p46, List.forall_mem_cons.mpr ⟨lw_p47, fun _ h => absurd h List.not_mem_nil⟩⟩⟩⟩⟩⟩⟩⟩⟩⟩⟩⟩⟩⟩⟩⟩
theorem lw_p48 : lw_okq (⟨"AnchoredNotesModel", "replyCount", "()I"⟩, 17) := ⟨⟨by decide +kernel, by decide +kernel⟩, List.mem_of_getElem? (i := 642) (by decide +kernel), List.mem_of_getElem? (i := 922) (by decide +kernel), List.mem_of_getElem? (i := 923) (by decide +kernel)⟩
theorem lw_p49 : lw_okq (⟨"AnchoredNotesModel", "lastLine", "()I"⟩, 17) := ⟨⟨by decide +kernel, by decide +kernel⟩, List.mem_of_getElem? (i := 642) (by decide +kernel), List.mem_of_getElem? (i := 926) (by decide +kernel), List.mem_of_getElem? (i := 927) (by decide +kernel)⟩
theorem lw_p50 : lw_okq (⟨"AnchoredNotesModel", "leaders", "(Z)I"⟩, 17) := ⟨⟨by decide +kernel, by decide +kernel⟩, List.mem_of_getElem? (i := 642) (by decide +kernel), List.mem_of_getElem? (i := 930) (by decide +kernel), List.mem_of_getElem? (i := 931) (by decide +kernel)⟩
theorem lw_p51 : lw_okq (⟨"AnchoredNotesModel", "isText", "()Z"⟩, 17) := ⟨⟨by decide +kernel, by decide +kernel⟩, List.mem_of_getElem? (i := 642) (by decide +kernel), List.mem_of_getElem? (i := 965) (by decide +kernel), List.mem_of_getElem? (i := 966) (by decide +kernel)⟩
theorem lw_p52 : lw_okq (⟨"AnchoredNotesModel", "isOrder", "()Z"⟩, 17) := ⟨⟨by decide +kernel, by decide +kernel⟩, List.mem_of_getElem? (i := 642) (by decide +kernel), List.mem_of_getElem? (i := 969) (by decide +kernel), List.mem_of_getElem? (i := 970) (by decide +kernel)⟩
theorem lw_p53 : lw_okq (⟨"AnchoredNotesModel", "isNumber", "(I)Z"⟩, 17) := ⟨⟨by decide +kernel, by decide +kernel⟩, List.mem_of_getElem? (i := 642) (by decide +kernel), List.mem_of_getElem? (i := 973) (by decide +kernel), List.mem_of_getElem? (i := 974) (by decide +kernel)⟩
theorem lw_p54 : lw_okq (⟨"AnchoredNotesModel", "isAt", "(II)Z"⟩, 17) := ⟨⟨by decide +kernel, by decide +kernel⟩, List.mem_of_getElem? (i := 642) (by decide +kernel), List.mem_of_getElem? (i := 977) (by decide +kernel), List.mem_of_getElem? (i := 978) (by decide +kernel)⟩
theorem lw_p55 : lw_okq (⟨"AnchoredNotesModel", "isSign", "(I)Z"⟩, 17) := ⟨⟨by decide +kernel, by decide +kernel⟩, List.mem_of_getElem? (i := 642) (by decide +kernel), List.mem_of_getElem? (i := 981) (by decide +kernel), List.mem_of_getElem? (i := 982) (by decide +kernel)⟩
theorem lw_p56 : lw_okq (⟨"AnchoredNotesModel", "isWord", "()Z"⟩, 17) := ⟨⟨by decide +kernel, by decide +kernel⟩, List.mem_of_getElem? (i := 642) (by decide +kernel), List.mem_of_getElem? (i := 985) (by decide +kernel), List.mem_of_getElem? (i := 986) (by decide +kernel)⟩
theorem lw_p57 : lw_okq (⟨"AnchoredNotesModel", "isSpan", "()Z"⟩, 17) := ⟨⟨by decide +kernel, by decide +kernel⟩, List.mem_of_getElem? (i := 642) (by decide +kernel), List.mem_of_getElem? (i := 989) (by decide +kernel), List.mem_of_getElem? (i := 990) (by decide +kernel)⟩
theorem lw_p58 : lw_okq (⟨"AnchoredNotesModel", "does", "(I)Z"⟩, 17) := ⟨⟨by decide +kernel, by decide +kernel⟩, List.mem_of_getElem? (i := 642) (by decide +kernel), List.mem_of_getElem? (i := 997) (by decide +kernel), List.mem_of_getElem? (i := 998) (by decide +kernel)⟩
theorem lw_p59 : lw_okq (⟨"AnchoredNotesModel", "writes", "(III)Z"⟩, 17) := ⟨⟨by decide +kernel, by decide +kernel⟩, List.mem_of_getElem? (i := 642) (by decide +kernel), List.mem_of_getElem? (i := 1001) (by decide +kernel), List.mem_of_getElem? (i := 1002) (by decide +kernel)⟩
theorem lw_p60 : lw_okq (⟨"AnchoredNotesModel", "may", "(IIII)I"⟩, 17) := ⟨⟨by decide +kernel, by decide +kernel⟩, List.mem_of_getElem? (i := 642) (by decide +kernel), List.mem_of_getElem? (i := 1005) (by decide +kernel), List.mem_of_getElem? (i := 1006) (by decide +kernel)⟩
def lw_privs_4 : List (MethodName × Nat) := [(⟨"AnchoredNotesModel", "replyCount", "()I"⟩, 17), (⟨"AnchoredNotesModel", "lastLine", "()I"⟩, 17), (⟨"AnchoredNotesModel", "leaders", "(Z)I"⟩, 17), (⟨"AnchoredNotesModel", "isText", "()Z"⟩, 17), (⟨"AnchoredNotesModel", "isOrder", "()Z"⟩, 17), (⟨"AnchoredNotesModel", "isNumber", "(I)Z"⟩, 17), (⟨"AnchoredNotesModel", "isAt", "(II)Z"⟩, 17), (⟨"AnchoredNotesModel", "isSign", "(I)Z"⟩, 17), (⟨"AnchoredNotesModel", "isWord", "()Z"⟩, 17), (⟨"AnchoredNotesModel", "isSpan", "()Z"⟩, 17), (⟨"AnchoredNotesModel", "does", "(I)Z"⟩, 17), (⟨"AnchoredNotesModel", "writes", "(III)Z"⟩, 17), (⟨"AnchoredNotesModel", "may", "(IIII)I"⟩, 17)]
theorem lw_r4 : ∀ q ∈ lw_privs_4, lw_okq q := List.forall_mem_cons.mpr ⟨lw_p48, List.forall_mem_cons.mpr ⟨lw_p49, List.forall_mem_cons.mpr ⟨lw_p50, List.forall_mem_cons.mpr ⟨lw_p51, List.forall_mem_cons.mpr ⟨lw_p52, List.forall_mem_cons.mpr ⟨lw_p53, List.forall_mem_cons.mpr ⟨lw_p54, List.forall_mem_cons.mpr ⟨lw_p55, List.forall_mem_cons.mpr ⟨lw_p56, List.forall_mem_cons.mpr ⟨lw_p57, List.forall_mem_cons.mpr ⟨lw_p58, List.forall_mem_cons.mpr ⟨lw_p59, List.forall_mem_cons.mpr ⟨lw_p60, fun _ h => absurd h List.not_mem_nil⟩⟩⟩⟩⟩⟩⟩⟩⟩⟩⟩⟩⟩
def lw_privs : List (MethodName × Nat) := lw_privs_1 ++ (lw_privs_2 ++ (lw_privs_3 ++ (lw_privs_4)))
def lw_tbl : List Cond := k2_sels lw_privs ++ tables_1
theorem lw_privs_ok : ∀ q ∈ lw_privs, lw_okq q := by
  show ∀ q ∈ lw_privs_1 ++ (lw_privs_2 ++ (lw_privs_3 ++ (lw_privs_4))), lw_okq q
  exact List.forall_mem_append.mpr ⟨lw_r1, List.forall_mem_append.mpr ⟨lw_r2, List.forall_mem_append.mpr ⟨lw_r3, lw_r4⟩⟩⟩
-- ===== end of PART A; then your names; then what follows =====
/-! ===== BEGIN words of one list among another's, by their places ===== -/
theorem goodIn_r {big : List Cond} (ws : List Cond) (ps : List Nat) (hp : ws = ps.filterMap (fun i => big[i]?)) (h : ws.all goodWord = true) : GoodIn big ws := by
  intro w hw
  have h1 := List.all_eq_true.mp h w hw
  rw [hp] at hw
  obtain ⟨i, -, hi⟩ := List.mem_filterMap.mp hw
  have hm : w ∈ big := by first | exact List.mem_of_getElem? hi | exact List.getElem?_mem hi
  exact ⟨hm, good_of_word h1⟩
theorem goodIn_app {big a b : List Cond} (ha : GoodIn big a) (hb : GoodIn big b) : GoodIn big (a ++ b) := fun w h => (List.mem_append.mp h).elim (ha w) (hb w)
theorem goodIn_ca {big a b : List Cond} {c : Cond} (ha : GoodIn big (c :: a)) (hb : GoodIn big b) : GoodIn big (c :: (a ++ b)) := fun w h => (List.mem_cons.mp h).elim (fun e => ha w (List.mem_cons.mpr (Or.inl e))) (fun h => (List.mem_append.mp h).elim (fun h => ha w (List.mem_cons.mpr (Or.inr h))) (hb w))
theorem goodIn_sub {big ws : List Cond} (hm : ∀ w ∈ ws, w ∈ big) (h : ws.all goodWord = true) : GoodIn big ws := fun w hw => ⟨hm w hw, good_of_word (List.all_eq_true.mp h w hw)⟩
/-! ===== END ===== -/

/-! ===== BEGIN printed: names, fields, word lists, decode rows ===== -/
def RX0 : String := "AnchoredNotes$History"
def TX0 : u_T := fun k => match k with
  | 0 => ("AnchoredNotes$History", "states", "[LAnchoredNotes$Page;", true)
  | _ => ("AnchoredNotes$History", "size", "I", false)
def tyX0 : Nat → FieldType := fun k => match k with
  | 0 => .array (.object "AnchoredNotes$Page")
  | _ => .int
abbrev wsX00 : List Cond := u_ws RX0 TX0 2
theorem nmX0 : ∀ a, a < 2 → ∀ b, b < 2 → a ≠ b → (TX0 a).2.1 ≠ (TX0 b).2.1 := by decide +kernel
theorem tyX0_ok : ∀ k, k < 2 → parseFieldDescriptor (TX0 k).2.2.1 = some (tyX0 k) := by decide +kernel
abbrev cX0_init : ByteArray := prog_2_method_1_code
def yX0_init : MethodName := ⟨RX0, "<init>", "()V"⟩
abbrev cX0_keep : ByteArray := prog_2_method_2_code
def yX0_keep : MethodName := ⟨RX0, "keep", "(LAnchoredNotes$Page;)V"⟩
abbrev cX0_confirm : ByteArray := prog_2_method_3_code
def yX0_confirm : MethodName := ⟨RX0, "confirm", "(I)I"⟩
abbrev cX0_forgetOldest : ByteArray := prog_2_method_4_code
def yX0_forgetOldest : MethodName := ⟨RX0, "forgetOldest", "()V"⟩
abbrev cX0_goBack : ByteArray := prog_2_method_5_code
def yX0_goBack : MethodName := ⟨RX0, "goBack", "(LAnchoredNotes$Page;)Z"⟩
def RX1 : String := "AnchoredNotes$Margin"
def TX1 : u_T := fun k => match k with
  | 0 => ("AnchoredNotes$Margin", "lines", "LAnchoredNotes$Row;", true)
  | 1 => ("AnchoredNotes$Margin", "leaders", "LAnchoredNotes$Row;", true)
  | 2 => ("AnchoredNotes$Margin", "lastLine", "I", false)
  | 3 => ("AnchoredNotes$Margin", "allLeaders", "I", false)
  | 4 => ("AnchoredNotes$Margin", "longestLeader", "I", false)
  | 5 => ("AnchoredNotes$Margin", "firsts", "LAnchoredNotes$Row;", true)
  | _ => ("AnchoredNotes$Margin", "used", "LAnchoredNotes$Row;", true)
def tyX1 : Nat → FieldType := fun k => match k with
  | 0 => .object "AnchoredNotes$Row"
  | 1 => .object "AnchoredNotes$Row"
  | 2 => .int
  | 3 => .int
  | 4 => .int
  | 5 => .object "AnchoredNotes$Row"
  | _ => .object "AnchoredNotes$Row"
abbrev wsX10 : List Cond := u_ws RX1 TX1 7
theorem nmX1 : ∀ a, a < 7 → ∀ b, b < 7 → a ≠ b → (TX1 a).2.1 ≠ (TX1 b).2.1 := by decide +kernel
theorem tyX1_ok : ∀ k, k < 7 → parseFieldDescriptor (TX1 k).2.2.1 = some (tyX1 k) := by decide +kernel
abbrev cX1_init : ByteArray := prog_3_method_1_code
def yX1_init : MethodName := ⟨RX1, "<init>", "()V"⟩
abbrev cX1_layOut : ByteArray := prog_3_method_2_code
def yX1_layOut : MethodName := ⟨RX1, "layOut", "(LAnchoredNotes$Page;I)V"⟩
abbrev cX1_empty : ByteArray := prog_3_method_3_code
def yX1_empty : MethodName := ⟨RX1, "empty", "()V"⟩
abbrev cX1_print : ByteArray := prog_3_method_4_code
def yX1_print : MethodName := ⟨RX1, "print", "(III)V"⟩
def RX2 : String := "AnchoredNotes$Note"
def TX2 : u_T := fun k => match k with
  | 0 => ("AnchoredNotes$Note", "target", "I", false)
  | 1 => ("AnchoredNotes$Note", "words", "LAnchoredNotes$Row;", true)
  | 2 => ("AnchoredNotes$Note", "ahead", "LAnchoredNotes$Row;", true)
  | _ => ("AnchoredNotes$Note", "behind", "LAnchoredNotes$Row;", true)
def tyX2 : Nat → FieldType := fun k => match k with
  | 0 => .int
  | 1 => .object "AnchoredNotes$Row"
  | 2 => .object "AnchoredNotes$Row"
  | _ => .object "AnchoredNotes$Row"
abbrev wsX20 : List Cond := u_ws RX2 TX2 4
theorem nmX2 : ∀ a, a < 4 → ∀ b, b < 4 → a ≠ b → (TX2 a).2.1 ≠ (TX2 b).2.1 := by decide +kernel
theorem tyX2_ok : ∀ k, k < 4 → parseFieldDescriptor (TX2 k).2.2.1 = some (tyX2 k) := by decide +kernel
abbrev cX2_init : ByteArray := prog_4_method_1_code
def yX2_init : MethodName := ⟨RX2, "<init>", "()V"⟩
abbrev cX2_isReply : ByteArray := prog_4_method_2_code
def yX2_isReply : MethodName := ⟨RX2, "isReply", "()Z"⟩
abbrev cX2_becomeReply : ByteArray := prog_4_method_3_code
def yX2_becomeReply : MethodName := ⟨RX2, "becomeReply", "(I)V"⟩
abbrev cX2_remember : ByteArray := prog_4_method_4_code
def yX2_remember : MethodName := ⟨RX2, "remember", "(LAnchoredNotes$Row;III)V"⟩
abbrev cX2_copyFrom : ByteArray := prog_4_method_5_code
def yX2_copyFrom : MethodName := ⟨RX2, "copyFrom", "(LAnchoredNotes$Note;)V"⟩
def RX3 : String := "AnchoredNotes$OrderReader"
def TX3 : u_T := fun k => match k with
  | 0 => ("AnchoredNotes$OrderReader", "next", "I", false)
  | 1 => ("AnchoredNotes$OrderReader", "kind", "I", false)
  | 2 => ("AnchoredNotes$OrderReader", "lettersFrom", "I", false)
  | _ => ("AnchoredNotes$OrderReader", "numbers", "LAnchoredNotes$Row;", true)
def tyX3 : Nat → FieldType := fun k => match k with
  | 0 => .int
  | 1 => .int
  | 2 => .int
  | _ => .object "AnchoredNotes$Row"
abbrev wsX30 : List Cond := u_ws RX3 TX3 4
theorem nmX3 : ∀ a, a < 4 → ∀ b, b < 4 → a ≠ b → (TX3 a).2.1 ≠ (TX3 b).2.1 := by decide +kernel
theorem tyX3_ok : ∀ k, k < 4 → parseFieldDescriptor (TX3 k).2.2.1 = some (tyX3 k) := by decide +kernel
abbrev cX3_init : ByteArray := prog_5_method_1_code
def yX3_init : MethodName := ⟨RX3, "<init>", "()V"⟩
abbrev cX3_start : ByteArray := prog_5_method_2_code
def yX3_start : MethodName := ⟨RX3, "start", "()V"⟩
abbrev cX3_findFault : ByteArray := prog_5_method_3_code
def yX3_findFault : MethodName := ⟨RX3, "findFault", "(LAnchoredNotes$Row;)I"⟩
abbrev cX3_readOrder : ByteArray := prog_5_method_4_code
def yX3_readOrder : MethodName := ⟨RX3, "readOrder", "(LAnchoredNotes$Row;)Z"⟩
abbrev cX3_skip : ByteArray := prog_5_method_5_code
def yX3_skip : MethodName := ⟨RX3, "skip", "(LAnchoredNotes$Row;I)Z"⟩
abbrev cX3_readNumber : ByteArray := prog_5_method_6_code
def yX3_readNumber : MethodName := ⟨RX3, "readNumber", "(LAnchoredNotes$Row;)Z"⟩
abbrev cX3_readLetters : ByteArray := prog_5_method_7_code
def yX3_readLetters : MethodName := ⟨RX3, "readLetters", "(LAnchoredNotes$Row;)Z"⟩
abbrev cX3_isDigit : ByteArray := prog_5_method_8_code
def yX3_isDigit : MethodName := ⟨RX3, "isDigit", "(I)Z"⟩
abbrev cX3_isLetter : ByteArray := prog_5_method_9_code
def yX3_isLetter : MethodName := ⟨RX3, "isLetter", "(I)Z"⟩
def RX4 : String := "AnchoredNotes$Page"
def TX4 : u_T := fun k => match k with
  | 0 => ("AnchoredNotes$Page", "settings", "LAnchoredNotes$Row;", true)
  | 1 => ("AnchoredNotes$Page", "letters", "LAnchoredNotes$Row;", true)
  | 2 => ("AnchoredNotes$Page", "owners", "LAnchoredNotes$Row;", true)
  | 3 => ("AnchoredNotes$Page", "notes", "[LAnchoredNotes$Note;", true)
  | 4 => ("AnchoredNotes$Page", "noteCount", "I", false)
  | _ => ("AnchoredNotes$Page", "pieces", "LAnchoredNotes$Pieces;", true)
def tyX4 : Nat → FieldType := fun k => match k with
  | 0 => .object "AnchoredNotes$Row"
  | 1 => .object "AnchoredNotes$Row"
  | 2 => .object "AnchoredNotes$Row"
  | 3 => .array (.object "AnchoredNotes$Note")
  | 4 => .int
  | _ => .object "AnchoredNotes$Pieces"
abbrev wsX40 : List Cond := u_ws RX4 TX4 6
theorem nmX4 : ∀ a, a < 6 → ∀ b, b < 6 → a ≠ b → (TX4 a).2.1 ≠ (TX4 b).2.1 := by decide +kernel
theorem tyX4_ok : ∀ k, k < 6 → parseFieldDescriptor (TX4 k).2.2.1 = some (tyX4 k) := by decide +kernel
abbrev cX4_init : ByteArray := prog_6_method_1_code
def yX4_init : MethodName := ⟨RX4, "<init>", "()V"⟩
abbrev cX4_copyFrom : ByteArray := prog_6_method_2_code
def yX4_copyFrom : MethodName := ⟨RX4, "copyFrom", "(LAnchoredNotes$Page;)V"⟩
abbrev cX4_changeSetting : ByteArray := prog_6_method_3_code
def yX4_changeSetting : MethodName := ⟨RX4, "changeSetting", "(II)I"⟩
abbrev cX4_leastOf : ByteArray := prog_6_method_4_code
def yX4_leastOf : MethodName := ⟨RX4, "leastOf", "(I)I"⟩
abbrev cX4_mostOf : ByteArray := prog_6_method_5_code
def yX4_mostOf : MethodName := ⟨RX4, "mostOf", "(I)I"⟩
abbrev cX4_writeLetter : ByteArray := prog_6_method_6_code
def yX4_writeLetter : MethodName := ⟨RX4, "writeLetter", "(II)I"⟩
abbrev cX4_eraseLetters : ByteArray := prog_6_method_7_code
def yX4_eraseLetters : MethodName := ⟨RX4, "eraseLetters", "(II)I"⟩
abbrev cX4_orphanedBy : ByteArray := prog_6_method_8_code
def yX4_orphanedBy : MethodName := ⟨RX4, "orphanedBy", "(II)I"⟩
abbrev cX4_moveLetters : ByteArray := prog_6_method_9_code
def yX4_moveLetters : MethodName := ⟨RX4, "moveLetters", "(III)I"⟩
abbrev cX4_passageError : ByteArray := prog_6_method_10_code
def yX4_passageError : MethodName := ⟨RX4, "passageError", "(II)I"⟩
abbrev cX4_find : ByteArray := prog_6_method_11_code
def yX4_find : MethodName := ⟨RX4, "find", "(I)LAnchoredNotes$Note;"⟩
abbrev cX4_addNote : ByteArray := prog_6_method_12_code
def yX4_addNote : MethodName := ⟨RX4, "addNote", "(II)I"⟩
abbrev cX4_anchor : ByteArray := prog_6_method_13_code
def yX4_anchor : MethodName := ⟨RX4, "anchor", "(III)V"⟩
abbrev cX4_addReply : ByteArray := prog_6_method_14_code
def yX4_addReply : MethodName := ⟨RX4, "addReply", "(I)I"⟩
abbrev cX4_dropFamily : ByteArray := prog_6_method_15_code
def yX4_dropFamily : MethodName := ⟨RX4, "dropFamily", "(I)I"⟩
abbrev cX4_remove : ByteArray := prog_6_method_16_code
def yX4_remove : MethodName := ⟨RX4, "remove", "(I)V"⟩
abbrev cX4_reclaimNote : ByteArray := prog_6_method_17_code
def yX4_reclaimNote : MethodName := ⟨RX4, "reclaimNote", "(ILAnchoredNotes$Search;)I"⟩
abbrev cX4_state : ByteArray := prog_6_method_18_code
def yX4_state : MethodName := ⟨RX4, "state", "(I)I"⟩
abbrev cX4_piecesOf : ByteArray := prog_6_method_19_code
def yX4_piecesOf : MethodName := ⟨RX4, "piecesOf", "(I)LAnchoredNotes$Pieces;"⟩
abbrev cX4_depth : ByteArray := prog_6_method_20_code
def yX4_depth : MethodName := ⟨RX4, "depth", "(I)I"⟩
abbrev cX4_root : ByteArray := prog_6_method_21_code
def yX4_root : MethodName := ⟨RX4, "root", "(I)I"⟩
abbrev cX4_family : ByteArray := prog_6_method_22_code
def yX4_family : MethodName := ⟨RX4, "family", "(I)I"⟩
abbrev cX4_countState : ByteArray := prog_6_method_23_code
def yX4_countState : MethodName := ⟨RX4, "countState", "(I)I"⟩
abbrev cX4_countParted : ByteArray := prog_6_method_24_code
def yX4_countParted : MethodName := ⟨RX4, "countParted", "()I"⟩
abbrev cX4_countLines : ByteArray := prog_6_method_25_code
def yX4_countLines : MethodName := ⟨RX4, "countLines", "()I"⟩
abbrev cX4_lineOf : ByteArray := prog_6_method_26_code
def yX4_lineOf : MethodName := ⟨RX4, "lineOf", "(I)I"⟩
def RX5 : String := "AnchoredNotes$Pieces"
def TX5 : u_T := fun k => match k with
  | 0 => ("AnchoredNotes$Pieces", "pieces", "I", false)
  | 1 => ("AnchoredNotes$Pieces", "letters", "I", false)
  | 2 => ("AnchoredNotes$Pieces", "first", "I", false)
  | _ => ("AnchoredNotes$Pieces", "last", "I", false)
def tyX5 : Nat → FieldType := fun k => match k with
  | 0 => .int
  | 1 => .int
  | 2 => .int
  | _ => .int
abbrev wsX50 : List Cond := u_ws RX5 TX5 4
theorem nmX5 : ∀ a, a < 4 → ∀ b, b < 4 → a ≠ b → (TX5 a).2.1 ≠ (TX5 b).2.1 := by decide +kernel
theorem tyX5_ok : ∀ k, k < 4 → parseFieldDescriptor (TX5 k).2.2.1 = some (tyX5 k) := by decide +kernel
abbrev cX5_init : ByteArray := prog_7_method_1_code
def yX5_init : MethodName := ⟨RX5, "<init>", "()V"⟩
abbrev cX5_gather : ByteArray := prog_7_method_2_code
def yX5_gather : MethodName := ⟨RX5, "gather", "(LAnchoredNotes$Row;I)V"⟩
def RX6 : String := "AnchoredNotes$Row"
def TX6 : u_T := fun k => match k with
  | 0 => ("AnchoredNotes$Row", "items", "[I", true)
  | _ => ("AnchoredNotes$Row", "length", "I", false)
def tyX6 : Nat → FieldType := fun k => match k with
  | 0 => .array .int
  | _ => .int
abbrev wsX60 : List Cond := u_ws RX6 TX6 2
theorem nmX6 : ∀ a, a < 2 → ∀ b, b < 2 → a ≠ b → (TX6 a).2.1 ≠ (TX6 b).2.1 := by decide +kernel
theorem tyX6_ok : ∀ k, k < 2 → parseFieldDescriptor (TX6 k).2.2.1 = some (tyX6 k) := by decide +kernel
abbrev cX6_init : ByteArray := prog_8_method_1_code
def yX6_init : MethodName := ⟨RX6, "<init>", "(I)V"⟩
abbrev cX6_has : ByteArray := prog_8_method_2_code
def yX6_has : MethodName := ⟨RX6, "has", "(I)Z"⟩
abbrev cX6_item : ByteArray := prog_8_method_3_code
def yX6_item : MethodName := ⟨RX6, "item", "(I)I"⟩
abbrev cX6_replace : ByteArray := prog_8_method_4_code
def yX6_replace : MethodName := ⟨RX6, "replace", "(II)V"⟩
abbrev cX6_insert : ByteArray := prog_8_method_5_code
def yX6_insert : MethodName := ⟨RX6, "insert", "(II)V"⟩
abbrev cX6_add : ByteArray := prog_8_method_6_code
def yX6_add : MethodName := ⟨RX6, "add", "(I)V"⟩
abbrev cX6_cut : ByteArray := prog_8_method_7_code
def yX6_cut : MethodName := ⟨RX6, "cut", "(II)V"⟩
abbrev cX6_clear : ByteArray := prog_8_method_8_code
def yX6_clear : MethodName := ⟨RX6, "clear", "()V"⟩
abbrev cX6_shift : ByteArray := prog_8_method_9_code
def yX6_shift : MethodName := ⟨RX6, "shift", "(III)V"⟩
abbrev cX6_exchange : ByteArray := prog_8_method_10_code
def yX6_exchange : MethodName := ⟨RX6, "exchange", "(III)V"⟩
abbrev cX6_turn : ByteArray := prog_8_method_11_code
def yX6_turn : MethodName := ⟨RX6, "turn", "(II)V"⟩
abbrev cX6_copyFrom : ByteArray := prog_8_method_12_code
def yX6_copyFrom : MethodName := ⟨RX6, "copyFrom", "(LAnchoredNotes$Row;)V"⟩
abbrev cX6_copyPart : ByteArray := prog_8_method_13_code
def yX6_copyPart : MethodName := ⟨RX6, "copyPart", "(LAnchoredNotes$Row;III)V"⟩
abbrev cX6_countAlike : ByteArray := prog_8_method_14_code
def yX6_countAlike : MethodName := ⟨RX6, "countAlike", "(LAnchoredNotes$Row;II)I"⟩
def RX7 : String := "AnchoredNotes$Search"
def TX7 : u_T := fun k => match k with
  | 0 => ("AnchoredNotes$Search", "place", "I", false)
  | 1 => ("AnchoredNotes$Search", "likeness", "I", false)
  | _ => ("AnchoredNotes$Search", "places", "I", false)
def tyX7 : Nat → FieldType := fun k => match k with
  | 0 => .int
  | 1 => .int
  | _ => .int
abbrev wsX70 : List Cond := u_ws RX7 TX7 3
theorem nmX7 : ∀ a, a < 3 → ∀ b, b < 3 → a ≠ b → (TX7 a).2.1 ≠ (TX7 b).2.1 := by decide +kernel
theorem tyX7_ok : ∀ k, k < 3 → parseFieldDescriptor (TX7 k).2.2.1 = some (tyX7 k) := by decide +kernel
abbrev cX7_init : ByteArray := prog_9_method_1_code
def yX7_init : MethodName := ⟨RX7, "<init>", "()V"⟩
abbrev cX7_look : ByteArray := prog_9_method_2_code
def yX7_look : MethodName := ⟨RX7, "look", "(LAnchoredNotes$Row;LAnchoredNotes$Note;)V"⟩
def RX8 : String := "AnchoredNotes"
def TX8 : u_T := fun k => match k with
  | 0 => ("AnchoredNotes", "page", "LAnchoredNotes$Page;", true)
  | 1 => ("AnchoredNotes", "margin", "LAnchoredNotes$Margin;", true)
  | 2 => ("AnchoredNotes", "search", "LAnchoredNotes$Search;", true)
  | 3 => ("AnchoredNotes", "pad", "LAnchoredNotes$Row;", true)
  | 4 => ("AnchoredNotes", "reader", "LAnchoredNotes$OrderReader;", true)
  | 5 => ("AnchoredNotes", "history", "LAnchoredNotes$History;", true)
  | _ => ("AnchoredNotes", "slots", "[LAnchoredNotes$Page;", true)
def tyX8 : Nat → FieldType := fun k => match k with
  | 0 => .object "AnchoredNotes$Page"
  | 1 => .object "AnchoredNotes$Margin"
  | 2 => .object "AnchoredNotes$Search"
  | 3 => .object "AnchoredNotes$Row"
  | 4 => .object "AnchoredNotes$OrderReader"
  | 5 => .object "AnchoredNotes$History"
  | _ => .array (.object "AnchoredNotes$Page")
abbrev wsX80 : List Cond := u_ws RX8 TX8 7
theorem nmX8 : ∀ a, a < 7 → ∀ b, b < 7 → a ≠ b → (TX8 a).2.1 ≠ (TX8 b).2.1 := by decide +kernel
theorem tyX8_ok : ∀ k, k < 7 → parseFieldDescriptor (TX8 k).2.2.1 = some (tyX8 k) := by decide +kernel
abbrev cX8_init : ByteArray := prog_1_method_1_code
def yX8_init : MethodName := ⟨RX8, "<init>", "()V"⟩
abbrev cX8_set : ByteArray := prog_1_method_2_code
def yX8_set : MethodName := ⟨RX8, "set", "(II)I"⟩
abbrev cX8_write : ByteArray := prog_1_method_3_code
def yX8_write : MethodName := ⟨RX8, "write", "(II)I"⟩
abbrev cX8_erase : ByteArray := prog_1_method_4_code
def yX8_erase : MethodName := ⟨RX8, "erase", "(II)I"⟩
abbrev cX8_move : ByteArray := prog_1_method_5_code
def yX8_move : MethodName := ⟨RX8, "move", "(III)I"⟩
abbrev cX8_note : ByteArray := prog_1_method_6_code
def yX8_note : MethodName := ⟨RX8, "note", "(II)I"⟩
abbrev cX8_reply : ByteArray := prog_1_method_7_code
def yX8_reply : MethodName := ⟨RX8, "reply", "(I)I"⟩
abbrev cX8_drop : ByteArray := prog_1_method_8_code
def yX8_drop : MethodName := ⟨RX8, "drop", "(I)I"⟩
abbrev cX8_reclaim : ByteArray := prog_1_method_9_code
def yX8_reclaim : MethodName := ⟨RX8, "reclaim", "(I)I"⟩
abbrev cX8_letter : ByteArray := prog_1_method_10_code
def yX8_letter : MethodName := ⟨RX8, "letter", "(I)I"⟩
abbrev cX8_of : ByteArray := prog_1_method_11_code
def yX8_of : MethodName := ⟨RX8, "of", "(II)I"⟩
abbrev cX8_word : ByteArray := prog_1_method_12_code
def yX8_word : MethodName := ⟨RX8, "word", "(II)I"⟩
abbrev cX8_at : ByteArray := prog_1_method_13_code
def yX8_at : MethodName := ⟨RX8, "at", "(I)I"⟩
abbrev cX8_printed : ByteArray := prog_1_method_14_code
def yX8_printed : MethodName := ⟨RX8, "printed", "(II)I"⟩
abbrev cX8_count : ByteArray := prog_1_method_15_code
def yX8_count : MethodName := ⟨RX8, "count", "(I)I"⟩
abbrev cX8_orphansIf : ByteArray := prog_1_method_16_code
def yX8_orphansIf : MethodName := ⟨RX8, "orphansIf", "(II)I"⟩
abbrev cX8_could : ByteArray := prog_1_method_17_code
def yX8_could : MethodName := ⟨RX8, "could", "(II)I"⟩
abbrev cX8_leastRoom : ByteArray := prog_1_method_18_code
def yX8_leastRoom : MethodName := ⟨RX8, "leastRoom", "(I)I"⟩
abbrev cX8_put : ByteArray := prog_1_method_19_code
def yX8_put : MethodName := ⟨RX8, "put", "(J)I"⟩
abbrev cX8_wipe : ByteArray := prog_1_method_20_code
def yX8_wipe : MethodName := ⟨RX8, "wipe", "()I"⟩
abbrev cX8_fault : ByteArray := prog_1_method_21_code
def yX8_fault : MethodName := ⟨RX8, "fault", "()I"⟩
abbrev cX8_carryOut : ByteArray := prog_1_method_22_code
def yX8_carryOut : MethodName := ⟨RX8, "carryOut", "()I"⟩
abbrev cX8_undo : ByteArray := prog_1_method_23_code
def yX8_undo : MethodName := ⟨RX8, "undo", "()I"⟩
abbrev cX8_save : ByteArray := prog_1_method_24_code
def yX8_save : MethodName := ⟨RX8, "save", "(I)I"⟩
abbrev cX8_restore : ByteArray := prog_1_method_25_code
def yX8_restore : MethodName := ⟨RX8, "restore", "(I)I"⟩
abbrev cX8_obey : ByteArray := prog_1_method_26_code
def yX8_obey : MethodName := ⟨RX8, "obey", "()I"⟩
abbrev cX8_writeRow : ByteArray := prog_1_method_27_code
def yX8_writeRow : MethodName := ⟨RX8, "writeRow", "(I)I"⟩
abbrev cX8_countCharacters : ByteArray := prog_1_method_28_code
def yX8_countCharacters : MethodName := ⟨RX8, "countCharacters", "(J)I"⟩
abbrev cX8_isIn : ByteArray := prog_1_method_29_code
def yX8_isIn : MethodName := ⟨RX8, "isIn", "(II)Z"⟩
def RX9 : String := "AnchoredNotesModel"
def TX9 : u_T := fun k => match k with
  | 0 => ("AnchoredNotesModel", "now", "[I", true)
  | 1 => ("AnchoredNotesModel", "past", "[I", true)
  | 2 => ("AnchoredNotesModel", "kept", "I", false)
  | 3 => ("AnchoredNotesModel", "slots", "[I", true)
  | 4 => ("AnchoredNotesModel", "held", "[Z", true)
  | 5 => ("AnchoredNotesModel", "pad", "[I", true)
  | 6 => ("AnchoredNotesModel", "padded", "I", false)
  | 7 => ("AnchoredNotesModel", "at", "I", false)
  | 8 => ("AnchoredNotesModel", "orders", "[I", true)
  | 9 => ("AnchoredNotesModel", "ordered", "I", false)
  | 10 => ("AnchoredNotesModel", "first", "I", false)
  | 11 => ("AnchoredNotesModel", "last", "I", false)
  | 12 => ("AnchoredNotesModel", "pieces", "I", false)
  | 13 => ("AnchoredNotesModel", "lines", "[I", true)
  | 14 => ("AnchoredNotesModel", "own", "[I", true)
  | 15 => ("AnchoredNotesModel", "full", "[I", true)
  | _ => ("AnchoredNotesModel", "taken", "[I", true)
def tyX9 : Nat → FieldType := fun k => match k with
  | 0 => .array .int
  | 1 => .array .int
  | 2 => .int
  | 3 => .array .int
  | 4 => .array .boolean
  | 5 => .array .int
  | 6 => .int
  | 7 => .int
  | 8 => .array .int
  | 9 => .int
  | 10 => .int
  | 11 => .int
  | 12 => .int
  | 13 => .array .int
  | 14 => .array .int
  | 15 => .array .int
  | _ => .array .int
abbrev wsX90 : List Cond := u_ws RX9 TX9 17
theorem nmX9 : ∀ a, a < 17 → ∀ b, b < 17 → a ≠ b → (TX9 a).2.1 ≠ (TX9 b).2.1 := by decide +kernel
theorem tyX9_ok : ∀ k, k < 17 → parseFieldDescriptor (TX9 k).2.2.1 = some (tyX9 k) := by decide +kernel
abbrev cX9_init : ByteArray := prog_11_method_1_code
def yX9_init : MethodName := ⟨RX9, "<init>", "()V"⟩
abbrev cX9_in : ByteArray := prog_11_method_3_code
def yX9_in : MethodName := ⟨RX9, "in", "(III)Z"⟩
abbrev cX9_of0 : ByteArray := prog_11_method_4_code
def yX9_of0 : MethodName := ⟨RX9, "of0", "(II)I"⟩
abbrev cX9_isNote : ByteArray := prog_11_method_5_code
def yX9_isNote : MethodName := ⟨RX9, "isNote", "(I)Z"⟩
abbrev cX9_isReply : ByteArray := prog_11_method_6_code
def yX9_isReply : MethodName := ⟨RX9, "isReply", "(I)Z"⟩
abbrev cX9_isPlace : ByteArray := prog_11_method_7_code
def yX9_isPlace : MethodName := ⟨RX9, "isPlace", "(I)Z"⟩
abbrev cX9_isOf : ByteArray := prog_11_method_8_code
def yX9_isOf : MethodName := ⟨RX9, "isOf", "(II)Z"⟩
abbrev cX9_lays : ByteArray := prog_11_method_9_code
def yX9_lays : MethodName := ⟨RX9, "lays", "([II[II)V"⟩
abbrev cX9_records : ByteArray := prog_11_method_10_code
def yX9_records : MethodName := ⟨RX9, "records", "()V"⟩
abbrev cX9_undo : ByteArray := prog_11_method_11_code
def yX9_undo : MethodName := ⟨RX9, "undo", "()I"⟩
abbrev cX9_save : ByteArray := prog_11_method_12_code
def yX9_save : MethodName := ⟨RX9, "save", "(I)I"⟩
abbrev cX9_restore : ByteArray := prog_11_method_13_code
def yX9_restore : MethodName := ⟨RX9, "restore", "(I)I"⟩
abbrev cX9_present : ByteArray := prog_11_method_14_code
def yX9_present : MethodName := ⟨RX9, "present", "(I)I"⟩
abbrev cX9_isOrphan : ByteArray := prog_11_method_15_code
def yX9_isOrphan : MethodName := ⟨RX9, "isOrphan", "(I)Z"⟩
abbrev cX9_finds : ByteArray := prog_11_method_16_code
def yX9_finds : MethodName := ⟨RX9, "finds", "(I)V"⟩
abbrev cX9_torn : ByteArray := prog_11_method_17_code
def yX9_torn : MethodName := ⟨RX9, "torn", "()I"⟩
abbrev cX9_orphans : ByteArray := prog_11_method_18_code
def yX9_orphans : MethodName := ⟨RX9, "orphans", "()I"⟩
abbrev cX9_rootOf : ByteArray := prog_11_method_19_code
def yX9_rootOf : MethodName := ⟨RX9, "rootOf", "(IZ)I"⟩
abbrev cX9_isBelow : ByteArray := prog_11_method_20_code
def yX9_isBelow : MethodName := ⟨RX9, "isBelow", "(II)Z"⟩
abbrev cX9_below : ByteArray := prog_11_method_21_code
def yX9_below : MethodName := ⟨RX9, "below", "(I)I"⟩
abbrev cX9_isFor : ByteArray := prog_11_method_22_code
def yX9_isFor : MethodName := ⟨RX9, "isFor", "(II)Z"⟩
abbrev cX9_set : ByteArray := prog_11_method_23_code
def yX9_set : MethodName := ⟨RX9, "set", "(II)I"⟩
abbrev cX9_mayWrite : ByteArray := prog_11_method_24_code
def yX9_mayWrite : MethodName := ⟨RX9, "mayWrite", "(II)I"⟩
abbrev cX9_comes : ByteArray := prog_11_method_25_code
def yX9_comes : MethodName := ⟨RX9, "comes", "(III)V"⟩
abbrev cX9_write : ByteArray := prog_11_method_26_code
def yX9_write : MethodName := ⟨RX9, "write", "(II)I"⟩
abbrev cX9_maySpan : ByteArray := prog_11_method_27_code
def yX9_maySpan : MethodName := ⟨RX9, "maySpan", "(II)I"⟩
abbrev cX9_goes : ByteArray := prog_11_method_28_code
def yX9_goes : MethodName := ⟨RX9, "goes", "(II)V"⟩
abbrev cX9_erases : ByteArray := prog_11_method_29_code
def yX9_erases : MethodName := ⟨RX9, "erases", "(II)I"⟩
abbrev cX9_erase : ByteArray := prog_11_method_30_code
def yX9_erase : MethodName := ⟨RX9, "erase", "(II)I"⟩
abbrev cX9_mayMove : ByteArray := prog_11_method_31_code
def yX9_mayMove : MethodName := ⟨RX9, "mayMove", "(III)I"⟩
abbrev cX9_moves : ByteArray := prog_11_method_32_code
def yX9_moves : MethodName := ⟨RX9, "moves", "(III)V"⟩
abbrev cX9_move : ByteArray := prog_11_method_33_code
def yX9_move : MethodName := ⟨RX9, "move", "(III)I"⟩
abbrev cX9_mayNote : ByteArray := prog_11_method_34_code
def yX9_mayNote : MethodName := ⟨RX9, "mayNote", "(II)I"⟩
abbrev cX9_remembers : ByteArray := prog_11_method_35_code
def yX9_remembers : MethodName := ⟨RX9, "remembers", "(III)V"⟩
abbrev cX9_takes : ByteArray := prog_11_method_36_code
def yX9_takes : MethodName := ⟨RX9, "takes", "(III)V"⟩
abbrev cX9_notes : ByteArray := prog_11_method_37_code
def yX9_notes : MethodName := ⟨RX9, "notes", "(II)I"⟩
abbrev cX9_note : ByteArray := prog_11_method_38_code
def yX9_note : MethodName := ⟨RX9, "note", "(II)I"⟩
abbrev cX9_mayReply : ByteArray := prog_11_method_39_code
def yX9_mayReply : MethodName := ⟨RX9, "mayReply", "(I)I"⟩
abbrev cX9_replies : ByteArray := prog_11_method_40_code
def yX9_replies : MethodName := ⟨RX9, "replies", "(I)I"⟩
abbrev cX9_reply : ByteArray := prog_11_method_41_code
def yX9_reply : MethodName := ⟨RX9, "reply", "(I)I"⟩
abbrev cX9_noteGoes : ByteArray := prog_11_method_42_code
def yX9_noteGoes : MethodName := ⟨RX9, "noteGoes", "(I)V"⟩
abbrev cX9_drops : ByteArray := prog_11_method_43_code
def yX9_drops : MethodName := ⟨RX9, "drops", "(I)I"⟩
abbrev cX9_drop : ByteArray := prog_11_method_44_code
def yX9_drop : MethodName := ⟨RX9, "drop", "(I)I"⟩
abbrev cX9_looksLike : ByteArray := prog_11_method_45_code
def yX9_looksLike : MethodName := ⟨RX9, "looksLike", "(II)Z"⟩
abbrev cX9_likeness : ByteArray := prog_11_method_46_code
def yX9_likeness : MethodName := ⟨RX9, "likeness", "(II)I"⟩
abbrev cX9_possible : ByteArray := prog_11_method_47_code
def yX9_possible : MethodName := ⟨RX9, "possible", "(II)I"⟩
abbrev cX9_mayReclaim : ByteArray := prog_11_method_48_code
def yX9_mayReclaim : MethodName := ⟨RX9, "mayReclaim", "(I)I"⟩
abbrev cX9_reclaims : ByteArray := prog_11_method_49_code
def yX9_reclaims : MethodName := ⟨RX9, "reclaims", "(I)I"⟩
abbrev cX9_reclaim : ByteArray := prog_11_method_50_code
def yX9_reclaim : MethodName := ⟨RX9, "reclaim", "(I)I"⟩
abbrev cX9_prints : ByteArray := prog_11_method_51_code
def yX9_prints : MethodName := ⟨RX9, "prints", "(I)V"⟩
abbrev cX9_leaders : ByteArray := prog_11_method_52_code
def yX9_leaders : MethodName := ⟨RX9, "leaders", "(Z)I"⟩
abbrev cX9_lastLine : ByteArray := prog_11_method_53_code
def yX9_lastLine : MethodName := ⟨RX9, "lastLine", "()I"⟩
abbrev cX9_letter : ByteArray := prog_11_method_54_code
def yX9_letter : MethodName := ⟨RX9, "letter", "(I)I"⟩
abbrev cX9_ofNote : ByteArray := prog_11_method_55_code
def yX9_ofNote : MethodName := ⟨RX9, "ofNote", "(II)I"⟩
abbrev cX9_of : ByteArray := prog_11_method_56_code
def yX9_of : MethodName := ⟨RX9, "of", "(II)I"⟩
abbrev cX9_word : ByteArray := prog_11_method_57_code
def yX9_word : MethodName := ⟨RX9, "word", "(II)I"⟩
abbrev cX9_at : ByteArray := prog_11_method_58_code
def yX9_at : MethodName := ⟨RX9, "at", "(I)I"⟩
abbrev cX9_printed : ByteArray := prog_11_method_59_code
def yX9_printed : MethodName := ⟨RX9, "printed", "(II)I"⟩
abbrev cX9_replyCount : ByteArray := prog_11_method_60_code
def yX9_replyCount : MethodName := ⟨RX9, "replyCount", "()I"⟩
abbrev cX9_count : ByteArray := prog_11_method_61_code
def yX9_count : MethodName := ⟨RX9, "count", "(I)I"⟩
abbrev cX9_orphansIf : ByteArray := prog_11_method_62_code
def yX9_orphansIf : MethodName := ⟨RX9, "orphansIf", "(II)I"⟩
abbrev cX9_could : ByteArray := prog_11_method_63_code
def yX9_could : MethodName := ⟨RX9, "could", "(II)I"⟩
abbrev cX9_leastRoom : ByteArray := prog_11_method_64_code
def yX9_leastRoom : MethodName := ⟨RX9, "leastRoom", "(I)I"⟩
abbrev cX9_byteOf : ByteArray := prog_11_method_65_code
def yX9_byteOf : MethodName := ⟨RX9, "byteOf", "(JI)I"⟩
abbrev cX9_toldBy : ByteArray := prog_11_method_66_code
def yX9_toldBy : MethodName := ⟨RX9, "toldBy", "(J)I"⟩
abbrev cX9_put : ByteArray := prog_11_method_67_code
def yX9_put : MethodName := ⟨RX9, "put", "(J)I"⟩
abbrev cX9_wipe : ByteArray := prog_11_method_68_code
def yX9_wipe : MethodName := ⟨RX9, "wipe", "()I"⟩
abbrev cX9_isAt : ByteArray := prog_11_method_69_code
def yX9_isAt : MethodName := ⟨RX9, "isAt", "(II)Z"⟩
abbrev cX9_isSign : ByteArray := prog_11_method_70_code
def yX9_isSign : MethodName := ⟨RX9, "isSign", "(I)Z"⟩
abbrev cX9_isNumber : ByteArray := prog_11_method_71_code
def yX9_isNumber : MethodName := ⟨RX9, "isNumber", "(I)Z"⟩
abbrev cX9_isWord : ByteArray := prog_11_method_72_code
def yX9_isWord : MethodName := ⟨RX9, "isWord", "()Z"⟩
abbrev cX9_isSpan : ByteArray := prog_11_method_73_code
def yX9_isSpan : MethodName := ⟨RX9, "isSpan", "()Z"⟩
abbrev cX9_isOrder : ByteArray := prog_11_method_74_code
def yX9_isOrder : MethodName := ⟨RX9, "isOrder", "()Z"⟩
abbrev cX9_isText : ByteArray := prog_11_method_75_code
def yX9_isText : MethodName := ⟨RX9, "isText", "()Z"⟩
abbrev cX9_fault : ByteArray := prog_11_method_76_code
def yX9_fault : MethodName := ⟨RX9, "fault", "()I"⟩
abbrev cX9_writes : ByteArray := prog_11_method_77_code
def yX9_writes : MethodName := ⟨RX9, "writes", "(III)Z"⟩
abbrev cX9_may : ByteArray := prog_11_method_78_code
def yX9_may : MethodName := ⟨RX9, "may", "(IIII)I"⟩
abbrev cX9_does : ByteArray := prog_11_method_79_code
def yX9_does : MethodName := ⟨RX9, "does", "(I)Z"⟩
abbrev cX9_carryOut : ByteArray := prog_11_method_80_code
def yX9_carryOut : MethodName := ⟨RX9, "carryOut", "()I"⟩
def RJ6 : String := "java/lang/Integer"
def TJ6 : u_T := fun k => match k with
  | _ => ("", "", "", false)
def tyJ6 : Nat → FieldType := fun k => match k with
  | _ => .int
abbrev wsJ60 : List Cond := u_ws RJ6 TJ6 0
theorem nmJ6 : ∀ a, a < 0 → ∀ b, b < 0 → a ≠ b → (TJ6 a).2.1 ≠ (TJ6 b).2.1 := by decide +kernel
theorem tyJ6_ok : ∀ k, k < 0 → parseFieldDescriptor (TJ6 k).2.2.1 = some (tyJ6 k) := by decide +kernel
abbrev cJ6_bitCount_0f7a4 : ByteArray := prog_12_method_49_code
def yJ6_bitCount_0f7a4 : MethodName := ⟨RJ6, "bitCount", "(I)I"⟩
def RJ9 : String := "java/lang/Math"
def TJ9 : u_T := fun k => match k with
  | _ => ("", "", "", false)
def tyJ9 : Nat → FieldType := fun k => match k with
  | _ => .int
abbrev wsJ90 : List Cond := u_ws RJ9 TJ9 0
theorem nmJ9 : ∀ a, a < 0 → ∀ b, b < 0 → a ≠ b → (TJ9 a).2.1 ≠ (TJ9 b).2.1 := by decide +kernel
theorem tyJ9_ok : ∀ k, k < 0 → parseFieldDescriptor (TJ9 k).2.2.1 = some (tyJ9 k) := by decide +kernel
abbrev cJ9_max_7cf53 : ByteArray := prog_13_method_65_code
def yJ9_max_7cf53 : MethodName := ⟨RJ9, "max", "(II)I"⟩
abbrev cJ9_min_7cf53 : ByteArray := prog_13_method_69_code
def yJ9_min_7cf53 : MethodName := ⟨RJ9, "min", "(II)I"⟩
def RJ10 : String := "java/lang/System"
def TJ10 : u_T := fun k => match k with
  | _ => ("", "", "", false)
def tyJ10 : Nat → FieldType := fun k => match k with
  | _ => .int
abbrev wsJ100 : List Cond := u_ws RJ10 TJ10 0
theorem nmJ10 : ∀ a, a < 0 → ∀ b, b < 0 → a ≠ b → (TJ10 a).2.1 ≠ (TJ10 b).2.1 := by decide +kernel
theorem tyJ10_ok : ∀ k, k < 0 → parseFieldDescriptor (TJ10 k).2.2.1 = some (tyJ10 k) := by decide +kernel
def RL : String := "AnchoredNotesLaw"
abbrev cL_law : ByteArray := code
def yL_law : MethodName := ⟨RL, "law", "([I)Z"⟩
def wsX0_init : List Cond := .code yX0_init cX0_init 1 none :: ([.methodLink RX0 3 objectInit, .instanceMethod objectInit, .code objectInit ⟨#[0xb1]⟩ 1 none, .classLink RX0 9 RX4, .fieldLink RX0 11 "AnchoredNotes$History" "states" "[LAnchoredNotes$Page;"] ++ wsX00)
def wsX6_init : List Cond := .code yX6_init cX6_init 2 none :: ([.methodLink RX6 3 objectInit, .instanceMethod objectInit, .code objectInit ⟨#[0xb1]⟩ 1 none, .arrayClass .int, .fieldLink RX6 9 "AnchoredNotes$Row" "items" "[I"] ++ wsX60)
def wsX5_init : List Cond := .code yX5_init cX5_init 1 none :: ([.methodLink RX5 3 objectInit, .instanceMethod objectInit, .code objectInit ⟨#[0xb1]⟩ 1 none])
def wsX6_add : List Cond := .code yX6_add cX6_add 2 none :: ([.fieldLink RX6 15 "AnchoredNotes$Row" "length" "I", .fieldLink RX6 9 "AnchoredNotes$Row" "items" "[I"] ++ wsX60)
def wsX2_init : List Cond := .code yX2_init cX2_init 1 none :: ([.methodLink RX2 3 objectInit, .instanceMethod objectInit, .code objectInit ⟨#[0xb1]⟩ 1 none, .fieldLink RX2 9 "AnchoredNotes$Note" "target" "I", .classLink RX2 15 RX6, .instantiable RX6 2, .initialized RX6, .fieldLink RX2 20 "AnchoredNotes$Note" "words" "LAnchoredNotes$Row;", .fieldLink RX2 24 "AnchoredNotes$Note" "ahead" "LAnchoredNotes$Row;", .fieldLink RX2 27 "AnchoredNotes$Note" "behind" "LAnchoredNotes$Row;", .methodLink RX2 17 yX6_init, .instanceMethod yX6_init, .code yX6_init cX6_init 2 none, .methodLink RX6 3 objectInit, .arrayClass .int, .fieldLink RX6 9 "AnchoredNotes$Row" "items" "[I"] ++ wsX20 ++ wsX60)
def wsX4_init_r1 : List Cond := [Cond.methodLink RX4 3 objectInit, Cond.instanceMethod objectInit, Cond.code objectInit ⟨#[0xb1]⟩ 1 none, Cond.classLink RX4 9 RX6, Cond.instantiable RX6 2, Cond.initialized RX6, Cond.fieldLink RX4 14 "AnchoredNotes$Page" "settings" "LAnchoredNotes$Row;", Cond.fieldLink RX4 20 "AnchoredNotes$Page" "letters" "LAnchoredNotes$Row;", Cond.fieldLink RX4 23 "AnchoredNotes$Page" "owners" "LAnchoredNotes$Row;", Cond.classLink RX4 26 RX2, Cond.fieldLink RX4 28 "AnchoredNotes$Page" "notes" "[LAnchoredNotes$Note;", Cond.classLink RX4 32 RX5, Cond.instantiable RX5 4, Cond.initialized RX5, Cond.fieldLink RX4 35 "AnchoredNotes$Page" "pieces" "LAnchoredNotes$Pieces;", Cond.instantiable RX2 4, Cond.initialized RX2, Cond.methodLink RX4 11 yX6_init, Cond.instanceMethod yX6_init, Cond.code yX6_init cX6_init 2 none, Cond.methodLink RX6 3 objectInit, Cond.arrayClass .int, Cond.fieldLink RX6 9 "AnchoredNotes$Row" "items" "[I", Cond.instanceMethod yX5_init]
def wsX4_init_r2 : List Cond := [Cond.code yX5_init cX5_init 1 none, Cond.methodLink RX5 3 objectInit, Cond.methodLink RX4 39 yX6_add, Cond.instanceMethod yX6_add, Cond.selects RX6 yX6_add yX6_add, Cond.code yX6_add cX6_add 2 none, Cond.fieldLink RX6 15 "AnchoredNotes$Row" "length" "I", Cond.instanceMethod yX2_init, Cond.code yX2_init cX2_init 1 none, Cond.methodLink RX2 3 objectInit, Cond.fieldLink RX2 9 "AnchoredNotes$Note" "target" "I", Cond.classLink RX2 15 RX6, Cond.fieldLink RX2 20 "AnchoredNotes$Note" "words" "LAnchoredNotes$Row;", Cond.fieldLink RX2 24 "AnchoredNotes$Note" "ahead" "LAnchoredNotes$Row;", Cond.fieldLink RX2 27 "AnchoredNotes$Note" "behind" "LAnchoredNotes$Row;", Cond.methodLink RX2 17 yX6_init]
def wsX4_init : List Cond := .code yX4_init cX4_init 2 none :: ((wsX4_init_r1 ++ wsX4_init_r2) ++ wsX60 ++ wsX40 ++ wsX50 ++ wsX20)
def wsX6_copyFrom : List Cond := .code yX6_copyFrom cX6_copyFrom 2 none :: ([.fieldLink RX6 15 "AnchoredNotes$Row" "length" "I", .fieldLink RX6 9 "AnchoredNotes$Row" "items" "[I", .methodLink RX6 37 Lib.Math.min.name, .static Lib.Math.min.name, .initialized "java/lang/Math", .code Lib.Math.min.name Lib.Math.min.code 2 (some .int), .methodLink RX6 23 arraycopyName, .native arraycopyName, .static arraycopyName, .initialized "java/lang/System"] ++ wsX60)
def wsX4_find : List Cond := .code yX4_find cX4_find 2 (some (.object "AnchoredNotes$Note")) :: ([.fieldLink RX4 47 "AnchoredNotes$Page" "noteCount" "I", .fieldLink RX4 28 "AnchoredNotes$Page" "notes" "[LAnchoredNotes$Note;"] ++ wsX40)
def wsX2_copyFrom : List Cond := .code yX2_copyFrom cX2_copyFrom 2 none :: ([.fieldLink RX2 9 "AnchoredNotes$Note" "target" "I", .fieldLink RX2 20 "AnchoredNotes$Note" "words" "LAnchoredNotes$Row;", .fieldLink RX2 24 "AnchoredNotes$Note" "ahead" "LAnchoredNotes$Row;", .fieldLink RX2 27 "AnchoredNotes$Note" "behind" "LAnchoredNotes$Row;", .methodLink RX2 37 yX6_copyFrom, .instanceMethod yX6_copyFrom, .selects RX6 yX6_copyFrom yX6_copyFrom, .initialized RX6, .code yX6_copyFrom cX6_copyFrom 2 none, .fieldLink RX6 15 "AnchoredNotes$Row" "length" "I", .fieldLink RX6 9 "AnchoredNotes$Row" "items" "[I", .methodLink RX6 37 Lib.Math.min.name, .static Lib.Math.min.name, .initialized "java/lang/Math", .code Lib.Math.min.name Lib.Math.min.code 2 (some .int), .methodLink RX6 23 arraycopyName, .native arraycopyName, .static arraycopyName, .initialized "java/lang/System"] ++ wsX20 ++ wsX60)
def wsX4_copyFrom_r1 : List Cond := [Cond.fieldLink RX4 14 "AnchoredNotes$Page" "settings" "LAnchoredNotes$Row;", Cond.fieldLink RX4 20 "AnchoredNotes$Page" "letters" "LAnchoredNotes$Row;", Cond.fieldLink RX4 23 "AnchoredNotes$Page" "owners" "LAnchoredNotes$Row;", Cond.fieldLink RX4 47 "AnchoredNotes$Page" "noteCount" "I", Cond.methodLink RX4 43 yX6_copyFrom, Cond.instanceMethod yX6_copyFrom, Cond.selects RX6 yX6_copyFrom yX6_copyFrom, Cond.initialized RX6, Cond.code yX6_copyFrom cX6_copyFrom 2 none, Cond.fieldLink RX6 15 "AnchoredNotes$Row" "length" "I", Cond.fieldLink RX6 9 "AnchoredNotes$Row" "items" "[I", Cond.methodLink RX6 37 Lib.Math.min.name, Cond.static Lib.Math.min.name, Cond.initialized "java/lang/Math", Cond.code Lib.Math.min.name Lib.Math.min.code 2 (some .int), Cond.methodLink RX6 23 arraycopyName, Cond.native arraycopyName, Cond.static arraycopyName, Cond.initialized "java/lang/System", Cond.methodLink RX4 51 yX4_find, Cond.instanceMethod yX4_find, Cond.selects RX4 yX4_find yX4_find, Cond.initialized RX4, Cond.code yX4_find cX4_find 2 (some (.object "AnchoredNotes$Note"))]
def wsX4_copyFrom_r2 : List Cond := [Cond.fieldLink RX4 28 "AnchoredNotes$Page" "notes" "[LAnchoredNotes$Note;", Cond.methodLink RX4 55 yX2_copyFrom, Cond.instanceMethod yX2_copyFrom, Cond.selects RX2 yX2_copyFrom yX2_copyFrom, Cond.initialized RX2, Cond.code yX2_copyFrom cX2_copyFrom 2 none, Cond.fieldLink RX2 9 "AnchoredNotes$Note" "target" "I", Cond.fieldLink RX2 20 "AnchoredNotes$Note" "words" "LAnchoredNotes$Row;", Cond.fieldLink RX2 24 "AnchoredNotes$Note" "ahead" "LAnchoredNotes$Row;", Cond.fieldLink RX2 27 "AnchoredNotes$Note" "behind" "LAnchoredNotes$Row;", Cond.methodLink RX2 37 yX6_copyFrom]
def wsX4_copyFrom : List Cond := .code yX4_copyFrom cX4_copyFrom 5 none :: ((wsX4_copyFrom_r1 ++ wsX4_copyFrom_r2) ++ wsX40 ++ wsX60 ++ wsX20)
def wsX0_keep_r1 : List Cond := [Cond.fieldLink RX0 17 "AnchoredNotes$History" "size" "I", Cond.fieldLink RX0 11 "AnchoredNotes$History" "states" "[LAnchoredNotes$Page;", Cond.classLink RX0 9 RX4, Cond.instantiable RX4 6, Cond.initialized RX4, Cond.methodLink RX0 21 yX4_init, Cond.instanceMethod yX4_init, Cond.code yX4_init cX4_init 2 none, Cond.methodLink RX4 3 objectInit, Cond.instanceMethod objectInit, Cond.code objectInit ⟨#[0xb1]⟩ 1 none, Cond.classLink RX4 9 RX6, Cond.instantiable RX6 2, Cond.initialized RX6, Cond.fieldLink RX4 14 "AnchoredNotes$Page" "settings" "LAnchoredNotes$Row;", Cond.fieldLink RX4 20 "AnchoredNotes$Page" "letters" "LAnchoredNotes$Row;", Cond.fieldLink RX4 23 "AnchoredNotes$Page" "owners" "LAnchoredNotes$Row;", Cond.classLink RX4 26 RX2, Cond.fieldLink RX4 28 "AnchoredNotes$Page" "notes" "[LAnchoredNotes$Note;", Cond.classLink RX4 32 RX5, Cond.instantiable RX5 4, Cond.initialized RX5, Cond.fieldLink RX4 35 "AnchoredNotes$Page" "pieces" "LAnchoredNotes$Pieces;", Cond.instantiable RX2 4]
def wsX0_keep_r2 : List Cond := [Cond.initialized RX2, Cond.methodLink RX4 11 yX6_init, Cond.instanceMethod yX6_init, Cond.code yX6_init cX6_init 2 none, Cond.methodLink RX6 3 objectInit, Cond.arrayClass .int, Cond.fieldLink RX6 9 "AnchoredNotes$Row" "items" "[I", Cond.instanceMethod yX5_init, Cond.code yX5_init cX5_init 1 none, Cond.methodLink RX5 3 objectInit, Cond.methodLink RX4 39 yX6_add, Cond.instanceMethod yX6_add, Cond.selects RX6 yX6_add yX6_add, Cond.code yX6_add cX6_add 2 none, Cond.fieldLink RX6 15 "AnchoredNotes$Row" "length" "I", Cond.instanceMethod yX2_init, Cond.code yX2_init cX2_init 1 none, Cond.methodLink RX2 3 objectInit, Cond.fieldLink RX2 9 "AnchoredNotes$Note" "target" "I", Cond.classLink RX2 15 RX6, Cond.fieldLink RX2 20 "AnchoredNotes$Note" "words" "LAnchoredNotes$Row;", Cond.fieldLink RX2 24 "AnchoredNotes$Note" "ahead" "LAnchoredNotes$Row;", Cond.fieldLink RX2 27 "AnchoredNotes$Note" "behind" "LAnchoredNotes$Row;", Cond.methodLink RX2 17 yX6_init]
def wsX0_keep_r3 : List Cond := [Cond.methodLink RX0 22 yX4_copyFrom, Cond.instanceMethod yX4_copyFrom, Cond.selects RX4 yX4_copyFrom yX4_copyFrom, Cond.code yX4_copyFrom cX4_copyFrom 5 none, Cond.fieldLink RX4 47 "AnchoredNotes$Page" "noteCount" "I", Cond.methodLink RX4 43 yX6_copyFrom, Cond.instanceMethod yX6_copyFrom, Cond.selects RX6 yX6_copyFrom yX6_copyFrom, Cond.code yX6_copyFrom cX6_copyFrom 2 none, Cond.methodLink RX6 37 Lib.Math.min.name, Cond.static Lib.Math.min.name, Cond.initialized "java/lang/Math", Cond.code Lib.Math.min.name Lib.Math.min.code 2 (some .int), Cond.methodLink RX6 23 arraycopyName, Cond.native arraycopyName, Cond.static arraycopyName, Cond.initialized "java/lang/System", Cond.methodLink RX4 51 yX4_find, Cond.instanceMethod yX4_find, Cond.selects RX4 yX4_find yX4_find, Cond.code yX4_find cX4_find 2 (some (.object "AnchoredNotes$Note")), Cond.methodLink RX4 55 yX2_copyFrom, Cond.instanceMethod yX2_copyFrom, Cond.selects RX2 yX2_copyFrom yX2_copyFrom]
def wsX0_keep_r4 : List Cond := [Cond.code yX2_copyFrom cX2_copyFrom 2 none, Cond.methodLink RX2 37 yX6_copyFrom]
def wsX0_keep : List Cond := .code yX0_keep cX0_keep 3 none :: ((wsX0_keep_r1 ++ (wsX0_keep_r2 ++ (wsX0_keep_r3 ++ wsX0_keep_r4))) ++ wsX00 ++ wsX40 ++ wsX60 ++ wsX50 ++ wsX20)
def wsX0_forgetOldest : List Cond := .code yX0_forgetOldest cX0_forgetOldest 3 none :: ([.fieldLink RX0 11 "AnchoredNotes$History" "states" "[LAnchoredNotes$Page;"] ++ wsX00)
def wsX0_confirm : List Cond := .code yX0_confirm cX0_confirm 2 (some .int) :: ([.fieldLink RX0 17 "AnchoredNotes$History" "size" "I", .methodLink RX0 26 yX0_forgetOldest, .instanceMethod yX0_forgetOldest, .selects RX0 yX0_forgetOldest yX0_forgetOldest, .initialized RX0, .code yX0_forgetOldest cX0_forgetOldest 3 none, .fieldLink RX0 11 "AnchoredNotes$History" "states" "[LAnchoredNotes$Page;"] ++ wsX00)
def wsX0_goBack_r1 : List Cond := [Cond.fieldLink RX0 17 "AnchoredNotes$History" "size" "I", Cond.fieldLink RX0 11 "AnchoredNotes$History" "states" "[LAnchoredNotes$Page;", Cond.methodLink RX0 22 yX4_copyFrom, Cond.instanceMethod yX4_copyFrom, Cond.selects RX4 yX4_copyFrom yX4_copyFrom, Cond.initialized RX4, Cond.code yX4_copyFrom cX4_copyFrom 5 none, Cond.fieldLink RX4 14 "AnchoredNotes$Page" "settings" "LAnchoredNotes$Row;", Cond.fieldLink RX4 20 "AnchoredNotes$Page" "letters" "LAnchoredNotes$Row;", Cond.fieldLink RX4 23 "AnchoredNotes$Page" "owners" "LAnchoredNotes$Row;", Cond.fieldLink RX4 47 "AnchoredNotes$Page" "noteCount" "I", Cond.methodLink RX4 43 yX6_copyFrom, Cond.instanceMethod yX6_copyFrom, Cond.selects RX6 yX6_copyFrom yX6_copyFrom, Cond.initialized RX6, Cond.code yX6_copyFrom cX6_copyFrom 2 none, Cond.fieldLink RX6 15 "AnchoredNotes$Row" "length" "I", Cond.fieldLink RX6 9 "AnchoredNotes$Row" "items" "[I", Cond.methodLink RX6 37 Lib.Math.min.name, Cond.static Lib.Math.min.name, Cond.initialized "java/lang/Math", Cond.code Lib.Math.min.name Lib.Math.min.code 2 (some .int), Cond.methodLink RX6 23 arraycopyName, Cond.native arraycopyName]
def wsX0_goBack_r2 : List Cond := [Cond.static arraycopyName, Cond.initialized "java/lang/System", Cond.methodLink RX4 51 yX4_find, Cond.instanceMethod yX4_find, Cond.selects RX4 yX4_find yX4_find, Cond.code yX4_find cX4_find 2 (some (.object "AnchoredNotes$Note")), Cond.fieldLink RX4 28 "AnchoredNotes$Page" "notes" "[LAnchoredNotes$Note;", Cond.methodLink RX4 55 yX2_copyFrom, Cond.instanceMethod yX2_copyFrom, Cond.selects RX2 yX2_copyFrom yX2_copyFrom, Cond.initialized RX2, Cond.code yX2_copyFrom cX2_copyFrom 2 none, Cond.fieldLink RX2 9 "AnchoredNotes$Note" "target" "I", Cond.fieldLink RX2 20 "AnchoredNotes$Note" "words" "LAnchoredNotes$Row;", Cond.fieldLink RX2 24 "AnchoredNotes$Note" "ahead" "LAnchoredNotes$Row;", Cond.fieldLink RX2 27 "AnchoredNotes$Note" "behind" "LAnchoredNotes$Row;", Cond.methodLink RX2 37 yX6_copyFrom]
def wsX0_goBack : List Cond := .code yX0_goBack cX0_goBack 4 (some .boolean) :: ((wsX0_goBack_r1 ++ wsX0_goBack_r2) ++ wsX00 ++ wsX40 ++ wsX60 ++ wsX20)
def wsX1_init : List Cond := .code yX1_init cX1_init 1 none :: ([.methodLink RX1 3 objectInit, .instanceMethod objectInit, .code objectInit ⟨#[0xb1]⟩ 1 none, .classLink RX1 9 RX6, .instantiable RX6 2, .initialized RX6, .fieldLink RX1 14 "AnchoredNotes$Margin" "lines" "LAnchoredNotes$Row;", .fieldLink RX1 20 "AnchoredNotes$Margin" "leaders" "LAnchoredNotes$Row;", .fieldLink RX1 23 "AnchoredNotes$Margin" "firsts" "LAnchoredNotes$Row;", .fieldLink RX1 26 "AnchoredNotes$Margin" "used" "LAnchoredNotes$Row;", .methodLink RX1 11 yX6_init, .instanceMethod yX6_init, .code yX6_init cX6_init 2 none, .methodLink RX6 3 objectInit, .arrayClass .int, .fieldLink RX6 9 "AnchoredNotes$Row" "items" "[I"] ++ wsX60 ++ wsX10)
def wsX6_clear : List Cond := .code yX6_clear cX6_clear 1 none :: ([.fieldLink RX6 15 "AnchoredNotes$Row" "length" "I"] ++ wsX60)
def wsX1_empty : List Cond := .code yX1_empty cX1_empty 2 none :: ([.fieldLink RX1 23 "AnchoredNotes$Margin" "firsts" "LAnchoredNotes$Row;", .fieldLink RX1 14 "AnchoredNotes$Margin" "lines" "LAnchoredNotes$Row;", .fieldLink RX1 20 "AnchoredNotes$Margin" "leaders" "LAnchoredNotes$Row;", .fieldLink RX1 26 "AnchoredNotes$Margin" "used" "LAnchoredNotes$Row;", .fieldLink RX1 70 "AnchoredNotes$Margin" "lastLine" "I", .fieldLink RX1 73 "AnchoredNotes$Margin" "allLeaders" "I", .fieldLink RX1 76 "AnchoredNotes$Margin" "longestLeader" "I", .methodLink RX1 67 yX6_clear, .instanceMethod yX6_clear, .selects RX6 yX6_clear yX6_clear, .initialized RX6, .code yX6_clear cX6_clear 1 none, .fieldLink RX6 15 "AnchoredNotes$Row" "length" "I", .methodLink RX1 47 yX6_add, .instanceMethod yX6_add, .selects RX6 yX6_add yX6_add, .code yX6_add cX6_add 2 none, .fieldLink RX6 9 "AnchoredNotes$Row" "items" "[I"] ++ wsX10 ++ wsX60)
def wsX6_item : List Cond := .code yX6_item cX6_item 2 (some .int) :: ([.fieldLink RX6 15 "AnchoredNotes$Row" "length" "I", .fieldLink RX6 9 "AnchoredNotes$Row" "items" "[I"] ++ wsX60)
def wsX8_isIn : List Cond := .code yX8_isIn cX8_isIn 2 (some .boolean) :: ([])
def wsX5_gather : List Cond := .code yX5_gather cX5_gather 7 none :: ([.fieldLink RX5 9 "AnchoredNotes$Pieces" "pieces" "I", .fieldLink RX5 15 "AnchoredNotes$Pieces" "letters" "I", .fieldLink RX5 18 "AnchoredNotes$Pieces" "first" "I", .fieldLink RX5 21 "AnchoredNotes$Pieces" "last" "I", .fieldLink RX5 24 "AnchoredNotes$Row" "length" "I", .methodLink RX5 29 yX6_item, .instanceMethod yX6_item, .selects RX6 yX6_item yX6_item, .initialized RX6, .code yX6_item cX6_item 2 (some .int), .fieldLink RX6 15 "AnchoredNotes$Row" "length" "I", .fieldLink RX6 9 "AnchoredNotes$Row" "items" "[I", .static yX8_isIn, .initialized RX8, .code yX8_isIn cX8_isIn 2 (some .boolean)] ++ wsX50 ++ wsX60)
def wsX4_piecesOf : List Cond := .code yX4_piecesOf cX4_piecesOf 2 (some (.object "AnchoredNotes$Pieces")) :: ([.fieldLink RX4 35 "AnchoredNotes$Page" "pieces" "LAnchoredNotes$Pieces;", .fieldLink RX4 23 "AnchoredNotes$Page" "owners" "LAnchoredNotes$Row;", .methodLink RX4 156 yX5_gather, .instanceMethod yX5_gather, .selects RX5 yX5_gather yX5_gather, .initialized RX5, .code yX5_gather cX5_gather 7 none, .fieldLink RX5 9 "AnchoredNotes$Pieces" "pieces" "I", .fieldLink RX5 15 "AnchoredNotes$Pieces" "letters" "I", .fieldLink RX5 18 "AnchoredNotes$Pieces" "first" "I", .fieldLink RX5 21 "AnchoredNotes$Pieces" "last" "I", .fieldLink RX5 24 "AnchoredNotes$Row" "length" "I", .methodLink RX5 29 yX6_item, .instanceMethod yX6_item, .selects RX6 yX6_item yX6_item, .initialized RX6, .code yX6_item cX6_item 2 (some .int), .fieldLink RX6 15 "AnchoredNotes$Row" "length" "I", .fieldLink RX6 9 "AnchoredNotes$Row" "items" "[I", .static yX8_isIn, .initialized RX8, .code yX8_isIn cX8_isIn 2 (some .boolean)] ++ wsX40 ++ wsX50 ++ wsX60)
def wsX4_lineOf : List Cond := .code yX4_lineOf cX4_lineOf 3 (some .int) :: ([.fieldLink RX4 14 "AnchoredNotes$Page" "settings" "LAnchoredNotes$Row;", .methodLink RX4 69 yX6_item, .instanceMethod yX6_item, .selects RX6 yX6_item yX6_item, .initialized RX6, .code yX6_item cX6_item 2 (some .int), .fieldLink RX6 15 "AnchoredNotes$Row" "length" "I", .fieldLink RX6 9 "AnchoredNotes$Row" "items" "[I"] ++ wsX40 ++ wsX60)
def wsX6_has : List Cond := .code yX6_has cX6_has 2 (some .boolean) :: ([.fieldLink RX6 15 "AnchoredNotes$Row" "length" "I", .fieldLink RX6 9 "AnchoredNotes$Row" "items" "[I"] ++ wsX60)
def wsX6_replace : List Cond := .code yX6_replace cX6_replace 3 none :: ([.fieldLink RX6 9 "AnchoredNotes$Row" "items" "[I", .methodLink RX6 19 yX6_has, .instanceMethod yX6_has, .selects RX6 yX6_has yX6_has, .initialized RX6, .code yX6_has cX6_has 2 (some .boolean), .fieldLink RX6 15 "AnchoredNotes$Row" "length" "I"] ++ wsX60)
def wsX1_print_r1 : List Cond := [Cond.fieldLink RX1 26 "AnchoredNotes$Margin" "used" "LAnchoredNotes$Row;", Cond.fieldLink RX1 14 "AnchoredNotes$Margin" "lines" "LAnchoredNotes$Row;", Cond.fieldLink RX1 20 "AnchoredNotes$Margin" "leaders" "LAnchoredNotes$Row;", Cond.fieldLink RX1 70 "AnchoredNotes$Margin" "lastLine" "I", Cond.methodLink RX1 83 Lib.Math.max.name, Cond.static Lib.Math.max.name, Cond.initialized "java/lang/Math", Cond.code Lib.Math.max.name Lib.Math.max.code 2 (some .int), Cond.fieldLink RX1 73 "AnchoredNotes$Margin" "allLeaders" "I", Cond.fieldLink RX1 76 "AnchoredNotes$Margin" "longestLeader" "I", Cond.methodLink RX1 56 yX6_item, Cond.instanceMethod yX6_item, Cond.selects RX6 yX6_item yX6_item, Cond.initialized RX6, Cond.code yX6_item cX6_item 2 (some .int), Cond.fieldLink RX6 15 "AnchoredNotes$Row" "length" "I", Cond.fieldLink RX6 9 "AnchoredNotes$Row" "items" "[I", Cond.methodLink RX1 79 yX6_replace, Cond.instanceMethod yX6_replace, Cond.selects RX6 yX6_replace yX6_replace, Cond.code yX6_replace cX6_replace 3 none, Cond.methodLink RX6 19 yX6_has, Cond.instanceMethod yX6_has, Cond.selects RX6 yX6_has yX6_has]
def wsX1_print_r2 : List Cond := [Cond.code yX6_has cX6_has 2 (some .boolean)]
def wsX1_print : List Cond := .code yX1_print cX1_print 5 none :: ((wsX1_print_r1 ++ wsX1_print_r2) ++ wsX10 ++ wsX60)
def wsX1_layOut_r1 : List Cond := [Cond.fieldLink RX1 32 "AnchoredNotes$Page" "noteCount" "I", Cond.fieldLink RX1 23 "AnchoredNotes$Margin" "firsts" "LAnchoredNotes$Row;", Cond.fieldLink RX1 42 "AnchoredNotes$Pieces" "first" "I", Cond.fieldLink RX1 14 "AnchoredNotes$Margin" "lines" "LAnchoredNotes$Row;", Cond.fieldLink RX1 20 "AnchoredNotes$Margin" "leaders" "LAnchoredNotes$Row;", Cond.fieldLink RX1 50 "AnchoredNotes$Page" "letters" "LAnchoredNotes$Row;", Cond.fieldLink RX1 53 "AnchoredNotes$Row" "length" "I", Cond.methodLink RX1 29 yX1_empty, Cond.instanceMethod yX1_empty, Cond.selects RX1 yX1_empty yX1_empty, Cond.initialized RX1, Cond.code yX1_empty cX1_empty 2 none, Cond.fieldLink RX1 26 "AnchoredNotes$Margin" "used" "LAnchoredNotes$Row;", Cond.fieldLink RX1 70 "AnchoredNotes$Margin" "lastLine" "I", Cond.fieldLink RX1 73 "AnchoredNotes$Margin" "allLeaders" "I", Cond.fieldLink RX1 76 "AnchoredNotes$Margin" "longestLeader" "I", Cond.methodLink RX1 67 yX6_clear, Cond.instanceMethod yX6_clear, Cond.selects RX6 yX6_clear yX6_clear, Cond.initialized RX6, Cond.code yX6_clear cX6_clear 1 none, Cond.fieldLink RX6 15 "AnchoredNotes$Row" "length" "I", Cond.methodLink RX1 47 yX6_add, Cond.instanceMethod yX6_add]
def wsX1_layOut_r2 : List Cond := [Cond.selects RX6 yX6_add yX6_add, Cond.code yX6_add cX6_add 2 none, Cond.fieldLink RX6 9 "AnchoredNotes$Row" "items" "[I", Cond.methodLink RX1 38 yX4_piecesOf, Cond.instanceMethod yX4_piecesOf, Cond.selects RX4 yX4_piecesOf yX4_piecesOf, Cond.initialized RX4, Cond.code yX4_piecesOf cX4_piecesOf 2 (some (.object "AnchoredNotes$Pieces")), Cond.fieldLink RX4 35 "AnchoredNotes$Page" "pieces" "LAnchoredNotes$Pieces;", Cond.fieldLink RX4 23 "AnchoredNotes$Page" "owners" "LAnchoredNotes$Row;", Cond.methodLink RX4 156 yX5_gather, Cond.instanceMethod yX5_gather, Cond.selects RX5 yX5_gather yX5_gather, Cond.initialized RX5, Cond.code yX5_gather cX5_gather 7 none, Cond.fieldLink RX5 9 "AnchoredNotes$Pieces" "pieces" "I", Cond.fieldLink RX5 15 "AnchoredNotes$Pieces" "letters" "I", Cond.fieldLink RX5 18 "AnchoredNotes$Pieces" "first" "I", Cond.fieldLink RX5 21 "AnchoredNotes$Pieces" "last" "I", Cond.fieldLink RX5 24 "AnchoredNotes$Row" "length" "I", Cond.methodLink RX5 29 yX6_item, Cond.instanceMethod yX6_item, Cond.selects RX6 yX6_item yX6_item, Cond.code yX6_item cX6_item 2 (some .int)]
def wsX1_layOut_r3 : List Cond := [Cond.static yX8_isIn, Cond.initialized RX8, Cond.code yX8_isIn cX8_isIn 2 (some .boolean), Cond.methodLink RX1 56 yX6_item, Cond.methodLink RX1 60 yX4_lineOf, Cond.instanceMethod yX4_lineOf, Cond.selects RX4 yX4_lineOf yX4_lineOf, Cond.code yX4_lineOf cX4_lineOf 3 (some .int), Cond.fieldLink RX4 14 "AnchoredNotes$Page" "settings" "LAnchoredNotes$Row;", Cond.methodLink RX4 69 yX6_item, Cond.methodLink RX1 63 yX1_print, Cond.instanceMethod yX1_print, Cond.selects RX1 yX1_print yX1_print, Cond.code yX1_print cX1_print 5 none, Cond.methodLink RX1 83 Lib.Math.max.name, Cond.static Lib.Math.max.name, Cond.initialized "java/lang/Math", Cond.code Lib.Math.max.name Lib.Math.max.code 2 (some .int), Cond.methodLink RX1 79 yX6_replace, Cond.instanceMethod yX6_replace, Cond.selects RX6 yX6_replace yX6_replace, Cond.code yX6_replace cX6_replace 3 none, Cond.methodLink RX6 19 yX6_has, Cond.instanceMethod yX6_has]
def wsX1_layOut_r4 : List Cond := [Cond.selects RX6 yX6_has yX6_has, Cond.code yX6_has cX6_has 2 (some .boolean)]
def wsX1_layOut : List Cond := .code yX1_layOut cX1_layOut 5 none :: ((wsX1_layOut_r1 ++ (wsX1_layOut_r2 ++ (wsX1_layOut_r3 ++ wsX1_layOut_r4))) ++ wsX40 ++ wsX10 ++ wsX50 ++ wsX60)
def wsX2_isReply : List Cond := .code yX2_isReply cX2_isReply 1 (some .boolean) :: ([.fieldLink RX2 9 "AnchoredNotes$Note" "target" "I"] ++ wsX20)
def wsX2_becomeReply : List Cond := .code yX2_becomeReply cX2_becomeReply 2 none :: ([.fieldLink RX2 9 "AnchoredNotes$Note" "target" "I", .fieldLink RX2 20 "AnchoredNotes$Note" "words" "LAnchoredNotes$Row;", .fieldLink RX2 24 "AnchoredNotes$Note" "ahead" "LAnchoredNotes$Row;", .fieldLink RX2 27 "AnchoredNotes$Note" "behind" "LAnchoredNotes$Row;", .methodLink RX2 30 yX6_clear, .instanceMethod yX6_clear, .selects RX6 yX6_clear yX6_clear, .initialized RX6, .code yX6_clear cX6_clear 1 none, .fieldLink RX6 15 "AnchoredNotes$Row" "length" "I"] ++ wsX20 ++ wsX60)
def wsX6_copyPart : List Cond := .code yX6_copyPart cX6_copyPart 6 none :: ([.methodLink RX6 43 yX6_clear, .instanceMethod yX6_clear, .selects RX6 yX6_clear yX6_clear, .initialized RX6, .code yX6_clear cX6_clear 1 none, .fieldLink RX6 15 "AnchoredNotes$Row" "length" "I", .methodLink RX6 19 yX6_has, .instanceMethod yX6_has, .selects RX6 yX6_has yX6_has, .code yX6_has cX6_has 2 (some .boolean), .fieldLink RX6 9 "AnchoredNotes$Row" "items" "[I", .methodLink RX6 46 yX6_item, .instanceMethod yX6_item, .selects RX6 yX6_item yX6_item, .code yX6_item cX6_item 2 (some .int), .methodLink RX6 50 yX6_add, .instanceMethod yX6_add, .selects RX6 yX6_add yX6_add, .code yX6_add cX6_add 2 none] ++ wsX60)
def wsX2_remember_r1 : List Cond := [Cond.fieldLink RX2 9 "AnchoredNotes$Note" "target" "I", Cond.fieldLink RX2 20 "AnchoredNotes$Note" "words" "LAnchoredNotes$Row;", Cond.fieldLink RX2 24 "AnchoredNotes$Note" "ahead" "LAnchoredNotes$Row;", Cond.fieldLink RX2 27 "AnchoredNotes$Note" "behind" "LAnchoredNotes$Row;", Cond.methodLink RX2 33 yX6_copyPart, Cond.instanceMethod yX6_copyPart, Cond.selects RX6 yX6_copyPart yX6_copyPart, Cond.initialized RX6, Cond.code yX6_copyPart cX6_copyPart 6 none, Cond.methodLink RX6 43 yX6_clear, Cond.instanceMethod yX6_clear, Cond.selects RX6 yX6_clear yX6_clear, Cond.code yX6_clear cX6_clear 1 none, Cond.fieldLink RX6 15 "AnchoredNotes$Row" "length" "I", Cond.methodLink RX6 19 yX6_has, Cond.instanceMethod yX6_has, Cond.selects RX6 yX6_has yX6_has, Cond.code yX6_has cX6_has 2 (some .boolean), Cond.fieldLink RX6 9 "AnchoredNotes$Row" "items" "[I", Cond.methodLink RX6 46 yX6_item, Cond.instanceMethod yX6_item, Cond.selects RX6 yX6_item yX6_item, Cond.code yX6_item cX6_item 2 (some .int), Cond.methodLink RX6 50 yX6_add]
def wsX2_remember_r2 : List Cond := [Cond.instanceMethod yX6_add, Cond.selects RX6 yX6_add yX6_add, Cond.code yX6_add cX6_add 2 none]
def wsX2_remember : List Cond := .code yX2_remember cX2_remember 5 none :: ((wsX2_remember_r1 ++ wsX2_remember_r2) ++ wsX20 ++ wsX60)
def wsX3_init : List Cond := .code yX3_init cX3_init 1 none :: ([.methodLink RX3 3 objectInit, .instanceMethod objectInit, .code objectInit ⟨#[0xb1]⟩ 1 none, .classLink RX3 9 RX6, .instantiable RX6 2, .initialized RX6, .fieldLink RX3 14 "AnchoredNotes$OrderReader" "numbers" "LAnchoredNotes$Row;", .methodLink RX3 11 yX6_init, .instanceMethod yX6_init, .code yX6_init cX6_init 2 none, .methodLink RX6 3 objectInit, .arrayClass .int, .fieldLink RX6 9 "AnchoredNotes$Row" "items" "[I"] ++ wsX60 ++ wsX30)
def wsX3_start : List Cond := .code yX3_start cX3_start 1 none :: ([.fieldLink RX3 20 "AnchoredNotes$OrderReader" "next" "I"] ++ wsX30)
def wsX3_isDigit : List Cond := .code yX3_isDigit cX3_isDigit 1 (some .boolean) :: ([])
def wsX3_readNumber : List Cond := .code yX3_readNumber cX3_readNumber 3 (some .boolean) :: ([.fieldLink RX3 20 "AnchoredNotes$OrderReader" "next" "I", .fieldLink RX3 14 "AnchoredNotes$OrderReader" "numbers" "LAnchoredNotes$Row;", .methodLink RX3 38 yX6_item, .instanceMethod yX6_item, .selects RX6 yX6_item yX6_item, .initialized RX6, .code yX6_item cX6_item 2 (some .int), .fieldLink RX6 15 "AnchoredNotes$Row" "length" "I", .fieldLink RX6 9 "AnchoredNotes$Row" "items" "[I", .methodLink RX3 54 yX3_isDigit, .static yX3_isDigit, .initialized RX3, .code yX3_isDigit cX3_isDigit 1 (some .boolean), .methodLink RX3 58 yX6_add, .instanceMethod yX6_add, .selects RX6 yX6_add yX6_add, .code yX6_add cX6_add 2 none] ++ wsX30 ++ wsX60)
def wsX3_skip : List Cond := .code yX3_skip cX3_skip 3 (some .boolean) :: ([.fieldLink RX3 20 "AnchoredNotes$OrderReader" "next" "I", .methodLink RX3 38 yX6_item, .instanceMethod yX6_item, .selects RX6 yX6_item yX6_item, .initialized RX6, .code yX6_item cX6_item 2 (some .int), .fieldLink RX6 15 "AnchoredNotes$Row" "length" "I", .fieldLink RX6 9 "AnchoredNotes$Row" "items" "[I"] ++ wsX30 ++ wsX60)
def wsX3_isLetter : List Cond := .code yX3_isLetter cX3_isLetter 1 (some .boolean) :: ([])
def wsX3_readLetters : List Cond := .code yX3_readLetters cX3_readLetters 2 (some .boolean) :: ([.fieldLink RX3 20 "AnchoredNotes$OrderReader" "next" "I", .fieldLink RX3 61 "AnchoredNotes$OrderReader" "lettersFrom" "I", .fieldLink RX3 31 "AnchoredNotes$Row" "length" "I", .methodLink RX3 38 yX6_item, .instanceMethod yX6_item, .selects RX6 yX6_item yX6_item, .initialized RX6, .code yX6_item cX6_item 2 (some .int), .fieldLink RX6 15 "AnchoredNotes$Row" "length" "I", .fieldLink RX6 9 "AnchoredNotes$Row" "items" "[I", .methodLink RX3 64 yX3_isLetter, .static yX3_isLetter, .initialized RX3, .code yX3_isLetter cX3_isLetter 1 (some .boolean)] ++ wsX30 ++ wsX60)
def wsX3_readOrder_r1 : List Cond := [Cond.fieldLink RX3 20 "AnchoredNotes$OrderReader" "next" "I", Cond.fieldLink RX3 42 "AnchoredNotes$OrderReader" "kind" "I", Cond.fieldLink RX3 14 "AnchoredNotes$OrderReader" "numbers" "LAnchoredNotes$Row;", Cond.methodLink RX3 38 yX6_item, Cond.instanceMethod yX6_item, Cond.selects RX6 yX6_item yX6_item, Cond.initialized RX6, Cond.code yX6_item cX6_item 2 (some .int), Cond.fieldLink RX6 15 "AnchoredNotes$Row" "length" "I", Cond.fieldLink RX6 9 "AnchoredNotes$Row" "items" "[I", Cond.methodLink RX3 45 yX6_clear, Cond.instanceMethod yX6_clear, Cond.selects RX6 yX6_clear yX6_clear, Cond.code yX6_clear cX6_clear 1 none, Cond.methodLink RX3 48 yX3_readNumber, Cond.instanceMethod yX3_readNumber, Cond.selects RX3 yX3_readNumber yX3_readNumber, Cond.initialized RX3, Cond.code yX3_readNumber cX3_readNumber 3 (some .boolean), Cond.methodLink RX3 54 yX3_isDigit, Cond.static yX3_isDigit, Cond.code yX3_isDigit cX3_isDigit 1 (some .boolean), Cond.methodLink RX3 58 yX6_add, Cond.instanceMethod yX6_add]
def wsX3_readOrder_r2 : List Cond := [Cond.selects RX6 yX6_add yX6_add, Cond.code yX6_add cX6_add 2 none, Cond.methodLink RX3 34 yX3_skip, Cond.instanceMethod yX3_skip, Cond.selects RX3 yX3_skip yX3_skip, Cond.code yX3_skip cX3_skip 3 (some .boolean), Cond.methodLink RX3 51 yX3_readLetters, Cond.instanceMethod yX3_readLetters, Cond.selects RX3 yX3_readLetters yX3_readLetters, Cond.code yX3_readLetters cX3_readLetters 2 (some .boolean), Cond.fieldLink RX3 61 "AnchoredNotes$OrderReader" "lettersFrom" "I", Cond.fieldLink RX3 31 "AnchoredNotes$Row" "length" "I", Cond.methodLink RX3 64 yX3_isLetter, Cond.static yX3_isLetter, Cond.code yX3_isLetter cX3_isLetter 1 (some .boolean)]
def wsX3_readOrder : List Cond := .code yX3_readOrder cX3_readOrder 2 (some .boolean) :: ((wsX3_readOrder_r1 ++ wsX3_readOrder_r2) ++ wsX30 ++ wsX60)
def wsX3_findFault_r1 : List Cond := [Cond.fieldLink RX3 20 "AnchoredNotes$OrderReader" "next" "I", Cond.fieldLink RX3 31 "AnchoredNotes$Row" "length" "I", Cond.methodLink RX3 24 yX3_start, Cond.instanceMethod yX3_start, Cond.selects RX3 yX3_start yX3_start, Cond.initialized RX3, Cond.code yX3_start cX3_start 1 none, Cond.methodLink RX3 27 yX3_readOrder, Cond.instanceMethod yX3_readOrder, Cond.selects RX3 yX3_readOrder yX3_readOrder, Cond.code yX3_readOrder cX3_readOrder 2 (some .boolean), Cond.fieldLink RX3 42 "AnchoredNotes$OrderReader" "kind" "I", Cond.fieldLink RX3 14 "AnchoredNotes$OrderReader" "numbers" "LAnchoredNotes$Row;", Cond.methodLink RX3 38 yX6_item, Cond.instanceMethod yX6_item, Cond.selects RX6 yX6_item yX6_item, Cond.initialized RX6, Cond.code yX6_item cX6_item 2 (some .int), Cond.fieldLink RX6 15 "AnchoredNotes$Row" "length" "I", Cond.fieldLink RX6 9 "AnchoredNotes$Row" "items" "[I", Cond.methodLink RX3 45 yX6_clear, Cond.instanceMethod yX6_clear, Cond.selects RX6 yX6_clear yX6_clear, Cond.code yX6_clear cX6_clear 1 none]
def wsX3_findFault_r2 : List Cond := [Cond.methodLink RX3 48 yX3_readNumber, Cond.instanceMethod yX3_readNumber, Cond.selects RX3 yX3_readNumber yX3_readNumber, Cond.code yX3_readNumber cX3_readNumber 3 (some .boolean), Cond.methodLink RX3 54 yX3_isDigit, Cond.static yX3_isDigit, Cond.code yX3_isDigit cX3_isDigit 1 (some .boolean), Cond.methodLink RX3 58 yX6_add, Cond.instanceMethod yX6_add, Cond.selects RX6 yX6_add yX6_add, Cond.code yX6_add cX6_add 2 none, Cond.methodLink RX3 34 yX3_skip, Cond.instanceMethod yX3_skip, Cond.selects RX3 yX3_skip yX3_skip, Cond.code yX3_skip cX3_skip 3 (some .boolean), Cond.methodLink RX3 51 yX3_readLetters, Cond.instanceMethod yX3_readLetters, Cond.selects RX3 yX3_readLetters yX3_readLetters, Cond.code yX3_readLetters cX3_readLetters 2 (some .boolean), Cond.fieldLink RX3 61 "AnchoredNotes$OrderReader" "lettersFrom" "I", Cond.methodLink RX3 64 yX3_isLetter, Cond.static yX3_isLetter, Cond.code yX3_isLetter cX3_isLetter 1 (some .boolean)]
def wsX3_findFault : List Cond := .code yX3_findFault cX3_findFault 3 (some .int) :: ((wsX3_findFault_r1 ++ wsX3_findFault_r2) ++ wsX30 ++ wsX60)
def wsX4_leastOf : List Cond := .code yX4_leastOf cX4_leastOf 1 (some .int) :: ([])
def wsX4_mostOf : List Cond := .code yX4_mostOf cX4_mostOf 1 (some .int) :: ([])
def wsX4_changeSetting : List Cond := .code yX4_changeSetting cX4_changeSetting 4 (some .int) :: ([.fieldLink RX4 14 "AnchoredNotes$Page" "settings" "LAnchoredNotes$Row;", .methodLink RX4 58 yX6_has, .instanceMethod yX6_has, .selects RX6 yX6_has yX6_has, .initialized RX6, .code yX6_has cX6_has 2 (some .boolean), .fieldLink RX6 15 "AnchoredNotes$Row" "length" "I", .fieldLink RX6 9 "AnchoredNotes$Row" "items" "[I", .methodLink RX4 62 yX4_leastOf, .static yX4_leastOf, .initialized RX4, .code yX4_leastOf cX4_leastOf 1 (some .int), .methodLink RX4 66 yX4_mostOf, .static yX4_mostOf, .code yX4_mostOf cX4_mostOf 1 (some .int), .methodLink RX4 69 yX6_item, .instanceMethod yX6_item, .selects RX6 yX6_item yX6_item, .code yX6_item cX6_item 2 (some .int), .methodLink RX4 72 yX6_replace, .instanceMethod yX6_replace, .selects RX6 yX6_replace yX6_replace, .code yX6_replace cX6_replace 3 none, .methodLink RX6 19 yX6_has] ++ wsX40 ++ wsX60)
def wsX6_insert : List Cond := .code yX6_insert cX6_insert 3 none :: ([.fieldLink RX6 15 "AnchoredNotes$Row" "length" "I", .fieldLink RX6 9 "AnchoredNotes$Row" "items" "[I", .methodLink RX6 23 arraycopyName, .native arraycopyName, .static arraycopyName, .initialized "java/lang/System"] ++ wsX60)
def wsX4_writeLetter : List Cond := .code yX4_writeLetter cX4_writeLetter 3 (some .int) :: ([.fieldLink RX4 20 "AnchoredNotes$Page" "letters" "LAnchoredNotes$Row;", .fieldLink RX4 76 "AnchoredNotes$Row" "length" "I", .fieldLink RX4 23 "AnchoredNotes$Page" "owners" "LAnchoredNotes$Row;", .methodLink RX4 79 yX6_insert, .instanceMethod yX6_insert, .selects RX6 yX6_insert yX6_insert, .initialized RX6, .code yX6_insert cX6_insert 3 none, .fieldLink RX6 15 "AnchoredNotes$Row" "length" "I", .fieldLink RX6 9 "AnchoredNotes$Row" "items" "[I", .methodLink RX6 23 arraycopyName, .native arraycopyName, .static arraycopyName, .initialized "java/lang/System"] ++ wsX40 ++ wsX60)
def wsX4_passageError : List Cond := .code yX4_passageError cX4_passageError 3 (some .int) :: ([.fieldLink RX4 20 "AnchoredNotes$Page" "letters" "LAnchoredNotes$Row;", .methodLink RX4 58 yX6_has, .instanceMethod yX6_has, .selects RX6 yX6_has yX6_has, .initialized RX6, .code yX6_has cX6_has 2 (some .boolean), .fieldLink RX6 15 "AnchoredNotes$Row" "length" "I", .fieldLink RX6 9 "AnchoredNotes$Row" "items" "[I"] ++ wsX40 ++ wsX60)
def wsX4_orphanedBy : List Cond := .code yX4_orphanedBy cX4_orphanedBy 7 (some .int) :: ([.fieldLink RX4 23 "AnchoredNotes$Page" "owners" "LAnchoredNotes$Row;", .fieldLink RX4 76 "AnchoredNotes$Row" "length" "I", .methodLink RX4 94 yX4_passageError, .instanceMethod yX4_passageError, .selects RX4 yX4_passageError yX4_passageError, .initialized RX4, .code yX4_passageError cX4_passageError 3 (some .int), .fieldLink RX4 20 "AnchoredNotes$Page" "letters" "LAnchoredNotes$Row;", .methodLink RX4 58 yX6_has, .instanceMethod yX6_has, .selects RX6 yX6_has yX6_has, .initialized RX6, .code yX6_has cX6_has 2 (some .boolean), .fieldLink RX6 15 "AnchoredNotes$Row" "length" "I", .fieldLink RX6 9 "AnchoredNotes$Row" "items" "[I", .methodLink RX4 69 yX6_item, .instanceMethod yX6_item, .selects RX6 yX6_item yX6_item, .code yX6_item cX6_item 2 (some .int)] ++ wsX40 ++ wsX60)
def wsX6_cut : List Cond := .code yX6_cut cX6_cut 3 none :: ([.fieldLink RX6 9 "AnchoredNotes$Row" "items" "[I", .fieldLink RX6 15 "AnchoredNotes$Row" "length" "I", .methodLink RX6 23 arraycopyName, .native arraycopyName, .static arraycopyName, .initialized "java/lang/System", .methodLink RX6 19 yX6_has, .instanceMethod yX6_has, .selects RX6 yX6_has yX6_has, .initialized RX6, .code yX6_has cX6_has 2 (some .boolean)] ++ wsX60)
def wsJ6_bitCount_0f7a4 : List Cond := .code yJ6_bitCount_0f7a4 cJ6_bitCount_0f7a4 1 (some .int) :: ([.constant RJ6 265 (1431655765), .constant RJ6 266 (858993459), .constant RJ6 267 (252645135)])
def wsX4_eraseLetters_r1 : List Cond := [Cond.fieldLink RX4 20 "AnchoredNotes$Page" "letters" "LAnchoredNotes$Row;", Cond.fieldLink RX4 23 "AnchoredNotes$Page" "owners" "LAnchoredNotes$Row;", Cond.methodLink RX4 82 yX4_orphanedBy, Cond.instanceMethod yX4_orphanedBy, Cond.selects RX4 yX4_orphanedBy yX4_orphanedBy, Cond.initialized RX4, Cond.code yX4_orphanedBy cX4_orphanedBy 7 (some .int), Cond.fieldLink RX4 76 "AnchoredNotes$Row" "length" "I", Cond.methodLink RX4 94 yX4_passageError, Cond.instanceMethod yX4_passageError, Cond.selects RX4 yX4_passageError yX4_passageError, Cond.code yX4_passageError cX4_passageError 3 (some .int), Cond.methodLink RX4 58 yX6_has, Cond.instanceMethod yX6_has, Cond.selects RX6 yX6_has yX6_has, Cond.initialized RX6, Cond.code yX6_has cX6_has 2 (some .boolean), Cond.fieldLink RX6 15 "AnchoredNotes$Row" "length" "I", Cond.fieldLink RX6 9 "AnchoredNotes$Row" "items" "[I", Cond.methodLink RX4 69 yX6_item, Cond.instanceMethod yX6_item, Cond.selects RX6 yX6_item yX6_item, Cond.code yX6_item cX6_item 2 (some .int), Cond.methodLink RX4 86 yX6_cut]
def wsX4_eraseLetters_r2 : List Cond := [Cond.instanceMethod yX6_cut, Cond.selects RX6 yX6_cut yX6_cut, Cond.code yX6_cut cX6_cut 3 none, Cond.methodLink RX6 23 arraycopyName, Cond.native arraycopyName, Cond.static arraycopyName, Cond.initialized "java/lang/System", Cond.methodLink RX6 19 yX6_has, Cond.methodLink RX4 89 yJ6_bitCount_0f7a4, Cond.static yJ6_bitCount_0f7a4, Cond.initialized RJ6, Cond.code yJ6_bitCount_0f7a4 cJ6_bitCount_0f7a4 1 (some .int), Cond.constant RJ6 265 (1431655765), Cond.constant RJ6 266 (858993459), Cond.constant RJ6 267 (252645135)]
def wsX4_eraseLetters : List Cond := .code yX4_eraseLetters cX4_eraseLetters 4 (some .int) :: ((wsX4_eraseLetters_r1 ++ wsX4_eraseLetters_r2) ++ wsX40 ++ wsX60)
def wsX6_turn : List Cond := .code yX6_turn cX6_turn 6 none :: ([.fieldLink RX6 9 "AnchoredNotes$Row" "items" "[I", .methodLink RX6 19 yX6_has, .instanceMethod yX6_has, .selects RX6 yX6_has yX6_has, .initialized RX6, .code yX6_has cX6_has 2 (some .boolean), .fieldLink RX6 15 "AnchoredNotes$Row" "length" "I"] ++ wsX60)
def wsX6_exchange : List Cond := .code yX6_exchange cX6_exchange 4 none :: ([.methodLink RX6 33 yX6_turn, .instanceMethod yX6_turn, .selects RX6 yX6_turn yX6_turn, .initialized RX6, .code yX6_turn cX6_turn 6 none, .fieldLink RX6 9 "AnchoredNotes$Row" "items" "[I", .methodLink RX6 19 yX6_has, .instanceMethod yX6_has, .selects RX6 yX6_has yX6_has, .code yX6_has cX6_has 2 (some .boolean), .fieldLink RX6 15 "AnchoredNotes$Row" "length" "I"] ++ wsX60)
def wsX6_shift : List Cond := .code yX6_shift cX6_shift 4 none :: ([.methodLink RX6 29 yX6_exchange, .instanceMethod yX6_exchange, .selects RX6 yX6_exchange yX6_exchange, .initialized RX6, .code yX6_exchange cX6_exchange 4 none, .methodLink RX6 33 yX6_turn, .instanceMethod yX6_turn, .selects RX6 yX6_turn yX6_turn, .code yX6_turn cX6_turn 6 none, .fieldLink RX6 9 "AnchoredNotes$Row" "items" "[I", .methodLink RX6 19 yX6_has, .instanceMethod yX6_has, .selects RX6 yX6_has yX6_has, .code yX6_has cX6_has 2 (some .boolean), .fieldLink RX6 15 "AnchoredNotes$Row" "length" "I"] ++ wsX60)
def wsX4_countParted_r1 : List Cond := [Cond.fieldLink RX4 47 "AnchoredNotes$Page" "noteCount" "I", Cond.fieldLink RX4 163 "AnchoredNotes$Pieces" "pieces" "I", Cond.methodLink RX4 150 yX4_piecesOf, Cond.instanceMethod yX4_piecesOf, Cond.selects RX4 yX4_piecesOf yX4_piecesOf, Cond.initialized RX4, Cond.code yX4_piecesOf cX4_piecesOf 2 (some (.object "AnchoredNotes$Pieces")), Cond.fieldLink RX4 35 "AnchoredNotes$Page" "pieces" "LAnchoredNotes$Pieces;", Cond.fieldLink RX4 23 "AnchoredNotes$Page" "owners" "LAnchoredNotes$Row;", Cond.methodLink RX4 156 yX5_gather, Cond.instanceMethod yX5_gather, Cond.selects RX5 yX5_gather yX5_gather, Cond.initialized RX5, Cond.code yX5_gather cX5_gather 7 none, Cond.fieldLink RX5 9 "AnchoredNotes$Pieces" "pieces" "I", Cond.fieldLink RX5 15 "AnchoredNotes$Pieces" "letters" "I", Cond.fieldLink RX5 18 "AnchoredNotes$Pieces" "first" "I", Cond.fieldLink RX5 21 "AnchoredNotes$Pieces" "last" "I", Cond.fieldLink RX5 24 "AnchoredNotes$Row" "length" "I", Cond.methodLink RX5 29 yX6_item, Cond.instanceMethod yX6_item, Cond.selects RX6 yX6_item yX6_item, Cond.initialized RX6, Cond.code yX6_item cX6_item 2 (some .int)]
def wsX4_countParted_r2 : List Cond := [Cond.fieldLink RX6 15 "AnchoredNotes$Row" "length" "I", Cond.fieldLink RX6 9 "AnchoredNotes$Row" "items" "[I", Cond.static yX8_isIn, Cond.initialized RX8, Cond.code yX8_isIn cX8_isIn 2 (some .boolean)]
def wsX4_countParted : List Cond := .code yX4_countParted cX4_countParted 3 (some .int) :: ((wsX4_countParted_r1 ++ wsX4_countParted_r2) ++ wsX40 ++ wsX50 ++ wsX60)
def wsX4_moveLetters_r1 : List Cond := [Cond.fieldLink RX4 20 "AnchoredNotes$Page" "letters" "LAnchoredNotes$Row;", Cond.fieldLink RX4 76 "AnchoredNotes$Row" "length" "I", Cond.fieldLink RX4 23 "AnchoredNotes$Page" "owners" "LAnchoredNotes$Row;", Cond.methodLink RX4 94 yX4_passageError, Cond.instanceMethod yX4_passageError, Cond.selects RX4 yX4_passageError yX4_passageError, Cond.initialized RX4, Cond.code yX4_passageError cX4_passageError 3 (some .int), Cond.methodLink RX4 58 yX6_has, Cond.instanceMethod yX6_has, Cond.selects RX6 yX6_has yX6_has, Cond.initialized RX6, Cond.code yX6_has cX6_has 2 (some .boolean), Cond.fieldLink RX6 15 "AnchoredNotes$Row" "length" "I", Cond.fieldLink RX6 9 "AnchoredNotes$Row" "items" "[I", Cond.methodLink RX4 97 yX6_shift, Cond.instanceMethod yX6_shift, Cond.selects RX6 yX6_shift yX6_shift, Cond.code yX6_shift cX6_shift 4 none, Cond.methodLink RX6 29 yX6_exchange, Cond.instanceMethod yX6_exchange, Cond.selects RX6 yX6_exchange yX6_exchange, Cond.code yX6_exchange cX6_exchange 4 none, Cond.methodLink RX6 33 yX6_turn]
def wsX4_moveLetters_r2 : List Cond := [Cond.instanceMethod yX6_turn, Cond.selects RX6 yX6_turn yX6_turn, Cond.code yX6_turn cX6_turn 6 none, Cond.methodLink RX6 19 yX6_has, Cond.methodLink RX4 101 yX4_countParted, Cond.instanceMethod yX4_countParted, Cond.selects RX4 yX4_countParted yX4_countParted, Cond.code yX4_countParted cX4_countParted 3 (some .int), Cond.fieldLink RX4 47 "AnchoredNotes$Page" "noteCount" "I", Cond.fieldLink RX4 163 "AnchoredNotes$Pieces" "pieces" "I", Cond.methodLink RX4 150 yX4_piecesOf, Cond.instanceMethod yX4_piecesOf, Cond.selects RX4 yX4_piecesOf yX4_piecesOf, Cond.code yX4_piecesOf cX4_piecesOf 2 (some (.object "AnchoredNotes$Pieces")), Cond.fieldLink RX4 35 "AnchoredNotes$Page" "pieces" "LAnchoredNotes$Pieces;", Cond.methodLink RX4 156 yX5_gather, Cond.instanceMethod yX5_gather, Cond.selects RX5 yX5_gather yX5_gather, Cond.initialized RX5, Cond.code yX5_gather cX5_gather 7 none, Cond.fieldLink RX5 9 "AnchoredNotes$Pieces" "pieces" "I", Cond.fieldLink RX5 15 "AnchoredNotes$Pieces" "letters" "I", Cond.fieldLink RX5 18 "AnchoredNotes$Pieces" "first" "I", Cond.fieldLink RX5 21 "AnchoredNotes$Pieces" "last" "I"]
def wsX4_moveLetters_r3 : List Cond := [Cond.fieldLink RX5 24 "AnchoredNotes$Row" "length" "I", Cond.methodLink RX5 29 yX6_item, Cond.instanceMethod yX6_item, Cond.selects RX6 yX6_item yX6_item, Cond.code yX6_item cX6_item 2 (some .int), Cond.static yX8_isIn, Cond.initialized RX8, Cond.code yX8_isIn cX8_isIn 2 (some .boolean)]
def wsX4_moveLetters : List Cond := .code yX4_moveLetters cX4_moveLetters 6 (some .int) :: ((wsX4_moveLetters_r1 ++ (wsX4_moveLetters_r2 ++ wsX4_moveLetters_r3)) ++ wsX40 ++ wsX60 ++ wsX50)
def wsX4_anchor_r1 : List Cond := [Cond.fieldLink RX4 20 "AnchoredNotes$Page" "letters" "LAnchoredNotes$Row;", Cond.fieldLink RX4 14 "AnchoredNotes$Page" "settings" "LAnchoredNotes$Row;", Cond.fieldLink RX4 23 "AnchoredNotes$Page" "owners" "LAnchoredNotes$Row;", Cond.fieldLink RX4 76 "AnchoredNotes$Row" "length" "I", Cond.methodLink RX4 51 yX4_find, Cond.instanceMethod yX4_find, Cond.selects RX4 yX4_find yX4_find, Cond.initialized RX4, Cond.code yX4_find cX4_find 2 (some (.object "AnchoredNotes$Note")), Cond.fieldLink RX4 47 "AnchoredNotes$Page" "noteCount" "I", Cond.fieldLink RX4 28 "AnchoredNotes$Page" "notes" "[LAnchoredNotes$Note;", Cond.methodLink RX4 69 yX6_item, Cond.instanceMethod yX6_item, Cond.selects RX6 yX6_item yX6_item, Cond.initialized RX6, Cond.code yX6_item cX6_item 2 (some .int), Cond.fieldLink RX6 15 "AnchoredNotes$Row" "length" "I", Cond.fieldLink RX6 9 "AnchoredNotes$Row" "items" "[I", Cond.methodLink RX4 108 yX2_remember, Cond.instanceMethod yX2_remember, Cond.selects RX2 yX2_remember yX2_remember, Cond.initialized RX2, Cond.code yX2_remember cX2_remember 5 none, Cond.fieldLink RX2 9 "AnchoredNotes$Note" "target" "I"]
def wsX4_anchor_r2 : List Cond := [Cond.fieldLink RX2 20 "AnchoredNotes$Note" "words" "LAnchoredNotes$Row;", Cond.fieldLink RX2 24 "AnchoredNotes$Note" "ahead" "LAnchoredNotes$Row;", Cond.fieldLink RX2 27 "AnchoredNotes$Note" "behind" "LAnchoredNotes$Row;", Cond.methodLink RX2 33 yX6_copyPart, Cond.instanceMethod yX6_copyPart, Cond.selects RX6 yX6_copyPart yX6_copyPart, Cond.code yX6_copyPart cX6_copyPart 6 none, Cond.methodLink RX6 43 yX6_clear, Cond.instanceMethod yX6_clear, Cond.selects RX6 yX6_clear yX6_clear, Cond.code yX6_clear cX6_clear 1 none, Cond.methodLink RX6 19 yX6_has, Cond.instanceMethod yX6_has, Cond.selects RX6 yX6_has yX6_has, Cond.code yX6_has cX6_has 2 (some .boolean), Cond.methodLink RX6 46 yX6_item, Cond.methodLink RX6 50 yX6_add, Cond.instanceMethod yX6_add, Cond.selects RX6 yX6_add yX6_add, Cond.code yX6_add cX6_add 2 none, Cond.methodLink RX4 72 yX6_replace, Cond.instanceMethod yX6_replace, Cond.selects RX6 yX6_replace yX6_replace, Cond.code yX6_replace cX6_replace 3 none]
def wsX4_anchor : List Cond := .code yX4_anchor cX4_anchor 6 none :: ((wsX4_anchor_r1 ++ wsX4_anchor_r2) ++ wsX40 ++ wsX60 ++ wsX20)
def wsX4_addNote_r1 : List Cond := [Cond.fieldLink RX4 47 "AnchoredNotes$Page" "noteCount" "I", Cond.methodLink RX4 94 yX4_passageError, Cond.instanceMethod yX4_passageError, Cond.selects RX4 yX4_passageError yX4_passageError, Cond.initialized RX4, Cond.code yX4_passageError cX4_passageError 3 (some .int), Cond.fieldLink RX4 20 "AnchoredNotes$Page" "letters" "LAnchoredNotes$Row;", Cond.methodLink RX4 58 yX6_has, Cond.instanceMethod yX6_has, Cond.selects RX6 yX6_has yX6_has, Cond.initialized RX6, Cond.code yX6_has cX6_has 2 (some .boolean), Cond.fieldLink RX6 15 "AnchoredNotes$Row" "length" "I", Cond.fieldLink RX6 9 "AnchoredNotes$Row" "items" "[I", Cond.methodLink RX4 105 yX4_anchor, Cond.instanceMethod yX4_anchor, Cond.selects RX4 yX4_anchor yX4_anchor, Cond.code yX4_anchor cX4_anchor 6 none, Cond.fieldLink RX4 14 "AnchoredNotes$Page" "settings" "LAnchoredNotes$Row;", Cond.fieldLink RX4 23 "AnchoredNotes$Page" "owners" "LAnchoredNotes$Row;", Cond.fieldLink RX4 76 "AnchoredNotes$Row" "length" "I", Cond.methodLink RX4 51 yX4_find, Cond.instanceMethod yX4_find, Cond.selects RX4 yX4_find yX4_find]
def wsX4_addNote_r2 : List Cond := [Cond.code yX4_find cX4_find 2 (some (.object "AnchoredNotes$Note")), Cond.fieldLink RX4 28 "AnchoredNotes$Page" "notes" "[LAnchoredNotes$Note;", Cond.methodLink RX4 69 yX6_item, Cond.instanceMethod yX6_item, Cond.selects RX6 yX6_item yX6_item, Cond.code yX6_item cX6_item 2 (some .int), Cond.methodLink RX4 108 yX2_remember, Cond.instanceMethod yX2_remember, Cond.selects RX2 yX2_remember yX2_remember, Cond.initialized RX2, Cond.code yX2_remember cX2_remember 5 none, Cond.fieldLink RX2 9 "AnchoredNotes$Note" "target" "I", Cond.fieldLink RX2 20 "AnchoredNotes$Note" "words" "LAnchoredNotes$Row;", Cond.fieldLink RX2 24 "AnchoredNotes$Note" "ahead" "LAnchoredNotes$Row;", Cond.fieldLink RX2 27 "AnchoredNotes$Note" "behind" "LAnchoredNotes$Row;", Cond.methodLink RX2 33 yX6_copyPart, Cond.instanceMethod yX6_copyPart, Cond.selects RX6 yX6_copyPart yX6_copyPart, Cond.code yX6_copyPart cX6_copyPart 6 none, Cond.methodLink RX6 43 yX6_clear, Cond.instanceMethod yX6_clear, Cond.selects RX6 yX6_clear yX6_clear, Cond.code yX6_clear cX6_clear 1 none, Cond.methodLink RX6 19 yX6_has]
def wsX4_addNote_r3 : List Cond := [Cond.methodLink RX6 46 yX6_item, Cond.methodLink RX6 50 yX6_add, Cond.instanceMethod yX6_add, Cond.selects RX6 yX6_add yX6_add, Cond.code yX6_add cX6_add 2 none, Cond.methodLink RX4 72 yX6_replace, Cond.instanceMethod yX6_replace, Cond.selects RX6 yX6_replace yX6_replace, Cond.code yX6_replace cX6_replace 3 none]
def wsX4_addNote : List Cond := .code yX4_addNote cX4_addNote 5 (some .int) :: ((wsX4_addNote_r1 ++ (wsX4_addNote_r2 ++ wsX4_addNote_r3)) ++ wsX40 ++ wsX60 ++ wsX20)
def wsX4_addReply : List Cond := .code yX4_addReply cX4_addReply 4 (some .int) :: ([.fieldLink RX4 47 "AnchoredNotes$Page" "noteCount" "I", .methodLink RX4 51 yX4_find, .instanceMethod yX4_find, .selects RX4 yX4_find yX4_find, .initialized RX4, .code yX4_find cX4_find 2 (some (.object "AnchoredNotes$Note")), .fieldLink RX4 28 "AnchoredNotes$Page" "notes" "[LAnchoredNotes$Note;", .methodLink RX4 112 yX2_becomeReply, .instanceMethod yX2_becomeReply, .selects RX2 yX2_becomeReply yX2_becomeReply, .initialized RX2, .code yX2_becomeReply cX2_becomeReply 2 none, .fieldLink RX2 9 "AnchoredNotes$Note" "target" "I", .fieldLink RX2 20 "AnchoredNotes$Note" "words" "LAnchoredNotes$Row;", .fieldLink RX2 24 "AnchoredNotes$Note" "ahead" "LAnchoredNotes$Row;", .fieldLink RX2 27 "AnchoredNotes$Note" "behind" "LAnchoredNotes$Row;", .methodLink RX2 30 yX6_clear, .instanceMethod yX6_clear, .selects RX6 yX6_clear yX6_clear, .initialized RX6, .code yX6_clear cX6_clear 1 none, .fieldLink RX6 15 "AnchoredNotes$Row" "length" "I"] ++ wsX40 ++ wsX20 ++ wsX60)
def wsX4_family : List Cond := .code yX4_family cX4_family 5 (some .int) :: ([.fieldLink RX4 47 "AnchoredNotes$Page" "noteCount" "I", .fieldLink RX4 125 "AnchoredNotes$Note" "target" "I", .methodLink RX4 51 yX4_find, .instanceMethod yX4_find, .selects RX4 yX4_find yX4_find, .initialized RX4, .code yX4_find cX4_find 2 (some (.object "AnchoredNotes$Note")), .fieldLink RX4 28 "AnchoredNotes$Page" "notes" "[LAnchoredNotes$Note;", .static yX8_isIn, .initialized RX8, .code yX8_isIn cX8_isIn 2 (some .boolean)] ++ wsX40 ++ wsX20)
def wsX4_remove_r1 : List Cond := [Cond.fieldLink RX4 47 "AnchoredNotes$Page" "noteCount" "I", Cond.fieldLink RX4 28 "AnchoredNotes$Page" "notes" "[LAnchoredNotes$Note;", Cond.fieldLink RX4 125 "AnchoredNotes$Note" "target" "I", Cond.fieldLink RX4 23 "AnchoredNotes$Page" "owners" "LAnchoredNotes$Row;", Cond.fieldLink RX4 76 "AnchoredNotes$Row" "length" "I", Cond.methodLink RX4 51 yX4_find, Cond.instanceMethod yX4_find, Cond.selects RX4 yX4_find yX4_find, Cond.initialized RX4, Cond.code yX4_find cX4_find 2 (some (.object "AnchoredNotes$Note")), Cond.methodLink RX4 69 yX6_item, Cond.instanceMethod yX6_item, Cond.selects RX6 yX6_item yX6_item, Cond.initialized RX6, Cond.code yX6_item cX6_item 2 (some .int), Cond.fieldLink RX6 15 "AnchoredNotes$Row" "length" "I", Cond.fieldLink RX6 9 "AnchoredNotes$Row" "items" "[I", Cond.methodLink RX4 72 yX6_replace, Cond.instanceMethod yX6_replace, Cond.selects RX6 yX6_replace yX6_replace, Cond.code yX6_replace cX6_replace 3 none, Cond.methodLink RX6 19 yX6_has, Cond.instanceMethod yX6_has, Cond.selects RX6 yX6_has yX6_has]
def wsX4_remove_r2 : List Cond := [Cond.code yX6_has cX6_has 2 (some .boolean)]
def wsX4_remove : List Cond := .code yX4_remove cX4_remove 6 none :: ((wsX4_remove_r1 ++ wsX4_remove_r2) ++ wsX40 ++ wsX20 ++ wsX60)
def wsX4_dropFamily_r1 : List Cond := [Cond.fieldLink RX4 47 "AnchoredNotes$Page" "noteCount" "I", Cond.methodLink RX4 51 yX4_find, Cond.instanceMethod yX4_find, Cond.selects RX4 yX4_find yX4_find, Cond.initialized RX4, Cond.code yX4_find cX4_find 2 (some (.object "AnchoredNotes$Note")), Cond.fieldLink RX4 28 "AnchoredNotes$Page" "notes" "[LAnchoredNotes$Note;", Cond.methodLink RX4 115 yX4_family, Cond.instanceMethod yX4_family, Cond.selects RX4 yX4_family yX4_family, Cond.code yX4_family cX4_family 5 (some .int), Cond.fieldLink RX4 125 "AnchoredNotes$Note" "target" "I", Cond.static yX8_isIn, Cond.initialized RX8, Cond.code yX8_isIn cX8_isIn 2 (some .boolean), Cond.methodLink RX4 122 yX4_remove, Cond.instanceMethod yX4_remove, Cond.selects RX4 yX4_remove yX4_remove, Cond.code yX4_remove cX4_remove 6 none, Cond.fieldLink RX4 23 "AnchoredNotes$Page" "owners" "LAnchoredNotes$Row;", Cond.fieldLink RX4 76 "AnchoredNotes$Row" "length" "I", Cond.methodLink RX4 69 yX6_item, Cond.instanceMethod yX6_item, Cond.selects RX6 yX6_item yX6_item]
def wsX4_dropFamily_r2 : List Cond := [Cond.initialized RX6, Cond.code yX6_item cX6_item 2 (some .int), Cond.fieldLink RX6 15 "AnchoredNotes$Row" "length" "I", Cond.fieldLink RX6 9 "AnchoredNotes$Row" "items" "[I", Cond.methodLink RX4 72 yX6_replace, Cond.instanceMethod yX6_replace, Cond.selects RX6 yX6_replace yX6_replace, Cond.code yX6_replace cX6_replace 3 none, Cond.methodLink RX6 19 yX6_has, Cond.instanceMethod yX6_has, Cond.selects RX6 yX6_has yX6_has, Cond.code yX6_has cX6_has 2 (some .boolean), Cond.methodLink RX4 89 yJ6_bitCount_0f7a4, Cond.static yJ6_bitCount_0f7a4, Cond.initialized RJ6, Cond.code yJ6_bitCount_0f7a4 cJ6_bitCount_0f7a4 1 (some .int), Cond.constant RJ6 265 (1431655765), Cond.constant RJ6 266 (858993459), Cond.constant RJ6 267 (252645135)]
def wsX4_dropFamily : List Cond := .code yX4_dropFamily cX4_dropFamily 4 (some .int) :: ((wsX4_dropFamily_r1 ++ wsX4_dropFamily_r2) ++ wsX40 ++ wsX20 ++ wsX60)
def wsX4_state_r1 : List Cond := [Cond.fieldLink RX4 154 "AnchoredNotes$Pieces" "letters" "I", Cond.methodLink RX4 51 yX4_find, Cond.instanceMethod yX4_find, Cond.selects RX4 yX4_find yX4_find, Cond.initialized RX4, Cond.code yX4_find cX4_find 2 (some (.object "AnchoredNotes$Note")), Cond.fieldLink RX4 47 "AnchoredNotes$Page" "noteCount" "I", Cond.fieldLink RX4 28 "AnchoredNotes$Page" "notes" "[LAnchoredNotes$Note;", Cond.methodLink RX4 146 yX2_isReply, Cond.instanceMethod yX2_isReply, Cond.selects RX2 yX2_isReply yX2_isReply, Cond.initialized RX2, Cond.code yX2_isReply cX2_isReply 1 (some .boolean), Cond.fieldLink RX2 9 "AnchoredNotes$Note" "target" "I", Cond.methodLink RX4 150 yX4_piecesOf, Cond.instanceMethod yX4_piecesOf, Cond.selects RX4 yX4_piecesOf yX4_piecesOf, Cond.code yX4_piecesOf cX4_piecesOf 2 (some (.object "AnchoredNotes$Pieces")), Cond.fieldLink RX4 35 "AnchoredNotes$Page" "pieces" "LAnchoredNotes$Pieces;", Cond.fieldLink RX4 23 "AnchoredNotes$Page" "owners" "LAnchoredNotes$Row;", Cond.methodLink RX4 156 yX5_gather, Cond.instanceMethod yX5_gather, Cond.selects RX5 yX5_gather yX5_gather, Cond.initialized RX5]
def wsX4_state_r2 : List Cond := [Cond.code yX5_gather cX5_gather 7 none, Cond.fieldLink RX5 9 "AnchoredNotes$Pieces" "pieces" "I", Cond.fieldLink RX5 15 "AnchoredNotes$Pieces" "letters" "I", Cond.fieldLink RX5 18 "AnchoredNotes$Pieces" "first" "I", Cond.fieldLink RX5 21 "AnchoredNotes$Pieces" "last" "I", Cond.fieldLink RX5 24 "AnchoredNotes$Row" "length" "I", Cond.methodLink RX5 29 yX6_item, Cond.instanceMethod yX6_item, Cond.selects RX6 yX6_item yX6_item, Cond.initialized RX6, Cond.code yX6_item cX6_item 2 (some .int), Cond.fieldLink RX6 15 "AnchoredNotes$Row" "length" "I", Cond.fieldLink RX6 9 "AnchoredNotes$Row" "items" "[I", Cond.static yX8_isIn, Cond.initialized RX8, Cond.code yX8_isIn cX8_isIn 2 (some .boolean)]
def wsX4_state : List Cond := .code yX4_state cX4_state 3 (some .int) :: ((wsX4_state_r1 ++ wsX4_state_r2) ++ wsX50 ++ wsX40 ++ wsX20 ++ wsX60)
def wsX6_countAlike : List Cond := .code yX6_countAlike cX6_countAlike 5 (some .int) :: ([.fieldLink RX6 15 "AnchoredNotes$Row" "length" "I", .methodLink RX6 46 yX6_item, .instanceMethod yX6_item, .selects RX6 yX6_item yX6_item, .initialized RX6, .code yX6_item cX6_item 2 (some .int), .fieldLink RX6 9 "AnchoredNotes$Row" "items" "[I"] ++ wsX60)
def wsX7_look : List Cond := .code yX7_look cX7_look 6 none :: ([.fieldLink RX7 9 "AnchoredNotes$Search" "place" "I", .fieldLink RX7 15 "AnchoredNotes$Search" "likeness" "I", .fieldLink RX7 18 "AnchoredNotes$Search" "places" "I", .fieldLink RX7 21 "AnchoredNotes$Note" "words" "LAnchoredNotes$Row;", .fieldLink RX7 27 "AnchoredNotes$Row" "length" "I", .fieldLink RX7 36 "AnchoredNotes$Note" "ahead" "LAnchoredNotes$Row;", .fieldLink RX7 39 "AnchoredNotes$Note" "behind" "LAnchoredNotes$Row;", .methodLink RX7 32 yX6_countAlike, .instanceMethod yX6_countAlike, .selects RX6 yX6_countAlike yX6_countAlike, .initialized RX6, .code yX6_countAlike cX6_countAlike 5 (some .int), .fieldLink RX6 15 "AnchoredNotes$Row" "length" "I", .methodLink RX6 46 yX6_item, .instanceMethod yX6_item, .selects RX6 yX6_item yX6_item, .code yX6_item cX6_item 2 (some .int), .fieldLink RX6 9 "AnchoredNotes$Row" "items" "[I"] ++ wsX70 ++ wsX20 ++ wsX60)
def wsX4_reclaimNote_r1 : List Cond := [Cond.fieldLink RX4 20 "AnchoredNotes$Page" "letters" "LAnchoredNotes$Row;", Cond.fieldLink RX4 137 "AnchoredNotes$Search" "places" "I", Cond.fieldLink RX4 140 "AnchoredNotes$Search" "place" "I", Cond.fieldLink RX4 143 "AnchoredNotes$Note" "words" "LAnchoredNotes$Row;", Cond.fieldLink RX4 76 "AnchoredNotes$Row" "length" "I", Cond.methodLink RX4 51 yX4_find, Cond.instanceMethod yX4_find, Cond.selects RX4 yX4_find yX4_find, Cond.initialized RX4, Cond.code yX4_find cX4_find 2 (some (.object "AnchoredNotes$Note")), Cond.fieldLink RX4 47 "AnchoredNotes$Page" "noteCount" "I", Cond.fieldLink RX4 28 "AnchoredNotes$Page" "notes" "[LAnchoredNotes$Note;", Cond.methodLink RX4 128 yX4_state, Cond.instanceMethod yX4_state, Cond.selects RX4 yX4_state yX4_state, Cond.code yX4_state cX4_state 3 (some .int), Cond.fieldLink RX4 154 "AnchoredNotes$Pieces" "letters" "I", Cond.methodLink RX4 146 yX2_isReply, Cond.instanceMethod yX2_isReply, Cond.selects RX2 yX2_isReply yX2_isReply, Cond.initialized RX2, Cond.code yX2_isReply cX2_isReply 1 (some .boolean), Cond.fieldLink RX2 9 "AnchoredNotes$Note" "target" "I", Cond.methodLink RX4 150 yX4_piecesOf]
def wsX4_reclaimNote_r2 : List Cond := [Cond.instanceMethod yX4_piecesOf, Cond.selects RX4 yX4_piecesOf yX4_piecesOf, Cond.code yX4_piecesOf cX4_piecesOf 2 (some (.object "AnchoredNotes$Pieces")), Cond.fieldLink RX4 35 "AnchoredNotes$Page" "pieces" "LAnchoredNotes$Pieces;", Cond.fieldLink RX4 23 "AnchoredNotes$Page" "owners" "LAnchoredNotes$Row;", Cond.methodLink RX4 156 yX5_gather, Cond.instanceMethod yX5_gather, Cond.selects RX5 yX5_gather yX5_gather, Cond.initialized RX5, Cond.code yX5_gather cX5_gather 7 none, Cond.fieldLink RX5 9 "AnchoredNotes$Pieces" "pieces" "I", Cond.fieldLink RX5 15 "AnchoredNotes$Pieces" "letters" "I", Cond.fieldLink RX5 18 "AnchoredNotes$Pieces" "first" "I", Cond.fieldLink RX5 21 "AnchoredNotes$Pieces" "last" "I", Cond.fieldLink RX5 24 "AnchoredNotes$Row" "length" "I", Cond.methodLink RX5 29 yX6_item, Cond.instanceMethod yX6_item, Cond.selects RX6 yX6_item yX6_item, Cond.initialized RX6, Cond.code yX6_item cX6_item 2 (some .int), Cond.fieldLink RX6 15 "AnchoredNotes$Row" "length" "I", Cond.fieldLink RX6 9 "AnchoredNotes$Row" "items" "[I", Cond.static yX8_isIn, Cond.initialized RX8]
def wsX4_reclaimNote_r3 : List Cond := [Cond.code yX8_isIn cX8_isIn 2 (some .boolean), Cond.methodLink RX4 131 yX7_look, Cond.instanceMethod yX7_look, Cond.selects RX7 yX7_look yX7_look, Cond.initialized RX7, Cond.code yX7_look cX7_look 6 none, Cond.fieldLink RX7 9 "AnchoredNotes$Search" "place" "I", Cond.fieldLink RX7 15 "AnchoredNotes$Search" "likeness" "I", Cond.fieldLink RX7 18 "AnchoredNotes$Search" "places" "I", Cond.fieldLink RX7 21 "AnchoredNotes$Note" "words" "LAnchoredNotes$Row;", Cond.fieldLink RX7 27 "AnchoredNotes$Row" "length" "I", Cond.fieldLink RX7 36 "AnchoredNotes$Note" "ahead" "LAnchoredNotes$Row;", Cond.fieldLink RX7 39 "AnchoredNotes$Note" "behind" "LAnchoredNotes$Row;", Cond.methodLink RX7 32 yX6_countAlike, Cond.instanceMethod yX6_countAlike, Cond.selects RX6 yX6_countAlike yX6_countAlike, Cond.code yX6_countAlike cX6_countAlike 5 (some .int), Cond.methodLink RX6 46 yX6_item, Cond.methodLink RX4 105 yX4_anchor, Cond.instanceMethod yX4_anchor, Cond.selects RX4 yX4_anchor yX4_anchor, Cond.code yX4_anchor cX4_anchor 6 none, Cond.fieldLink RX4 14 "AnchoredNotes$Page" "settings" "LAnchoredNotes$Row;", Cond.methodLink RX4 69 yX6_item]
def wsX4_reclaimNote_r4 : List Cond := [Cond.methodLink RX4 108 yX2_remember, Cond.instanceMethod yX2_remember, Cond.selects RX2 yX2_remember yX2_remember, Cond.code yX2_remember cX2_remember 5 none, Cond.fieldLink RX2 20 "AnchoredNotes$Note" "words" "LAnchoredNotes$Row;", Cond.fieldLink RX2 24 "AnchoredNotes$Note" "ahead" "LAnchoredNotes$Row;", Cond.fieldLink RX2 27 "AnchoredNotes$Note" "behind" "LAnchoredNotes$Row;", Cond.methodLink RX2 33 yX6_copyPart, Cond.instanceMethod yX6_copyPart, Cond.selects RX6 yX6_copyPart yX6_copyPart, Cond.code yX6_copyPart cX6_copyPart 6 none, Cond.methodLink RX6 43 yX6_clear, Cond.instanceMethod yX6_clear, Cond.selects RX6 yX6_clear yX6_clear, Cond.code yX6_clear cX6_clear 1 none, Cond.methodLink RX6 19 yX6_has, Cond.instanceMethod yX6_has, Cond.selects RX6 yX6_has yX6_has, Cond.code yX6_has cX6_has 2 (some .boolean), Cond.methodLink RX6 50 yX6_add, Cond.instanceMethod yX6_add, Cond.selects RX6 yX6_add yX6_add, Cond.code yX6_add cX6_add 2 none, Cond.methodLink RX4 72 yX6_replace]
def wsX4_reclaimNote_r5 : List Cond := [Cond.instanceMethod yX6_replace, Cond.selects RX6 yX6_replace yX6_replace, Cond.code yX6_replace cX6_replace 3 none]
def wsX4_reclaimNote : List Cond := .code yX4_reclaimNote cX4_reclaimNote 4 (some .int) :: ((wsX4_reclaimNote_r1 ++ (wsX4_reclaimNote_r2 ++ (wsX4_reclaimNote_r3 ++ (wsX4_reclaimNote_r4 ++ wsX4_reclaimNote_r5)))) ++ wsX40 ++ wsX70 ++ wsX20 ++ wsX60 ++ wsX50)
def wsX4_depth : List Cond := .code yX4_depth cX4_depth 4 (some .int) :: ([.fieldLink RX4 125 "AnchoredNotes$Note" "target" "I", .methodLink RX4 51 yX4_find, .instanceMethod yX4_find, .selects RX4 yX4_find yX4_find, .initialized RX4, .code yX4_find cX4_find 2 (some (.object "AnchoredNotes$Note")), .fieldLink RX4 47 "AnchoredNotes$Page" "noteCount" "I", .fieldLink RX4 28 "AnchoredNotes$Page" "notes" "[LAnchoredNotes$Note;", .methodLink RX4 146 yX2_isReply, .instanceMethod yX2_isReply, .selects RX2 yX2_isReply yX2_isReply, .initialized RX2, .code yX2_isReply cX2_isReply 1 (some .boolean), .fieldLink RX2 9 "AnchoredNotes$Note" "target" "I"] ++ wsX20 ++ wsX40)
def wsX4_root : List Cond := .code yX4_root cX4_root 5 (some .int) :: ([.fieldLink RX4 125 "AnchoredNotes$Note" "target" "I", .methodLink RX4 160 yX4_depth, .instanceMethod yX4_depth, .selects RX4 yX4_depth yX4_depth, .initialized RX4, .code yX4_depth cX4_depth 4 (some .int), .methodLink RX4 51 yX4_find, .instanceMethod yX4_find, .selects RX4 yX4_find yX4_find, .code yX4_find cX4_find 2 (some (.object "AnchoredNotes$Note")), .fieldLink RX4 47 "AnchoredNotes$Page" "noteCount" "I", .fieldLink RX4 28 "AnchoredNotes$Page" "notes" "[LAnchoredNotes$Note;", .methodLink RX4 146 yX2_isReply, .instanceMethod yX2_isReply, .selects RX2 yX2_isReply yX2_isReply, .initialized RX2, .code yX2_isReply cX2_isReply 1 (some .boolean), .fieldLink RX2 9 "AnchoredNotes$Note" "target" "I"] ++ wsX20 ++ wsX40)
def wsX4_countState_r1 : List Cond := [Cond.fieldLink RX4 47 "AnchoredNotes$Page" "noteCount" "I", Cond.methodLink RX4 128 yX4_state, Cond.instanceMethod yX4_state, Cond.selects RX4 yX4_state yX4_state, Cond.initialized RX4, Cond.code yX4_state cX4_state 3 (some .int), Cond.fieldLink RX4 154 "AnchoredNotes$Pieces" "letters" "I", Cond.methodLink RX4 51 yX4_find, Cond.instanceMethod yX4_find, Cond.selects RX4 yX4_find yX4_find, Cond.code yX4_find cX4_find 2 (some (.object "AnchoredNotes$Note")), Cond.fieldLink RX4 28 "AnchoredNotes$Page" "notes" "[LAnchoredNotes$Note;", Cond.methodLink RX4 146 yX2_isReply, Cond.instanceMethod yX2_isReply, Cond.selects RX2 yX2_isReply yX2_isReply, Cond.initialized RX2, Cond.code yX2_isReply cX2_isReply 1 (some .boolean), Cond.fieldLink RX2 9 "AnchoredNotes$Note" "target" "I", Cond.methodLink RX4 150 yX4_piecesOf, Cond.instanceMethod yX4_piecesOf, Cond.selects RX4 yX4_piecesOf yX4_piecesOf, Cond.code yX4_piecesOf cX4_piecesOf 2 (some (.object "AnchoredNotes$Pieces")), Cond.fieldLink RX4 35 "AnchoredNotes$Page" "pieces" "LAnchoredNotes$Pieces;", Cond.fieldLink RX4 23 "AnchoredNotes$Page" "owners" "LAnchoredNotes$Row;"]
def wsX4_countState_r2 : List Cond := [Cond.methodLink RX4 156 yX5_gather, Cond.instanceMethod yX5_gather, Cond.selects RX5 yX5_gather yX5_gather, Cond.initialized RX5, Cond.code yX5_gather cX5_gather 7 none, Cond.fieldLink RX5 9 "AnchoredNotes$Pieces" "pieces" "I", Cond.fieldLink RX5 15 "AnchoredNotes$Pieces" "letters" "I", Cond.fieldLink RX5 18 "AnchoredNotes$Pieces" "first" "I", Cond.fieldLink RX5 21 "AnchoredNotes$Pieces" "last" "I", Cond.fieldLink RX5 24 "AnchoredNotes$Row" "length" "I", Cond.methodLink RX5 29 yX6_item, Cond.instanceMethod yX6_item, Cond.selects RX6 yX6_item yX6_item, Cond.initialized RX6, Cond.code yX6_item cX6_item 2 (some .int), Cond.fieldLink RX6 15 "AnchoredNotes$Row" "length" "I", Cond.fieldLink RX6 9 "AnchoredNotes$Row" "items" "[I", Cond.static yX8_isIn, Cond.initialized RX8, Cond.code yX8_isIn cX8_isIn 2 (some .boolean)]
def wsX4_countState : List Cond := .code yX4_countState cX4_countState 4 (some .int) :: ((wsX4_countState_r1 ++ wsX4_countState_r2) ++ wsX40 ++ wsX50 ++ wsX20 ++ wsX60)
def wsX4_countLines : List Cond := .code yX4_countLines cX4_countLines 1 (some .int) :: ([.fieldLink RX4 20 "AnchoredNotes$Page" "letters" "LAnchoredNotes$Row;", .fieldLink RX4 76 "AnchoredNotes$Row" "length" "I", .methodLink RX4 165 yX4_lineOf, .instanceMethod yX4_lineOf, .selects RX4 yX4_lineOf yX4_lineOf, .initialized RX4, .code yX4_lineOf cX4_lineOf 3 (some .int), .fieldLink RX4 14 "AnchoredNotes$Page" "settings" "LAnchoredNotes$Row;", .methodLink RX4 69 yX6_item, .instanceMethod yX6_item, .selects RX6 yX6_item yX6_item, .initialized RX6, .code yX6_item cX6_item 2 (some .int), .fieldLink RX6 15 "AnchoredNotes$Row" "length" "I", .fieldLink RX6 9 "AnchoredNotes$Row" "items" "[I"] ++ wsX40 ++ wsX60)
def wsX7_init : List Cond := .code yX7_init cX7_init 1 none :: ([.methodLink RX7 3 objectInit, .instanceMethod objectInit, .code objectInit ⟨#[0xb1]⟩ 1 none])
def wsX8_init_r1 : List Cond := [Cond.methodLink RX8 1 objectInit, Cond.instanceMethod objectInit, Cond.code objectInit ⟨#[0xb1]⟩ 1 none, Cond.classLink RX8 7 RX4, Cond.instantiable RX4 6, Cond.initialized RX4, Cond.fieldLink RX8 10 "AnchoredNotes" "page" "LAnchoredNotes$Page;", Cond.classLink RX8 16 RX1, Cond.instantiable RX1 7, Cond.initialized RX1, Cond.fieldLink RX8 19 "AnchoredNotes" "margin" "LAnchoredNotes$Margin;", Cond.classLink RX8 23 RX7, Cond.instantiable RX7 3, Cond.initialized RX7, Cond.fieldLink RX8 26 "AnchoredNotes" "search" "LAnchoredNotes$Search;", Cond.classLink RX8 30 RX6, Cond.instantiable RX6 2, Cond.initialized RX6, Cond.fieldLink RX8 35 "AnchoredNotes" "pad" "LAnchoredNotes$Row;", Cond.classLink RX8 39 RX3, Cond.instantiable RX3 4, Cond.initialized RX3, Cond.fieldLink RX8 42 "AnchoredNotes" "reader" "LAnchoredNotes$OrderReader;", Cond.classLink RX8 46 RX0]
def wsX8_init_r2 : List Cond := [Cond.instantiable RX0 2, Cond.initialized RX0, Cond.fieldLink RX8 49 "AnchoredNotes" "history" "LAnchoredNotes$History;", Cond.fieldLink RX8 53 "AnchoredNotes" "slots" "[LAnchoredNotes$Page;", Cond.methodLink RX8 9 yX4_init, Cond.instanceMethod yX4_init, Cond.code yX4_init cX4_init 2 none, Cond.methodLink RX4 3 objectInit, Cond.classLink RX4 9 RX6, Cond.fieldLink RX4 14 "AnchoredNotes$Page" "settings" "LAnchoredNotes$Row;", Cond.fieldLink RX4 20 "AnchoredNotes$Page" "letters" "LAnchoredNotes$Row;", Cond.fieldLink RX4 23 "AnchoredNotes$Page" "owners" "LAnchoredNotes$Row;", Cond.classLink RX4 26 RX2, Cond.fieldLink RX4 28 "AnchoredNotes$Page" "notes" "[LAnchoredNotes$Note;", Cond.classLink RX4 32 RX5, Cond.instantiable RX5 4, Cond.initialized RX5, Cond.fieldLink RX4 35 "AnchoredNotes$Page" "pieces" "LAnchoredNotes$Pieces;", Cond.instantiable RX2 4, Cond.initialized RX2, Cond.methodLink RX4 11 yX6_init, Cond.instanceMethod yX6_init, Cond.code yX6_init cX6_init 2 none, Cond.methodLink RX6 3 objectInit]
def wsX8_init_r3 : List Cond := [Cond.arrayClass .int, Cond.fieldLink RX6 9 "AnchoredNotes$Row" "items" "[I", Cond.instanceMethod yX5_init, Cond.code yX5_init cX5_init 1 none, Cond.methodLink RX5 3 objectInit, Cond.methodLink RX4 39 yX6_add, Cond.instanceMethod yX6_add, Cond.selects RX6 yX6_add yX6_add, Cond.code yX6_add cX6_add 2 none, Cond.fieldLink RX6 15 "AnchoredNotes$Row" "length" "I", Cond.instanceMethod yX2_init, Cond.code yX2_init cX2_init 1 none, Cond.methodLink RX2 3 objectInit, Cond.fieldLink RX2 9 "AnchoredNotes$Note" "target" "I", Cond.classLink RX2 15 RX6, Cond.fieldLink RX2 20 "AnchoredNotes$Note" "words" "LAnchoredNotes$Row;", Cond.fieldLink RX2 24 "AnchoredNotes$Note" "ahead" "LAnchoredNotes$Row;", Cond.fieldLink RX2 27 "AnchoredNotes$Note" "behind" "LAnchoredNotes$Row;", Cond.methodLink RX2 17 yX6_init, Cond.instanceMethod yX1_init, Cond.code yX1_init cX1_init 1 none, Cond.methodLink RX1 3 objectInit, Cond.classLink RX1 9 RX6, Cond.fieldLink RX1 14 "AnchoredNotes$Margin" "lines" "LAnchoredNotes$Row;"]
def wsX8_init_r4 : List Cond := [Cond.fieldLink RX1 20 "AnchoredNotes$Margin" "leaders" "LAnchoredNotes$Row;", Cond.fieldLink RX1 23 "AnchoredNotes$Margin" "firsts" "LAnchoredNotes$Row;", Cond.fieldLink RX1 26 "AnchoredNotes$Margin" "used" "LAnchoredNotes$Row;", Cond.methodLink RX1 11 yX6_init, Cond.instanceMethod yX7_init, Cond.code yX7_init cX7_init 1 none, Cond.methodLink RX7 3 objectInit, Cond.methodLink RX8 32 yX6_init, Cond.instanceMethod yX3_init, Cond.code yX3_init cX3_init 1 none, Cond.methodLink RX3 3 objectInit, Cond.classLink RX3 9 RX6, Cond.fieldLink RX3 14 "AnchoredNotes$OrderReader" "numbers" "LAnchoredNotes$Row;", Cond.methodLink RX3 11 yX6_init, Cond.instanceMethod yX0_init, Cond.code yX0_init cX0_init 1 none, Cond.methodLink RX0 3 objectInit, Cond.classLink RX0 9 RX4, Cond.fieldLink RX0 11 "AnchoredNotes$History" "states" "[LAnchoredNotes$Page;"]
def wsX8_init : List Cond := .code yX8_init cX8_init 1 none :: ((wsX8_init_r1 ++ (wsX8_init_r2 ++ (wsX8_init_r3 ++ wsX8_init_r4))) ++ wsX40 ++ wsX80 ++ wsX10 ++ wsX70 ++ wsX60 ++ wsX30 ++ wsX00 ++ wsX50 ++ wsX20)
def wsX8_set_r1 : List Cond := [Cond.fieldLink RX8 49 "AnchoredNotes" "history" "LAnchoredNotes$History;", Cond.fieldLink RX8 10 "AnchoredNotes" "page" "LAnchoredNotes$Page;", Cond.methodLink RX8 57 yX0_keep, Cond.instanceMethod yX0_keep, Cond.selects RX0 yX0_keep yX0_keep, Cond.initialized RX0, Cond.code yX0_keep cX0_keep 3 none, Cond.fieldLink RX0 17 "AnchoredNotes$History" "size" "I", Cond.fieldLink RX0 11 "AnchoredNotes$History" "states" "[LAnchoredNotes$Page;", Cond.classLink RX0 9 RX4, Cond.instantiable RX4 6, Cond.initialized RX4, Cond.methodLink RX0 21 yX4_init, Cond.instanceMethod yX4_init, Cond.code yX4_init cX4_init 2 none, Cond.methodLink RX4 3 objectInit, Cond.instanceMethod objectInit, Cond.code objectInit ⟨#[0xb1]⟩ 1 none, Cond.classLink RX4 9 RX6, Cond.instantiable RX6 2, Cond.initialized RX6, Cond.fieldLink RX4 14 "AnchoredNotes$Page" "settings" "LAnchoredNotes$Row;", Cond.fieldLink RX4 20 "AnchoredNotes$Page" "letters" "LAnchoredNotes$Row;", Cond.fieldLink RX4 23 "AnchoredNotes$Page" "owners" "LAnchoredNotes$Row;"]
def wsX8_set_r2 : List Cond := [Cond.classLink RX4 26 RX2, Cond.fieldLink RX4 28 "AnchoredNotes$Page" "notes" "[LAnchoredNotes$Note;", Cond.classLink RX4 32 RX5, Cond.instantiable RX5 4, Cond.initialized RX5, Cond.fieldLink RX4 35 "AnchoredNotes$Page" "pieces" "LAnchoredNotes$Pieces;", Cond.instantiable RX2 4, Cond.initialized RX2, Cond.methodLink RX4 11 yX6_init, Cond.instanceMethod yX6_init, Cond.code yX6_init cX6_init 2 none, Cond.methodLink RX6 3 objectInit, Cond.arrayClass .int, Cond.fieldLink RX6 9 "AnchoredNotes$Row" "items" "[I", Cond.instanceMethod yX5_init, Cond.code yX5_init cX5_init 1 none, Cond.methodLink RX5 3 objectInit, Cond.methodLink RX4 39 yX6_add, Cond.instanceMethod yX6_add, Cond.selects RX6 yX6_add yX6_add, Cond.code yX6_add cX6_add 2 none, Cond.fieldLink RX6 15 "AnchoredNotes$Row" "length" "I", Cond.instanceMethod yX2_init, Cond.code yX2_init cX2_init 1 none]
def wsX8_set_r3 : List Cond := [Cond.methodLink RX2 3 objectInit, Cond.fieldLink RX2 9 "AnchoredNotes$Note" "target" "I", Cond.classLink RX2 15 RX6, Cond.fieldLink RX2 20 "AnchoredNotes$Note" "words" "LAnchoredNotes$Row;", Cond.fieldLink RX2 24 "AnchoredNotes$Note" "ahead" "LAnchoredNotes$Row;", Cond.fieldLink RX2 27 "AnchoredNotes$Note" "behind" "LAnchoredNotes$Row;", Cond.methodLink RX2 17 yX6_init, Cond.methodLink RX0 22 yX4_copyFrom, Cond.instanceMethod yX4_copyFrom, Cond.selects RX4 yX4_copyFrom yX4_copyFrom, Cond.code yX4_copyFrom cX4_copyFrom 5 none, Cond.fieldLink RX4 47 "AnchoredNotes$Page" "noteCount" "I", Cond.methodLink RX4 43 yX6_copyFrom, Cond.instanceMethod yX6_copyFrom, Cond.selects RX6 yX6_copyFrom yX6_copyFrom, Cond.code yX6_copyFrom cX6_copyFrom 2 none, Cond.methodLink RX6 37 Lib.Math.min.name, Cond.static Lib.Math.min.name, Cond.initialized "java/lang/Math", Cond.code Lib.Math.min.name Lib.Math.min.code 2 (some .int), Cond.methodLink RX6 23 arraycopyName, Cond.native arraycopyName, Cond.static arraycopyName, Cond.initialized "java/lang/System"]
def wsX8_set_r4 : List Cond := [Cond.methodLink RX4 51 yX4_find, Cond.instanceMethod yX4_find, Cond.selects RX4 yX4_find yX4_find, Cond.code yX4_find cX4_find 2 (some (.object "AnchoredNotes$Note")), Cond.methodLink RX4 55 yX2_copyFrom, Cond.instanceMethod yX2_copyFrom, Cond.selects RX2 yX2_copyFrom yX2_copyFrom, Cond.code yX2_copyFrom cX2_copyFrom 2 none, Cond.methodLink RX2 37 yX6_copyFrom, Cond.methodLink RX8 61 yX4_changeSetting, Cond.instanceMethod yX4_changeSetting, Cond.selects RX4 yX4_changeSetting yX4_changeSetting, Cond.code yX4_changeSetting cX4_changeSetting 4 (some .int), Cond.methodLink RX4 58 yX6_has, Cond.instanceMethod yX6_has, Cond.selects RX6 yX6_has yX6_has, Cond.code yX6_has cX6_has 2 (some .boolean), Cond.methodLink RX4 62 yX4_leastOf, Cond.static yX4_leastOf, Cond.code yX4_leastOf cX4_leastOf 1 (some .int), Cond.methodLink RX4 66 yX4_mostOf, Cond.static yX4_mostOf, Cond.code yX4_mostOf cX4_mostOf 1 (some .int), Cond.methodLink RX4 69 yX6_item]
def wsX8_set_r5 : List Cond := [Cond.instanceMethod yX6_item, Cond.selects RX6 yX6_item yX6_item, Cond.code yX6_item cX6_item 2 (some .int), Cond.methodLink RX4 72 yX6_replace, Cond.instanceMethod yX6_replace, Cond.selects RX6 yX6_replace yX6_replace, Cond.code yX6_replace cX6_replace 3 none, Cond.methodLink RX6 19 yX6_has, Cond.methodLink RX8 65 yX0_confirm, Cond.instanceMethod yX0_confirm, Cond.selects RX0 yX0_confirm yX0_confirm, Cond.code yX0_confirm cX0_confirm 2 (some .int), Cond.methodLink RX0 26 yX0_forgetOldest, Cond.instanceMethod yX0_forgetOldest, Cond.selects RX0 yX0_forgetOldest yX0_forgetOldest, Cond.code yX0_forgetOldest cX0_forgetOldest 3 none]
def wsX8_set : List Cond := .code yX8_set cX8_set 3 (some .int) :: ((wsX8_set_r1 ++ (wsX8_set_r2 ++ (wsX8_set_r3 ++ (wsX8_set_r4 ++ wsX8_set_r5)))) ++ wsX80 ++ wsX00 ++ wsX40 ++ wsX60 ++ wsX50 ++ wsX20)
def wsX8_write_r1 : List Cond := [Cond.fieldLink RX8 49 "AnchoredNotes" "history" "LAnchoredNotes$History;", Cond.fieldLink RX8 10 "AnchoredNotes" "page" "LAnchoredNotes$Page;", Cond.methodLink RX8 57 yX0_keep, Cond.instanceMethod yX0_keep, Cond.selects RX0 yX0_keep yX0_keep, Cond.initialized RX0, Cond.code yX0_keep cX0_keep 3 none, Cond.fieldLink RX0 17 "AnchoredNotes$History" "size" "I", Cond.fieldLink RX0 11 "AnchoredNotes$History" "states" "[LAnchoredNotes$Page;", Cond.classLink RX0 9 RX4, Cond.instantiable RX4 6, Cond.initialized RX4, Cond.methodLink RX0 21 yX4_init, Cond.instanceMethod yX4_init, Cond.code yX4_init cX4_init 2 none, Cond.methodLink RX4 3 objectInit, Cond.instanceMethod objectInit, Cond.code objectInit ⟨#[0xb1]⟩ 1 none, Cond.classLink RX4 9 RX6, Cond.instantiable RX6 2, Cond.initialized RX6, Cond.fieldLink RX4 14 "AnchoredNotes$Page" "settings" "LAnchoredNotes$Row;", Cond.fieldLink RX4 20 "AnchoredNotes$Page" "letters" "LAnchoredNotes$Row;", Cond.fieldLink RX4 23 "AnchoredNotes$Page" "owners" "LAnchoredNotes$Row;"]
def wsX8_write_r2 : List Cond := [Cond.classLink RX4 26 RX2, Cond.fieldLink RX4 28 "AnchoredNotes$Page" "notes" "[LAnchoredNotes$Note;", Cond.classLink RX4 32 RX5, Cond.instantiable RX5 4, Cond.initialized RX5, Cond.fieldLink RX4 35 "AnchoredNotes$Page" "pieces" "LAnchoredNotes$Pieces;", Cond.instantiable RX2 4, Cond.initialized RX2, Cond.methodLink RX4 11 yX6_init, Cond.instanceMethod yX6_init, Cond.code yX6_init cX6_init 2 none, Cond.methodLink RX6 3 objectInit, Cond.arrayClass .int, Cond.fieldLink RX6 9 "AnchoredNotes$Row" "items" "[I", Cond.instanceMethod yX5_init, Cond.code yX5_init cX5_init 1 none, Cond.methodLink RX5 3 objectInit, Cond.methodLink RX4 39 yX6_add, Cond.instanceMethod yX6_add, Cond.selects RX6 yX6_add yX6_add, Cond.code yX6_add cX6_add 2 none, Cond.fieldLink RX6 15 "AnchoredNotes$Row" "length" "I", Cond.instanceMethod yX2_init, Cond.code yX2_init cX2_init 1 none]
def wsX8_write_r3 : List Cond := [Cond.methodLink RX2 3 objectInit, Cond.fieldLink RX2 9 "AnchoredNotes$Note" "target" "I", Cond.classLink RX2 15 RX6, Cond.fieldLink RX2 20 "AnchoredNotes$Note" "words" "LAnchoredNotes$Row;", Cond.fieldLink RX2 24 "AnchoredNotes$Note" "ahead" "LAnchoredNotes$Row;", Cond.fieldLink RX2 27 "AnchoredNotes$Note" "behind" "LAnchoredNotes$Row;", Cond.methodLink RX2 17 yX6_init, Cond.methodLink RX0 22 yX4_copyFrom, Cond.instanceMethod yX4_copyFrom, Cond.selects RX4 yX4_copyFrom yX4_copyFrom, Cond.code yX4_copyFrom cX4_copyFrom 5 none, Cond.fieldLink RX4 47 "AnchoredNotes$Page" "noteCount" "I", Cond.methodLink RX4 43 yX6_copyFrom, Cond.instanceMethod yX6_copyFrom, Cond.selects RX6 yX6_copyFrom yX6_copyFrom, Cond.code yX6_copyFrom cX6_copyFrom 2 none, Cond.methodLink RX6 37 Lib.Math.min.name, Cond.static Lib.Math.min.name, Cond.initialized "java/lang/Math", Cond.code Lib.Math.min.name Lib.Math.min.code 2 (some .int), Cond.methodLink RX6 23 arraycopyName, Cond.native arraycopyName, Cond.static arraycopyName, Cond.initialized "java/lang/System"]
def wsX8_write_r4 : List Cond := [Cond.methodLink RX4 51 yX4_find, Cond.instanceMethod yX4_find, Cond.selects RX4 yX4_find yX4_find, Cond.code yX4_find cX4_find 2 (some (.object "AnchoredNotes$Note")), Cond.methodLink RX4 55 yX2_copyFrom, Cond.instanceMethod yX2_copyFrom, Cond.selects RX2 yX2_copyFrom yX2_copyFrom, Cond.code yX2_copyFrom cX2_copyFrom 2 none, Cond.methodLink RX2 37 yX6_copyFrom, Cond.methodLink RX8 69 yX4_writeLetter, Cond.instanceMethod yX4_writeLetter, Cond.selects RX4 yX4_writeLetter yX4_writeLetter, Cond.code yX4_writeLetter cX4_writeLetter 3 (some .int), Cond.fieldLink RX4 76 "AnchoredNotes$Row" "length" "I", Cond.methodLink RX4 79 yX6_insert, Cond.instanceMethod yX6_insert, Cond.selects RX6 yX6_insert yX6_insert, Cond.code yX6_insert cX6_insert 3 none, Cond.methodLink RX8 65 yX0_confirm, Cond.instanceMethod yX0_confirm, Cond.selects RX0 yX0_confirm yX0_confirm, Cond.code yX0_confirm cX0_confirm 2 (some .int), Cond.methodLink RX0 26 yX0_forgetOldest, Cond.instanceMethod yX0_forgetOldest]
def wsX8_write_r5 : List Cond := [Cond.selects RX0 yX0_forgetOldest yX0_forgetOldest, Cond.code yX0_forgetOldest cX0_forgetOldest 3 none]
def wsX8_write : List Cond := .code yX8_write cX8_write 3 (some .int) :: ((wsX8_write_r1 ++ (wsX8_write_r2 ++ (wsX8_write_r3 ++ (wsX8_write_r4 ++ wsX8_write_r5)))) ++ wsX80 ++ wsX00 ++ wsX40 ++ wsX60 ++ wsX50 ++ wsX20)
def wsX8_erase_r1 : List Cond := [Cond.fieldLink RX8 49 "AnchoredNotes" "history" "LAnchoredNotes$History;", Cond.fieldLink RX8 10 "AnchoredNotes" "page" "LAnchoredNotes$Page;", Cond.methodLink RX8 57 yX0_keep, Cond.instanceMethod yX0_keep, Cond.selects RX0 yX0_keep yX0_keep, Cond.initialized RX0, Cond.code yX0_keep cX0_keep 3 none, Cond.fieldLink RX0 17 "AnchoredNotes$History" "size" "I", Cond.fieldLink RX0 11 "AnchoredNotes$History" "states" "[LAnchoredNotes$Page;", Cond.classLink RX0 9 RX4, Cond.instantiable RX4 6, Cond.initialized RX4, Cond.methodLink RX0 21 yX4_init, Cond.instanceMethod yX4_init, Cond.code yX4_init cX4_init 2 none, Cond.methodLink RX4 3 objectInit, Cond.instanceMethod objectInit, Cond.code objectInit ⟨#[0xb1]⟩ 1 none, Cond.classLink RX4 9 RX6, Cond.instantiable RX6 2, Cond.initialized RX6, Cond.fieldLink RX4 14 "AnchoredNotes$Page" "settings" "LAnchoredNotes$Row;", Cond.fieldLink RX4 20 "AnchoredNotes$Page" "letters" "LAnchoredNotes$Row;", Cond.fieldLink RX4 23 "AnchoredNotes$Page" "owners" "LAnchoredNotes$Row;"]
def wsX8_erase_r2 : List Cond := [Cond.classLink RX4 26 RX2, Cond.fieldLink RX4 28 "AnchoredNotes$Page" "notes" "[LAnchoredNotes$Note;", Cond.classLink RX4 32 RX5, Cond.instantiable RX5 4, Cond.initialized RX5, Cond.fieldLink RX4 35 "AnchoredNotes$Page" "pieces" "LAnchoredNotes$Pieces;", Cond.instantiable RX2 4, Cond.initialized RX2, Cond.methodLink RX4 11 yX6_init, Cond.instanceMethod yX6_init, Cond.code yX6_init cX6_init 2 none, Cond.methodLink RX6 3 objectInit, Cond.arrayClass .int, Cond.fieldLink RX6 9 "AnchoredNotes$Row" "items" "[I", Cond.instanceMethod yX5_init, Cond.code yX5_init cX5_init 1 none, Cond.methodLink RX5 3 objectInit, Cond.methodLink RX4 39 yX6_add, Cond.instanceMethod yX6_add, Cond.selects RX6 yX6_add yX6_add, Cond.code yX6_add cX6_add 2 none, Cond.fieldLink RX6 15 "AnchoredNotes$Row" "length" "I", Cond.instanceMethod yX2_init, Cond.code yX2_init cX2_init 1 none]
def wsX8_erase_r3 : List Cond := [Cond.methodLink RX2 3 objectInit, Cond.fieldLink RX2 9 "AnchoredNotes$Note" "target" "I", Cond.classLink RX2 15 RX6, Cond.fieldLink RX2 20 "AnchoredNotes$Note" "words" "LAnchoredNotes$Row;", Cond.fieldLink RX2 24 "AnchoredNotes$Note" "ahead" "LAnchoredNotes$Row;", Cond.fieldLink RX2 27 "AnchoredNotes$Note" "behind" "LAnchoredNotes$Row;", Cond.methodLink RX2 17 yX6_init, Cond.methodLink RX0 22 yX4_copyFrom, Cond.instanceMethod yX4_copyFrom, Cond.selects RX4 yX4_copyFrom yX4_copyFrom, Cond.code yX4_copyFrom cX4_copyFrom 5 none, Cond.fieldLink RX4 47 "AnchoredNotes$Page" "noteCount" "I", Cond.methodLink RX4 43 yX6_copyFrom, Cond.instanceMethod yX6_copyFrom, Cond.selects RX6 yX6_copyFrom yX6_copyFrom, Cond.code yX6_copyFrom cX6_copyFrom 2 none, Cond.methodLink RX6 37 Lib.Math.min.name, Cond.static Lib.Math.min.name, Cond.initialized "java/lang/Math", Cond.code Lib.Math.min.name Lib.Math.min.code 2 (some .int), Cond.methodLink RX6 23 arraycopyName, Cond.native arraycopyName, Cond.static arraycopyName, Cond.initialized "java/lang/System"]
def wsX8_erase_r4 : List Cond := [Cond.methodLink RX4 51 yX4_find, Cond.instanceMethod yX4_find, Cond.selects RX4 yX4_find yX4_find, Cond.code yX4_find cX4_find 2 (some (.object "AnchoredNotes$Note")), Cond.methodLink RX4 55 yX2_copyFrom, Cond.instanceMethod yX2_copyFrom, Cond.selects RX2 yX2_copyFrom yX2_copyFrom, Cond.code yX2_copyFrom cX2_copyFrom 2 none, Cond.methodLink RX2 37 yX6_copyFrom, Cond.methodLink RX8 72 yX4_eraseLetters, Cond.instanceMethod yX4_eraseLetters, Cond.selects RX4 yX4_eraseLetters yX4_eraseLetters, Cond.code yX4_eraseLetters cX4_eraseLetters 4 (some .int), Cond.methodLink RX4 82 yX4_orphanedBy, Cond.instanceMethod yX4_orphanedBy, Cond.selects RX4 yX4_orphanedBy yX4_orphanedBy, Cond.code yX4_orphanedBy cX4_orphanedBy 7 (some .int), Cond.fieldLink RX4 76 "AnchoredNotes$Row" "length" "I", Cond.methodLink RX4 94 yX4_passageError, Cond.instanceMethod yX4_passageError, Cond.selects RX4 yX4_passageError yX4_passageError, Cond.code yX4_passageError cX4_passageError 3 (some .int), Cond.methodLink RX4 58 yX6_has, Cond.instanceMethod yX6_has]
def wsX8_erase_r5 : List Cond := [Cond.selects RX6 yX6_has yX6_has, Cond.code yX6_has cX6_has 2 (some .boolean), Cond.methodLink RX4 69 yX6_item, Cond.instanceMethod yX6_item, Cond.selects RX6 yX6_item yX6_item, Cond.code yX6_item cX6_item 2 (some .int), Cond.methodLink RX4 86 yX6_cut, Cond.instanceMethod yX6_cut, Cond.selects RX6 yX6_cut yX6_cut, Cond.code yX6_cut cX6_cut 3 none, Cond.methodLink RX6 19 yX6_has, Cond.methodLink RX4 89 yJ6_bitCount_0f7a4, Cond.static yJ6_bitCount_0f7a4, Cond.initialized RJ6, Cond.code yJ6_bitCount_0f7a4 cJ6_bitCount_0f7a4 1 (some .int), Cond.constant RJ6 265 (1431655765), Cond.constant RJ6 266 (858993459), Cond.constant RJ6 267 (252645135), Cond.methodLink RX8 65 yX0_confirm, Cond.instanceMethod yX0_confirm, Cond.selects RX0 yX0_confirm yX0_confirm, Cond.code yX0_confirm cX0_confirm 2 (some .int), Cond.methodLink RX0 26 yX0_forgetOldest, Cond.instanceMethod yX0_forgetOldest]
def wsX8_erase_r6 : List Cond := [Cond.selects RX0 yX0_forgetOldest yX0_forgetOldest, Cond.code yX0_forgetOldest cX0_forgetOldest 3 none]
def wsX8_erase : List Cond := .code yX8_erase cX8_erase 3 (some .int) :: ((wsX8_erase_r1 ++ (wsX8_erase_r2 ++ (wsX8_erase_r3 ++ (wsX8_erase_r4 ++ (wsX8_erase_r5 ++ wsX8_erase_r6))))) ++ wsX80 ++ wsX00 ++ wsX40 ++ wsX60 ++ wsX50 ++ wsX20)
def wsX8_move_r1 : List Cond := [Cond.fieldLink RX8 49 "AnchoredNotes" "history" "LAnchoredNotes$History;", Cond.fieldLink RX8 10 "AnchoredNotes" "page" "LAnchoredNotes$Page;", Cond.methodLink RX8 57 yX0_keep, Cond.instanceMethod yX0_keep, Cond.selects RX0 yX0_keep yX0_keep, Cond.initialized RX0, Cond.code yX0_keep cX0_keep 3 none, Cond.fieldLink RX0 17 "AnchoredNotes$History" "size" "I", Cond.fieldLink RX0 11 "AnchoredNotes$History" "states" "[LAnchoredNotes$Page;", Cond.classLink RX0 9 RX4, Cond.instantiable RX4 6, Cond.initialized RX4, Cond.methodLink RX0 21 yX4_init, Cond.instanceMethod yX4_init, Cond.code yX4_init cX4_init 2 none, Cond.methodLink RX4 3 objectInit, Cond.instanceMethod objectInit, Cond.code objectInit ⟨#[0xb1]⟩ 1 none, Cond.classLink RX4 9 RX6, Cond.instantiable RX6 2, Cond.initialized RX6, Cond.fieldLink RX4 14 "AnchoredNotes$Page" "settings" "LAnchoredNotes$Row;", Cond.fieldLink RX4 20 "AnchoredNotes$Page" "letters" "LAnchoredNotes$Row;", Cond.fieldLink RX4 23 "AnchoredNotes$Page" "owners" "LAnchoredNotes$Row;"]
def wsX8_move_r2 : List Cond := [Cond.classLink RX4 26 RX2, Cond.fieldLink RX4 28 "AnchoredNotes$Page" "notes" "[LAnchoredNotes$Note;", Cond.classLink RX4 32 RX5, Cond.instantiable RX5 4, Cond.initialized RX5, Cond.fieldLink RX4 35 "AnchoredNotes$Page" "pieces" "LAnchoredNotes$Pieces;", Cond.instantiable RX2 4, Cond.initialized RX2, Cond.methodLink RX4 11 yX6_init, Cond.instanceMethod yX6_init, Cond.code yX6_init cX6_init 2 none, Cond.methodLink RX6 3 objectInit, Cond.arrayClass .int, Cond.fieldLink RX6 9 "AnchoredNotes$Row" "items" "[I", Cond.instanceMethod yX5_init, Cond.code yX5_init cX5_init 1 none, Cond.methodLink RX5 3 objectInit, Cond.methodLink RX4 39 yX6_add, Cond.instanceMethod yX6_add, Cond.selects RX6 yX6_add yX6_add, Cond.code yX6_add cX6_add 2 none, Cond.fieldLink RX6 15 "AnchoredNotes$Row" "length" "I", Cond.instanceMethod yX2_init, Cond.code yX2_init cX2_init 1 none]
def wsX8_move_r3 : List Cond := [Cond.methodLink RX2 3 objectInit, Cond.fieldLink RX2 9 "AnchoredNotes$Note" "target" "I", Cond.classLink RX2 15 RX6, Cond.fieldLink RX2 20 "AnchoredNotes$Note" "words" "LAnchoredNotes$Row;", Cond.fieldLink RX2 24 "AnchoredNotes$Note" "ahead" "LAnchoredNotes$Row;", Cond.fieldLink RX2 27 "AnchoredNotes$Note" "behind" "LAnchoredNotes$Row;", Cond.methodLink RX2 17 yX6_init, Cond.methodLink RX0 22 yX4_copyFrom, Cond.instanceMethod yX4_copyFrom, Cond.selects RX4 yX4_copyFrom yX4_copyFrom, Cond.code yX4_copyFrom cX4_copyFrom 5 none, Cond.fieldLink RX4 47 "AnchoredNotes$Page" "noteCount" "I", Cond.methodLink RX4 43 yX6_copyFrom, Cond.instanceMethod yX6_copyFrom, Cond.selects RX6 yX6_copyFrom yX6_copyFrom, Cond.code yX6_copyFrom cX6_copyFrom 2 none, Cond.methodLink RX6 37 Lib.Math.min.name, Cond.static Lib.Math.min.name, Cond.initialized "java/lang/Math", Cond.code Lib.Math.min.name Lib.Math.min.code 2 (some .int), Cond.methodLink RX6 23 arraycopyName, Cond.native arraycopyName, Cond.static arraycopyName, Cond.initialized "java/lang/System"]
def wsX8_move_r4 : List Cond := [Cond.methodLink RX4 51 yX4_find, Cond.instanceMethod yX4_find, Cond.selects RX4 yX4_find yX4_find, Cond.code yX4_find cX4_find 2 (some (.object "AnchoredNotes$Note")), Cond.methodLink RX4 55 yX2_copyFrom, Cond.instanceMethod yX2_copyFrom, Cond.selects RX2 yX2_copyFrom yX2_copyFrom, Cond.code yX2_copyFrom cX2_copyFrom 2 none, Cond.methodLink RX2 37 yX6_copyFrom, Cond.methodLink RX8 75 yX4_moveLetters, Cond.instanceMethod yX4_moveLetters, Cond.selects RX4 yX4_moveLetters yX4_moveLetters, Cond.code yX4_moveLetters cX4_moveLetters 6 (some .int), Cond.fieldLink RX4 76 "AnchoredNotes$Row" "length" "I", Cond.methodLink RX4 94 yX4_passageError, Cond.instanceMethod yX4_passageError, Cond.selects RX4 yX4_passageError yX4_passageError, Cond.code yX4_passageError cX4_passageError 3 (some .int), Cond.methodLink RX4 58 yX6_has, Cond.instanceMethod yX6_has, Cond.selects RX6 yX6_has yX6_has, Cond.code yX6_has cX6_has 2 (some .boolean), Cond.methodLink RX4 97 yX6_shift, Cond.instanceMethod yX6_shift]
def wsX8_move_r5 : List Cond := [Cond.selects RX6 yX6_shift yX6_shift, Cond.code yX6_shift cX6_shift 4 none, Cond.methodLink RX6 29 yX6_exchange, Cond.instanceMethod yX6_exchange, Cond.selects RX6 yX6_exchange yX6_exchange, Cond.code yX6_exchange cX6_exchange 4 none, Cond.methodLink RX6 33 yX6_turn, Cond.instanceMethod yX6_turn, Cond.selects RX6 yX6_turn yX6_turn, Cond.code yX6_turn cX6_turn 6 none, Cond.methodLink RX6 19 yX6_has, Cond.methodLink RX4 101 yX4_countParted, Cond.instanceMethod yX4_countParted, Cond.selects RX4 yX4_countParted yX4_countParted, Cond.code yX4_countParted cX4_countParted 3 (some .int), Cond.fieldLink RX4 163 "AnchoredNotes$Pieces" "pieces" "I", Cond.methodLink RX4 150 yX4_piecesOf, Cond.instanceMethod yX4_piecesOf, Cond.selects RX4 yX4_piecesOf yX4_piecesOf, Cond.code yX4_piecesOf cX4_piecesOf 2 (some (.object "AnchoredNotes$Pieces")), Cond.methodLink RX4 156 yX5_gather, Cond.instanceMethod yX5_gather, Cond.selects RX5 yX5_gather yX5_gather, Cond.code yX5_gather cX5_gather 7 none]
def wsX8_move_r6 : List Cond := [Cond.fieldLink RX5 9 "AnchoredNotes$Pieces" "pieces" "I", Cond.fieldLink RX5 15 "AnchoredNotes$Pieces" "letters" "I", Cond.fieldLink RX5 18 "AnchoredNotes$Pieces" "first" "I", Cond.fieldLink RX5 21 "AnchoredNotes$Pieces" "last" "I", Cond.fieldLink RX5 24 "AnchoredNotes$Row" "length" "I", Cond.methodLink RX5 29 yX6_item, Cond.instanceMethod yX6_item, Cond.selects RX6 yX6_item yX6_item, Cond.code yX6_item cX6_item 2 (some .int), Cond.static yX8_isIn, Cond.initialized RX8, Cond.code yX8_isIn cX8_isIn 2 (some .boolean), Cond.methodLink RX8 65 yX0_confirm, Cond.instanceMethod yX0_confirm, Cond.selects RX0 yX0_confirm yX0_confirm, Cond.code yX0_confirm cX0_confirm 2 (some .int), Cond.methodLink RX0 26 yX0_forgetOldest, Cond.instanceMethod yX0_forgetOldest, Cond.selects RX0 yX0_forgetOldest yX0_forgetOldest, Cond.code yX0_forgetOldest cX0_forgetOldest 3 none]
def wsX8_move : List Cond := .code yX8_move cX8_move 4 (some .int) :: ((wsX8_move_r1 ++ (wsX8_move_r2 ++ (wsX8_move_r3 ++ (wsX8_move_r4 ++ (wsX8_move_r5 ++ wsX8_move_r6))))) ++ wsX80 ++ wsX00 ++ wsX40 ++ wsX60 ++ wsX50 ++ wsX20)
def wsX8_note_r1 : List Cond := [Cond.fieldLink RX8 49 "AnchoredNotes" "history" "LAnchoredNotes$History;", Cond.fieldLink RX8 10 "AnchoredNotes" "page" "LAnchoredNotes$Page;", Cond.methodLink RX8 57 yX0_keep, Cond.instanceMethod yX0_keep, Cond.selects RX0 yX0_keep yX0_keep, Cond.initialized RX0, Cond.code yX0_keep cX0_keep 3 none, Cond.fieldLink RX0 17 "AnchoredNotes$History" "size" "I", Cond.fieldLink RX0 11 "AnchoredNotes$History" "states" "[LAnchoredNotes$Page;", Cond.classLink RX0 9 RX4, Cond.instantiable RX4 6, Cond.initialized RX4, Cond.methodLink RX0 21 yX4_init, Cond.instanceMethod yX4_init, Cond.code yX4_init cX4_init 2 none, Cond.methodLink RX4 3 objectInit, Cond.instanceMethod objectInit, Cond.code objectInit ⟨#[0xb1]⟩ 1 none, Cond.classLink RX4 9 RX6, Cond.instantiable RX6 2, Cond.initialized RX6, Cond.fieldLink RX4 14 "AnchoredNotes$Page" "settings" "LAnchoredNotes$Row;", Cond.fieldLink RX4 20 "AnchoredNotes$Page" "letters" "LAnchoredNotes$Row;", Cond.fieldLink RX4 23 "AnchoredNotes$Page" "owners" "LAnchoredNotes$Row;"]
def wsX8_note_r2 : List Cond := [Cond.classLink RX4 26 RX2, Cond.fieldLink RX4 28 "AnchoredNotes$Page" "notes" "[LAnchoredNotes$Note;", Cond.classLink RX4 32 RX5, Cond.instantiable RX5 4, Cond.initialized RX5, Cond.fieldLink RX4 35 "AnchoredNotes$Page" "pieces" "LAnchoredNotes$Pieces;", Cond.instantiable RX2 4, Cond.initialized RX2, Cond.methodLink RX4 11 yX6_init, Cond.instanceMethod yX6_init, Cond.code yX6_init cX6_init 2 none, Cond.methodLink RX6 3 objectInit, Cond.arrayClass .int, Cond.fieldLink RX6 9 "AnchoredNotes$Row" "items" "[I", Cond.instanceMethod yX5_init, Cond.code yX5_init cX5_init 1 none, Cond.methodLink RX5 3 objectInit, Cond.methodLink RX4 39 yX6_add, Cond.instanceMethod yX6_add, Cond.selects RX6 yX6_add yX6_add, Cond.code yX6_add cX6_add 2 none, Cond.fieldLink RX6 15 "AnchoredNotes$Row" "length" "I", Cond.instanceMethod yX2_init, Cond.code yX2_init cX2_init 1 none]
def wsX8_note_r3 : List Cond := [Cond.methodLink RX2 3 objectInit, Cond.fieldLink RX2 9 "AnchoredNotes$Note" "target" "I", Cond.classLink RX2 15 RX6, Cond.fieldLink RX2 20 "AnchoredNotes$Note" "words" "LAnchoredNotes$Row;", Cond.fieldLink RX2 24 "AnchoredNotes$Note" "ahead" "LAnchoredNotes$Row;", Cond.fieldLink RX2 27 "AnchoredNotes$Note" "behind" "LAnchoredNotes$Row;", Cond.methodLink RX2 17 yX6_init, Cond.methodLink RX0 22 yX4_copyFrom, Cond.instanceMethod yX4_copyFrom, Cond.selects RX4 yX4_copyFrom yX4_copyFrom, Cond.code yX4_copyFrom cX4_copyFrom 5 none, Cond.fieldLink RX4 47 "AnchoredNotes$Page" "noteCount" "I", Cond.methodLink RX4 43 yX6_copyFrom, Cond.instanceMethod yX6_copyFrom, Cond.selects RX6 yX6_copyFrom yX6_copyFrom, Cond.code yX6_copyFrom cX6_copyFrom 2 none, Cond.methodLink RX6 37 Lib.Math.min.name, Cond.static Lib.Math.min.name, Cond.initialized "java/lang/Math", Cond.code Lib.Math.min.name Lib.Math.min.code 2 (some .int), Cond.methodLink RX6 23 arraycopyName, Cond.native arraycopyName, Cond.static arraycopyName, Cond.initialized "java/lang/System"]
def wsX8_note_r4 : List Cond := [Cond.methodLink RX4 51 yX4_find, Cond.instanceMethod yX4_find, Cond.selects RX4 yX4_find yX4_find, Cond.code yX4_find cX4_find 2 (some (.object "AnchoredNotes$Note")), Cond.methodLink RX4 55 yX2_copyFrom, Cond.instanceMethod yX2_copyFrom, Cond.selects RX2 yX2_copyFrom yX2_copyFrom, Cond.code yX2_copyFrom cX2_copyFrom 2 none, Cond.methodLink RX2 37 yX6_copyFrom, Cond.methodLink RX8 79 yX4_addNote, Cond.instanceMethod yX4_addNote, Cond.selects RX4 yX4_addNote yX4_addNote, Cond.code yX4_addNote cX4_addNote 5 (some .int), Cond.methodLink RX4 94 yX4_passageError, Cond.instanceMethod yX4_passageError, Cond.selects RX4 yX4_passageError yX4_passageError, Cond.code yX4_passageError cX4_passageError 3 (some .int), Cond.methodLink RX4 58 yX6_has, Cond.instanceMethod yX6_has, Cond.selects RX6 yX6_has yX6_has, Cond.code yX6_has cX6_has 2 (some .boolean), Cond.methodLink RX4 105 yX4_anchor, Cond.instanceMethod yX4_anchor, Cond.selects RX4 yX4_anchor yX4_anchor]
def wsX8_note_r5 : List Cond := [Cond.code yX4_anchor cX4_anchor 6 none, Cond.fieldLink RX4 76 "AnchoredNotes$Row" "length" "I", Cond.methodLink RX4 69 yX6_item, Cond.instanceMethod yX6_item, Cond.selects RX6 yX6_item yX6_item, Cond.code yX6_item cX6_item 2 (some .int), Cond.methodLink RX4 108 yX2_remember, Cond.instanceMethod yX2_remember, Cond.selects RX2 yX2_remember yX2_remember, Cond.code yX2_remember cX2_remember 5 none, Cond.methodLink RX2 33 yX6_copyPart, Cond.instanceMethod yX6_copyPart, Cond.selects RX6 yX6_copyPart yX6_copyPart, Cond.code yX6_copyPart cX6_copyPart 6 none, Cond.methodLink RX6 43 yX6_clear, Cond.instanceMethod yX6_clear, Cond.selects RX6 yX6_clear yX6_clear, Cond.code yX6_clear cX6_clear 1 none, Cond.methodLink RX6 19 yX6_has, Cond.methodLink RX6 46 yX6_item, Cond.methodLink RX6 50 yX6_add, Cond.methodLink RX4 72 yX6_replace, Cond.instanceMethod yX6_replace, Cond.selects RX6 yX6_replace yX6_replace]
def wsX8_note_r6 : List Cond := [Cond.code yX6_replace cX6_replace 3 none, Cond.methodLink RX8 65 yX0_confirm, Cond.instanceMethod yX0_confirm, Cond.selects RX0 yX0_confirm yX0_confirm, Cond.code yX0_confirm cX0_confirm 2 (some .int), Cond.methodLink RX0 26 yX0_forgetOldest, Cond.instanceMethod yX0_forgetOldest, Cond.selects RX0 yX0_forgetOldest yX0_forgetOldest, Cond.code yX0_forgetOldest cX0_forgetOldest 3 none]
def wsX8_note : List Cond := .code yX8_note cX8_note 3 (some .int) :: ((wsX8_note_r1 ++ (wsX8_note_r2 ++ (wsX8_note_r3 ++ (wsX8_note_r4 ++ (wsX8_note_r5 ++ wsX8_note_r6))))) ++ wsX80 ++ wsX00 ++ wsX40 ++ wsX60 ++ wsX50 ++ wsX20)
def wsX8_reply_r1 : List Cond := [Cond.fieldLink RX8 49 "AnchoredNotes" "history" "LAnchoredNotes$History;", Cond.fieldLink RX8 10 "AnchoredNotes" "page" "LAnchoredNotes$Page;", Cond.methodLink RX8 57 yX0_keep, Cond.instanceMethod yX0_keep, Cond.selects RX0 yX0_keep yX0_keep, Cond.initialized RX0, Cond.code yX0_keep cX0_keep 3 none, Cond.fieldLink RX0 17 "AnchoredNotes$History" "size" "I", Cond.fieldLink RX0 11 "AnchoredNotes$History" "states" "[LAnchoredNotes$Page;", Cond.classLink RX0 9 RX4, Cond.instantiable RX4 6, Cond.initialized RX4, Cond.methodLink RX0 21 yX4_init, Cond.instanceMethod yX4_init, Cond.code yX4_init cX4_init 2 none, Cond.methodLink RX4 3 objectInit, Cond.instanceMethod objectInit, Cond.code objectInit ⟨#[0xb1]⟩ 1 none, Cond.classLink RX4 9 RX6, Cond.instantiable RX6 2, Cond.initialized RX6, Cond.fieldLink RX4 14 "AnchoredNotes$Page" "settings" "LAnchoredNotes$Row;", Cond.fieldLink RX4 20 "AnchoredNotes$Page" "letters" "LAnchoredNotes$Row;", Cond.fieldLink RX4 23 "AnchoredNotes$Page" "owners" "LAnchoredNotes$Row;"]
def wsX8_reply_r2 : List Cond := [Cond.classLink RX4 26 RX2, Cond.fieldLink RX4 28 "AnchoredNotes$Page" "notes" "[LAnchoredNotes$Note;", Cond.classLink RX4 32 RX5, Cond.instantiable RX5 4, Cond.initialized RX5, Cond.fieldLink RX4 35 "AnchoredNotes$Page" "pieces" "LAnchoredNotes$Pieces;", Cond.instantiable RX2 4, Cond.initialized RX2, Cond.methodLink RX4 11 yX6_init, Cond.instanceMethod yX6_init, Cond.code yX6_init cX6_init 2 none, Cond.methodLink RX6 3 objectInit, Cond.arrayClass .int, Cond.fieldLink RX6 9 "AnchoredNotes$Row" "items" "[I", Cond.instanceMethod yX5_init, Cond.code yX5_init cX5_init 1 none, Cond.methodLink RX5 3 objectInit, Cond.methodLink RX4 39 yX6_add, Cond.instanceMethod yX6_add, Cond.selects RX6 yX6_add yX6_add, Cond.code yX6_add cX6_add 2 none, Cond.fieldLink RX6 15 "AnchoredNotes$Row" "length" "I", Cond.instanceMethod yX2_init, Cond.code yX2_init cX2_init 1 none]
def wsX8_reply_r3 : List Cond := [Cond.methodLink RX2 3 objectInit, Cond.fieldLink RX2 9 "AnchoredNotes$Note" "target" "I", Cond.classLink RX2 15 RX6, Cond.fieldLink RX2 20 "AnchoredNotes$Note" "words" "LAnchoredNotes$Row;", Cond.fieldLink RX2 24 "AnchoredNotes$Note" "ahead" "LAnchoredNotes$Row;", Cond.fieldLink RX2 27 "AnchoredNotes$Note" "behind" "LAnchoredNotes$Row;", Cond.methodLink RX2 17 yX6_init, Cond.methodLink RX0 22 yX4_copyFrom, Cond.instanceMethod yX4_copyFrom, Cond.selects RX4 yX4_copyFrom yX4_copyFrom, Cond.code yX4_copyFrom cX4_copyFrom 5 none, Cond.fieldLink RX4 47 "AnchoredNotes$Page" "noteCount" "I", Cond.methodLink RX4 43 yX6_copyFrom, Cond.instanceMethod yX6_copyFrom, Cond.selects RX6 yX6_copyFrom yX6_copyFrom, Cond.code yX6_copyFrom cX6_copyFrom 2 none, Cond.methodLink RX6 37 Lib.Math.min.name, Cond.static Lib.Math.min.name, Cond.initialized "java/lang/Math", Cond.code Lib.Math.min.name Lib.Math.min.code 2 (some .int), Cond.methodLink RX6 23 arraycopyName, Cond.native arraycopyName, Cond.static arraycopyName, Cond.initialized "java/lang/System"]
def wsX8_reply_r4 : List Cond := [Cond.methodLink RX4 51 yX4_find, Cond.instanceMethod yX4_find, Cond.selects RX4 yX4_find yX4_find, Cond.code yX4_find cX4_find 2 (some (.object "AnchoredNotes$Note")), Cond.methodLink RX4 55 yX2_copyFrom, Cond.instanceMethod yX2_copyFrom, Cond.selects RX2 yX2_copyFrom yX2_copyFrom, Cond.code yX2_copyFrom cX2_copyFrom 2 none, Cond.methodLink RX2 37 yX6_copyFrom, Cond.methodLink RX8 82 yX4_addReply, Cond.instanceMethod yX4_addReply, Cond.selects RX4 yX4_addReply yX4_addReply, Cond.code yX4_addReply cX4_addReply 4 (some .int), Cond.methodLink RX4 112 yX2_becomeReply, Cond.instanceMethod yX2_becomeReply, Cond.selects RX2 yX2_becomeReply yX2_becomeReply, Cond.code yX2_becomeReply cX2_becomeReply 2 none, Cond.methodLink RX2 30 yX6_clear, Cond.instanceMethod yX6_clear, Cond.selects RX6 yX6_clear yX6_clear, Cond.code yX6_clear cX6_clear 1 none, Cond.methodLink RX8 65 yX0_confirm, Cond.instanceMethod yX0_confirm, Cond.selects RX0 yX0_confirm yX0_confirm]
def wsX8_reply_r5 : List Cond := [Cond.code yX0_confirm cX0_confirm 2 (some .int), Cond.methodLink RX0 26 yX0_forgetOldest, Cond.instanceMethod yX0_forgetOldest, Cond.selects RX0 yX0_forgetOldest yX0_forgetOldest, Cond.code yX0_forgetOldest cX0_forgetOldest 3 none]
def wsX8_reply : List Cond := .code yX8_reply cX8_reply 2 (some .int) :: ((wsX8_reply_r1 ++ (wsX8_reply_r2 ++ (wsX8_reply_r3 ++ (wsX8_reply_r4 ++ wsX8_reply_r5)))) ++ wsX80 ++ wsX00 ++ wsX40 ++ wsX60 ++ wsX50 ++ wsX20)
def wsX8_drop_r1 : List Cond := [Cond.fieldLink RX8 49 "AnchoredNotes" "history" "LAnchoredNotes$History;", Cond.fieldLink RX8 10 "AnchoredNotes" "page" "LAnchoredNotes$Page;", Cond.methodLink RX8 57 yX0_keep, Cond.instanceMethod yX0_keep, Cond.selects RX0 yX0_keep yX0_keep, Cond.initialized RX0, Cond.code yX0_keep cX0_keep 3 none, Cond.fieldLink RX0 17 "AnchoredNotes$History" "size" "I", Cond.fieldLink RX0 11 "AnchoredNotes$History" "states" "[LAnchoredNotes$Page;", Cond.classLink RX0 9 RX4, Cond.instantiable RX4 6, Cond.initialized RX4, Cond.methodLink RX0 21 yX4_init, Cond.instanceMethod yX4_init, Cond.code yX4_init cX4_init 2 none, Cond.methodLink RX4 3 objectInit, Cond.instanceMethod objectInit, Cond.code objectInit ⟨#[0xb1]⟩ 1 none, Cond.classLink RX4 9 RX6, Cond.instantiable RX6 2, Cond.initialized RX6, Cond.fieldLink RX4 14 "AnchoredNotes$Page" "settings" "LAnchoredNotes$Row;", Cond.fieldLink RX4 20 "AnchoredNotes$Page" "letters" "LAnchoredNotes$Row;", Cond.fieldLink RX4 23 "AnchoredNotes$Page" "owners" "LAnchoredNotes$Row;"]
def wsX8_drop_r2 : List Cond := [Cond.classLink RX4 26 RX2, Cond.fieldLink RX4 28 "AnchoredNotes$Page" "notes" "[LAnchoredNotes$Note;", Cond.classLink RX4 32 RX5, Cond.instantiable RX5 4, Cond.initialized RX5, Cond.fieldLink RX4 35 "AnchoredNotes$Page" "pieces" "LAnchoredNotes$Pieces;", Cond.instantiable RX2 4, Cond.initialized RX2, Cond.methodLink RX4 11 yX6_init, Cond.instanceMethod yX6_init, Cond.code yX6_init cX6_init 2 none, Cond.methodLink RX6 3 objectInit, Cond.arrayClass .int, Cond.fieldLink RX6 9 "AnchoredNotes$Row" "items" "[I", Cond.instanceMethod yX5_init, Cond.code yX5_init cX5_init 1 none, Cond.methodLink RX5 3 objectInit, Cond.methodLink RX4 39 yX6_add, Cond.instanceMethod yX6_add, Cond.selects RX6 yX6_add yX6_add, Cond.code yX6_add cX6_add 2 none, Cond.fieldLink RX6 15 "AnchoredNotes$Row" "length" "I", Cond.instanceMethod yX2_init, Cond.code yX2_init cX2_init 1 none]
def wsX8_drop_r3 : List Cond := [Cond.methodLink RX2 3 objectInit, Cond.fieldLink RX2 9 "AnchoredNotes$Note" "target" "I", Cond.classLink RX2 15 RX6, Cond.fieldLink RX2 20 "AnchoredNotes$Note" "words" "LAnchoredNotes$Row;", Cond.fieldLink RX2 24 "AnchoredNotes$Note" "ahead" "LAnchoredNotes$Row;", Cond.fieldLink RX2 27 "AnchoredNotes$Note" "behind" "LAnchoredNotes$Row;", Cond.methodLink RX2 17 yX6_init, Cond.methodLink RX0 22 yX4_copyFrom, Cond.instanceMethod yX4_copyFrom, Cond.selects RX4 yX4_copyFrom yX4_copyFrom, Cond.code yX4_copyFrom cX4_copyFrom 5 none, Cond.fieldLink RX4 47 "AnchoredNotes$Page" "noteCount" "I", Cond.methodLink RX4 43 yX6_copyFrom, Cond.instanceMethod yX6_copyFrom, Cond.selects RX6 yX6_copyFrom yX6_copyFrom, Cond.code yX6_copyFrom cX6_copyFrom 2 none, Cond.methodLink RX6 37 Lib.Math.min.name, Cond.static Lib.Math.min.name, Cond.initialized "java/lang/Math", Cond.code Lib.Math.min.name Lib.Math.min.code 2 (some .int), Cond.methodLink RX6 23 arraycopyName, Cond.native arraycopyName, Cond.static arraycopyName, Cond.initialized "java/lang/System"]
def wsX8_drop_r4 : List Cond := [Cond.methodLink RX4 51 yX4_find, Cond.instanceMethod yX4_find, Cond.selects RX4 yX4_find yX4_find, Cond.code yX4_find cX4_find 2 (some (.object "AnchoredNotes$Note")), Cond.methodLink RX4 55 yX2_copyFrom, Cond.instanceMethod yX2_copyFrom, Cond.selects RX2 yX2_copyFrom yX2_copyFrom, Cond.code yX2_copyFrom cX2_copyFrom 2 none, Cond.methodLink RX2 37 yX6_copyFrom, Cond.methodLink RX8 85 yX4_dropFamily, Cond.instanceMethod yX4_dropFamily, Cond.selects RX4 yX4_dropFamily yX4_dropFamily, Cond.code yX4_dropFamily cX4_dropFamily 4 (some .int), Cond.methodLink RX4 115 yX4_family, Cond.instanceMethod yX4_family, Cond.selects RX4 yX4_family yX4_family, Cond.code yX4_family cX4_family 5 (some .int), Cond.fieldLink RX4 125 "AnchoredNotes$Note" "target" "I", Cond.static yX8_isIn, Cond.initialized RX8, Cond.code yX8_isIn cX8_isIn 2 (some .boolean), Cond.methodLink RX4 122 yX4_remove, Cond.instanceMethod yX4_remove, Cond.selects RX4 yX4_remove yX4_remove]
def wsX8_drop_r5 : List Cond := [Cond.code yX4_remove cX4_remove 6 none, Cond.fieldLink RX4 76 "AnchoredNotes$Row" "length" "I", Cond.methodLink RX4 69 yX6_item, Cond.instanceMethod yX6_item, Cond.selects RX6 yX6_item yX6_item, Cond.code yX6_item cX6_item 2 (some .int), Cond.methodLink RX4 72 yX6_replace, Cond.instanceMethod yX6_replace, Cond.selects RX6 yX6_replace yX6_replace, Cond.code yX6_replace cX6_replace 3 none, Cond.methodLink RX6 19 yX6_has, Cond.instanceMethod yX6_has, Cond.selects RX6 yX6_has yX6_has, Cond.code yX6_has cX6_has 2 (some .boolean), Cond.methodLink RX4 89 yJ6_bitCount_0f7a4, Cond.static yJ6_bitCount_0f7a4, Cond.initialized RJ6, Cond.code yJ6_bitCount_0f7a4 cJ6_bitCount_0f7a4 1 (some .int), Cond.constant RJ6 265 (1431655765), Cond.constant RJ6 266 (858993459), Cond.constant RJ6 267 (252645135), Cond.methodLink RX8 65 yX0_confirm, Cond.instanceMethod yX0_confirm, Cond.selects RX0 yX0_confirm yX0_confirm]
def wsX8_drop_r6 : List Cond := [Cond.code yX0_confirm cX0_confirm 2 (some .int), Cond.methodLink RX0 26 yX0_forgetOldest, Cond.instanceMethod yX0_forgetOldest, Cond.selects RX0 yX0_forgetOldest yX0_forgetOldest, Cond.code yX0_forgetOldest cX0_forgetOldest 3 none]
def wsX8_drop : List Cond := .code yX8_drop cX8_drop 2 (some .int) :: ((wsX8_drop_r1 ++ (wsX8_drop_r2 ++ (wsX8_drop_r3 ++ (wsX8_drop_r4 ++ (wsX8_drop_r5 ++ wsX8_drop_r6))))) ++ wsX80 ++ wsX00 ++ wsX40 ++ wsX60 ++ wsX50 ++ wsX20)
def wsX8_reclaim_r1 : List Cond := [Cond.fieldLink RX8 49 "AnchoredNotes" "history" "LAnchoredNotes$History;", Cond.fieldLink RX8 10 "AnchoredNotes" "page" "LAnchoredNotes$Page;", Cond.fieldLink RX8 26 "AnchoredNotes" "search" "LAnchoredNotes$Search;", Cond.methodLink RX8 57 yX0_keep, Cond.instanceMethod yX0_keep, Cond.selects RX0 yX0_keep yX0_keep, Cond.initialized RX0, Cond.code yX0_keep cX0_keep 3 none, Cond.fieldLink RX0 17 "AnchoredNotes$History" "size" "I", Cond.fieldLink RX0 11 "AnchoredNotes$History" "states" "[LAnchoredNotes$Page;", Cond.classLink RX0 9 RX4, Cond.instantiable RX4 6, Cond.initialized RX4, Cond.methodLink RX0 21 yX4_init, Cond.instanceMethod yX4_init, Cond.code yX4_init cX4_init 2 none, Cond.methodLink RX4 3 objectInit, Cond.instanceMethod objectInit, Cond.code objectInit ⟨#[0xb1]⟩ 1 none, Cond.classLink RX4 9 RX6, Cond.instantiable RX6 2, Cond.initialized RX6, Cond.fieldLink RX4 14 "AnchoredNotes$Page" "settings" "LAnchoredNotes$Row;", Cond.fieldLink RX4 20 "AnchoredNotes$Page" "letters" "LAnchoredNotes$Row;"]
def wsX8_reclaim_r2 : List Cond := [Cond.fieldLink RX4 23 "AnchoredNotes$Page" "owners" "LAnchoredNotes$Row;", Cond.classLink RX4 26 RX2, Cond.fieldLink RX4 28 "AnchoredNotes$Page" "notes" "[LAnchoredNotes$Note;", Cond.classLink RX4 32 RX5, Cond.instantiable RX5 4, Cond.initialized RX5, Cond.fieldLink RX4 35 "AnchoredNotes$Page" "pieces" "LAnchoredNotes$Pieces;", Cond.instantiable RX2 4, Cond.initialized RX2, Cond.methodLink RX4 11 yX6_init, Cond.instanceMethod yX6_init, Cond.code yX6_init cX6_init 2 none, Cond.methodLink RX6 3 objectInit, Cond.arrayClass .int, Cond.fieldLink RX6 9 "AnchoredNotes$Row" "items" "[I", Cond.instanceMethod yX5_init, Cond.code yX5_init cX5_init 1 none, Cond.methodLink RX5 3 objectInit, Cond.methodLink RX4 39 yX6_add, Cond.instanceMethod yX6_add, Cond.selects RX6 yX6_add yX6_add, Cond.code yX6_add cX6_add 2 none, Cond.fieldLink RX6 15 "AnchoredNotes$Row" "length" "I", Cond.instanceMethod yX2_init]
def wsX8_reclaim_r3 : List Cond := [Cond.code yX2_init cX2_init 1 none, Cond.methodLink RX2 3 objectInit, Cond.fieldLink RX2 9 "AnchoredNotes$Note" "target" "I", Cond.classLink RX2 15 RX6, Cond.fieldLink RX2 20 "AnchoredNotes$Note" "words" "LAnchoredNotes$Row;", Cond.fieldLink RX2 24 "AnchoredNotes$Note" "ahead" "LAnchoredNotes$Row;", Cond.fieldLink RX2 27 "AnchoredNotes$Note" "behind" "LAnchoredNotes$Row;", Cond.methodLink RX2 17 yX6_init, Cond.methodLink RX0 22 yX4_copyFrom, Cond.instanceMethod yX4_copyFrom, Cond.selects RX4 yX4_copyFrom yX4_copyFrom, Cond.code yX4_copyFrom cX4_copyFrom 5 none, Cond.fieldLink RX4 47 "AnchoredNotes$Page" "noteCount" "I", Cond.methodLink RX4 43 yX6_copyFrom, Cond.instanceMethod yX6_copyFrom, Cond.selects RX6 yX6_copyFrom yX6_copyFrom, Cond.code yX6_copyFrom cX6_copyFrom 2 none, Cond.methodLink RX6 37 Lib.Math.min.name, Cond.static Lib.Math.min.name, Cond.initialized "java/lang/Math", Cond.code Lib.Math.min.name Lib.Math.min.code 2 (some .int), Cond.methodLink RX6 23 arraycopyName, Cond.native arraycopyName, Cond.static arraycopyName]
def wsX8_reclaim_r4 : List Cond := [Cond.initialized "java/lang/System", Cond.methodLink RX4 51 yX4_find, Cond.instanceMethod yX4_find, Cond.selects RX4 yX4_find yX4_find, Cond.code yX4_find cX4_find 2 (some (.object "AnchoredNotes$Note")), Cond.methodLink RX4 55 yX2_copyFrom, Cond.instanceMethod yX2_copyFrom, Cond.selects RX2 yX2_copyFrom yX2_copyFrom, Cond.code yX2_copyFrom cX2_copyFrom 2 none, Cond.methodLink RX2 37 yX6_copyFrom, Cond.methodLink RX8 88 yX4_reclaimNote, Cond.instanceMethod yX4_reclaimNote, Cond.selects RX4 yX4_reclaimNote yX4_reclaimNote, Cond.code yX4_reclaimNote cX4_reclaimNote 4 (some .int), Cond.fieldLink RX4 137 "AnchoredNotes$Search" "places" "I", Cond.fieldLink RX4 140 "AnchoredNotes$Search" "place" "I", Cond.fieldLink RX4 143 "AnchoredNotes$Note" "words" "LAnchoredNotes$Row;", Cond.fieldLink RX4 76 "AnchoredNotes$Row" "length" "I", Cond.methodLink RX4 128 yX4_state, Cond.instanceMethod yX4_state, Cond.selects RX4 yX4_state yX4_state, Cond.code yX4_state cX4_state 3 (some .int), Cond.fieldLink RX4 154 "AnchoredNotes$Pieces" "letters" "I", Cond.methodLink RX4 146 yX2_isReply]
def wsX8_reclaim_r5 : List Cond := [Cond.instanceMethod yX2_isReply, Cond.selects RX2 yX2_isReply yX2_isReply, Cond.code yX2_isReply cX2_isReply 1 (some .boolean), Cond.methodLink RX4 150 yX4_piecesOf, Cond.instanceMethod yX4_piecesOf, Cond.selects RX4 yX4_piecesOf yX4_piecesOf, Cond.code yX4_piecesOf cX4_piecesOf 2 (some (.object "AnchoredNotes$Pieces")), Cond.methodLink RX4 156 yX5_gather, Cond.instanceMethod yX5_gather, Cond.selects RX5 yX5_gather yX5_gather, Cond.code yX5_gather cX5_gather 7 none, Cond.fieldLink RX5 9 "AnchoredNotes$Pieces" "pieces" "I", Cond.fieldLink RX5 15 "AnchoredNotes$Pieces" "letters" "I", Cond.fieldLink RX5 18 "AnchoredNotes$Pieces" "first" "I", Cond.fieldLink RX5 21 "AnchoredNotes$Pieces" "last" "I", Cond.fieldLink RX5 24 "AnchoredNotes$Row" "length" "I", Cond.methodLink RX5 29 yX6_item, Cond.instanceMethod yX6_item, Cond.selects RX6 yX6_item yX6_item, Cond.code yX6_item cX6_item 2 (some .int), Cond.static yX8_isIn, Cond.initialized RX8, Cond.code yX8_isIn cX8_isIn 2 (some .boolean), Cond.methodLink RX4 131 yX7_look]
def wsX8_reclaim_r6 : List Cond := [Cond.instanceMethod yX7_look, Cond.selects RX7 yX7_look yX7_look, Cond.initialized RX7, Cond.code yX7_look cX7_look 6 none, Cond.fieldLink RX7 9 "AnchoredNotes$Search" "place" "I", Cond.fieldLink RX7 15 "AnchoredNotes$Search" "likeness" "I", Cond.fieldLink RX7 18 "AnchoredNotes$Search" "places" "I", Cond.fieldLink RX7 21 "AnchoredNotes$Note" "words" "LAnchoredNotes$Row;", Cond.fieldLink RX7 27 "AnchoredNotes$Row" "length" "I", Cond.fieldLink RX7 36 "AnchoredNotes$Note" "ahead" "LAnchoredNotes$Row;", Cond.fieldLink RX7 39 "AnchoredNotes$Note" "behind" "LAnchoredNotes$Row;", Cond.methodLink RX7 32 yX6_countAlike, Cond.instanceMethod yX6_countAlike, Cond.selects RX6 yX6_countAlike yX6_countAlike, Cond.code yX6_countAlike cX6_countAlike 5 (some .int), Cond.methodLink RX6 46 yX6_item, Cond.methodLink RX4 105 yX4_anchor, Cond.instanceMethod yX4_anchor, Cond.selects RX4 yX4_anchor yX4_anchor, Cond.code yX4_anchor cX4_anchor 6 none, Cond.methodLink RX4 69 yX6_item, Cond.methodLink RX4 108 yX2_remember, Cond.instanceMethod yX2_remember, Cond.selects RX2 yX2_remember yX2_remember]
def wsX8_reclaim_r7 : List Cond := [Cond.code yX2_remember cX2_remember 5 none, Cond.methodLink RX2 33 yX6_copyPart, Cond.instanceMethod yX6_copyPart, Cond.selects RX6 yX6_copyPart yX6_copyPart, Cond.code yX6_copyPart cX6_copyPart 6 none, Cond.methodLink RX6 43 yX6_clear, Cond.instanceMethod yX6_clear, Cond.selects RX6 yX6_clear yX6_clear, Cond.code yX6_clear cX6_clear 1 none, Cond.methodLink RX6 19 yX6_has, Cond.instanceMethod yX6_has, Cond.selects RX6 yX6_has yX6_has, Cond.code yX6_has cX6_has 2 (some .boolean), Cond.methodLink RX6 50 yX6_add, Cond.methodLink RX4 72 yX6_replace, Cond.instanceMethod yX6_replace, Cond.selects RX6 yX6_replace yX6_replace, Cond.code yX6_replace cX6_replace 3 none, Cond.methodLink RX8 65 yX0_confirm, Cond.instanceMethod yX0_confirm, Cond.selects RX0 yX0_confirm yX0_confirm, Cond.code yX0_confirm cX0_confirm 2 (some .int), Cond.methodLink RX0 26 yX0_forgetOldest, Cond.instanceMethod yX0_forgetOldest]
def wsX8_reclaim_r8 : List Cond := [Cond.selects RX0 yX0_forgetOldest yX0_forgetOldest, Cond.code yX0_forgetOldest cX0_forgetOldest 3 none]
def wsX8_reclaim : List Cond := .code yX8_reclaim cX8_reclaim 2 (some .int) :: ((wsX8_reclaim_r1 ++ (wsX8_reclaim_r2 ++ (wsX8_reclaim_r3 ++ (wsX8_reclaim_r4 ++ (wsX8_reclaim_r5 ++ (wsX8_reclaim_r6 ++ (wsX8_reclaim_r7 ++ wsX8_reclaim_r8))))))) ++ wsX80 ++ wsX00 ++ wsX40 ++ wsX60 ++ wsX50 ++ wsX20 ++ wsX70)
def wsX8_letter : List Cond := .code yX8_letter cX8_letter 2 (some .int) :: ([.fieldLink RX8 10 "AnchoredNotes" "page" "LAnchoredNotes$Page;", .fieldLink RX8 92 "AnchoredNotes$Page" "letters" "LAnchoredNotes$Row;", .methodLink RX8 95 yX6_item, .instanceMethod yX6_item, .selects RX6 yX6_item yX6_item, .initialized RX6, .code yX6_item cX6_item 2 (some .int), .fieldLink RX6 15 "AnchoredNotes$Row" "length" "I", .fieldLink RX6 9 "AnchoredNotes$Row" "items" "[I"] ++ wsX80 ++ wsX40 ++ wsX60)
def wsX8_of_r1 : List Cond := [Cond.fieldLink RX8 10 "AnchoredNotes" "page" "LAnchoredNotes$Page;", Cond.fieldLink RX8 112 "AnchoredNotes$Pieces" "first" "I", Cond.fieldLink RX8 118 "AnchoredNotes$Pieces" "last" "I", Cond.fieldLink RX8 127 "AnchoredNotes$Note" "words" "LAnchoredNotes$Row;", Cond.fieldLink RX8 130 "AnchoredNotes$Row" "length" "I", Cond.fieldLink RX8 133 "AnchoredNotes$Pieces" "letters" "I", Cond.fieldLink RX8 135 "AnchoredNotes$Pieces" "pieces" "I", Cond.fieldLink RX8 138 "AnchoredNotes$Note" "target" "I", Cond.methodLink RX8 98 yX4_find, Cond.instanceMethod yX4_find, Cond.selects RX4 yX4_find yX4_find, Cond.initialized RX4, Cond.code yX4_find cX4_find 2 (some (.object "AnchoredNotes$Note")), Cond.fieldLink RX4 47 "AnchoredNotes$Page" "noteCount" "I", Cond.fieldLink RX4 28 "AnchoredNotes$Page" "notes" "[LAnchoredNotes$Note;", Cond.methodLink RX8 102 yX4_state, Cond.instanceMethod yX4_state, Cond.selects RX4 yX4_state yX4_state, Cond.code yX4_state cX4_state 3 (some .int), Cond.fieldLink RX4 154 "AnchoredNotes$Pieces" "letters" "I", Cond.methodLink RX4 51 yX4_find, Cond.methodLink RX4 146 yX2_isReply, Cond.instanceMethod yX2_isReply, Cond.selects RX2 yX2_isReply yX2_isReply]
def wsX8_of_r2 : List Cond := [Cond.initialized RX2, Cond.code yX2_isReply cX2_isReply 1 (some .boolean), Cond.fieldLink RX2 9 "AnchoredNotes$Note" "target" "I", Cond.methodLink RX4 150 yX4_piecesOf, Cond.instanceMethod yX4_piecesOf, Cond.selects RX4 yX4_piecesOf yX4_piecesOf, Cond.code yX4_piecesOf cX4_piecesOf 2 (some (.object "AnchoredNotes$Pieces")), Cond.fieldLink RX4 35 "AnchoredNotes$Page" "pieces" "LAnchoredNotes$Pieces;", Cond.fieldLink RX4 23 "AnchoredNotes$Page" "owners" "LAnchoredNotes$Row;", Cond.methodLink RX4 156 yX5_gather, Cond.instanceMethod yX5_gather, Cond.selects RX5 yX5_gather yX5_gather, Cond.initialized RX5, Cond.code yX5_gather cX5_gather 7 none, Cond.fieldLink RX5 9 "AnchoredNotes$Pieces" "pieces" "I", Cond.fieldLink RX5 15 "AnchoredNotes$Pieces" "letters" "I", Cond.fieldLink RX5 18 "AnchoredNotes$Pieces" "first" "I", Cond.fieldLink RX5 21 "AnchoredNotes$Pieces" "last" "I", Cond.fieldLink RX5 24 "AnchoredNotes$Row" "length" "I", Cond.methodLink RX5 29 yX6_item, Cond.instanceMethod yX6_item, Cond.selects RX6 yX6_item yX6_item, Cond.initialized RX6, Cond.code yX6_item cX6_item 2 (some .int)]
def wsX8_of_r3 : List Cond := [Cond.fieldLink RX6 15 "AnchoredNotes$Row" "length" "I", Cond.fieldLink RX6 9 "AnchoredNotes$Row" "items" "[I", Cond.static yX8_isIn, Cond.initialized RX8, Cond.code yX8_isIn cX8_isIn 2 (some .boolean), Cond.methodLink RX8 105 yX4_root, Cond.instanceMethod yX4_root, Cond.selects RX4 yX4_root yX4_root, Cond.code yX4_root cX4_root 5 (some .int), Cond.fieldLink RX4 125 "AnchoredNotes$Note" "target" "I", Cond.methodLink RX4 160 yX4_depth, Cond.instanceMethod yX4_depth, Cond.selects RX4 yX4_depth yX4_depth, Cond.code yX4_depth cX4_depth 4 (some .int), Cond.methodLink RX8 108 yX4_piecesOf, Cond.methodLink RX8 121 yX2_isReply, Cond.methodLink RX8 141 yX4_family, Cond.instanceMethod yX4_family, Cond.selects RX4 yX4_family yX4_family, Cond.code yX4_family cX4_family 5 (some .int), Cond.methodLink RX8 144 yJ6_bitCount_0f7a4, Cond.static yJ6_bitCount_0f7a4, Cond.initialized RJ6, Cond.code yJ6_bitCount_0f7a4 cJ6_bitCount_0f7a4 1 (some .int)]
def wsX8_of_r4 : List Cond := [Cond.constant RJ6 265 (1431655765), Cond.constant RJ6 266 (858993459), Cond.constant RJ6 267 (252645135), Cond.methodLink RX8 149 yX4_depth]
def wsX8_of : List Cond := .code yX8_of cX8_of 4 (some .int) :: ((wsX8_of_r1 ++ (wsX8_of_r2 ++ (wsX8_of_r3 ++ wsX8_of_r4))) ++ wsX80 ++ wsX50 ++ wsX20 ++ wsX60 ++ wsX40)
def wsX8_word : List Cond := .code yX8_word cX8_word 4 (some .int) :: ([.fieldLink RX8 10 "AnchoredNotes" "page" "LAnchoredNotes$Page;", .fieldLink RX8 127 "AnchoredNotes$Note" "words" "LAnchoredNotes$Row;", .methodLink RX8 98 yX4_find, .instanceMethod yX4_find, .selects RX4 yX4_find yX4_find, .initialized RX4, .code yX4_find cX4_find 2 (some (.object "AnchoredNotes$Note")), .fieldLink RX4 47 "AnchoredNotes$Page" "noteCount" "I", .fieldLink RX4 28 "AnchoredNotes$Page" "notes" "[LAnchoredNotes$Note;", .methodLink RX8 121 yX2_isReply, .instanceMethod yX2_isReply, .selects RX2 yX2_isReply yX2_isReply, .initialized RX2, .code yX2_isReply cX2_isReply 1 (some .boolean), .fieldLink RX2 9 "AnchoredNotes$Note" "target" "I", .methodLink RX8 95 yX6_item, .instanceMethod yX6_item, .selects RX6 yX6_item yX6_item, .initialized RX6, .code yX6_item cX6_item 2 (some .int), .fieldLink RX6 15 "AnchoredNotes$Row" "length" "I", .fieldLink RX6 9 "AnchoredNotes$Row" "items" "[I"] ++ wsX80 ++ wsX20 ++ wsX40 ++ wsX60)
def wsX8_at : List Cond := .code yX8_at cX8_at 2 (some .int) :: ([.fieldLink RX8 10 "AnchoredNotes" "page" "LAnchoredNotes$Page;", .fieldLink RX8 152 "AnchoredNotes$Page" "owners" "LAnchoredNotes$Row;", .methodLink RX8 95 yX6_item, .instanceMethod yX6_item, .selects RX6 yX6_item yX6_item, .initialized RX6, .code yX6_item cX6_item 2 (some .int), .fieldLink RX6 15 "AnchoredNotes$Row" "length" "I", .fieldLink RX6 9 "AnchoredNotes$Row" "items" "[I"] ++ wsX80 ++ wsX40 ++ wsX60)
def wsX8_printed_r1 : List Cond := [Cond.fieldLink RX8 10 "AnchoredNotes" "page" "LAnchoredNotes$Page;", Cond.fieldLink RX8 19 "AnchoredNotes" "margin" "LAnchoredNotes$Margin;", Cond.fieldLink RX8 155 "AnchoredNotes$Page" "settings" "LAnchoredNotes$Row;", Cond.fieldLink RX8 162 "AnchoredNotes$Margin" "lines" "LAnchoredNotes$Row;", Cond.fieldLink RX8 165 "AnchoredNotes$Margin" "leaders" "LAnchoredNotes$Row;", Cond.methodLink RX8 98 yX4_find, Cond.instanceMethod yX4_find, Cond.selects RX4 yX4_find yX4_find, Cond.initialized RX4, Cond.code yX4_find cX4_find 2 (some (.object "AnchoredNotes$Note")), Cond.fieldLink RX4 47 "AnchoredNotes$Page" "noteCount" "I", Cond.fieldLink RX4 28 "AnchoredNotes$Page" "notes" "[LAnchoredNotes$Note;", Cond.methodLink RX8 95 yX6_item, Cond.instanceMethod yX6_item, Cond.selects RX6 yX6_item yX6_item, Cond.initialized RX6, Cond.code yX6_item cX6_item 2 (some .int), Cond.fieldLink RX6 15 "AnchoredNotes$Row" "length" "I", Cond.fieldLink RX6 9 "AnchoredNotes$Row" "items" "[I", Cond.methodLink RX8 158 yX1_layOut, Cond.instanceMethod yX1_layOut, Cond.selects RX1 yX1_layOut yX1_layOut, Cond.initialized RX1, Cond.code yX1_layOut cX1_layOut 5 none]
def wsX8_printed_r2 : List Cond := [Cond.fieldLink RX1 32 "AnchoredNotes$Page" "noteCount" "I", Cond.fieldLink RX1 23 "AnchoredNotes$Margin" "firsts" "LAnchoredNotes$Row;", Cond.fieldLink RX1 42 "AnchoredNotes$Pieces" "first" "I", Cond.fieldLink RX1 14 "AnchoredNotes$Margin" "lines" "LAnchoredNotes$Row;", Cond.fieldLink RX1 20 "AnchoredNotes$Margin" "leaders" "LAnchoredNotes$Row;", Cond.fieldLink RX1 50 "AnchoredNotes$Page" "letters" "LAnchoredNotes$Row;", Cond.fieldLink RX1 53 "AnchoredNotes$Row" "length" "I", Cond.methodLink RX1 29 yX1_empty, Cond.instanceMethod yX1_empty, Cond.selects RX1 yX1_empty yX1_empty, Cond.code yX1_empty cX1_empty 2 none, Cond.fieldLink RX1 26 "AnchoredNotes$Margin" "used" "LAnchoredNotes$Row;", Cond.fieldLink RX1 70 "AnchoredNotes$Margin" "lastLine" "I", Cond.fieldLink RX1 73 "AnchoredNotes$Margin" "allLeaders" "I", Cond.fieldLink RX1 76 "AnchoredNotes$Margin" "longestLeader" "I", Cond.methodLink RX1 67 yX6_clear, Cond.instanceMethod yX6_clear, Cond.selects RX6 yX6_clear yX6_clear, Cond.code yX6_clear cX6_clear 1 none, Cond.methodLink RX1 47 yX6_add, Cond.instanceMethod yX6_add, Cond.selects RX6 yX6_add yX6_add, Cond.code yX6_add cX6_add 2 none, Cond.methodLink RX1 38 yX4_piecesOf]
def wsX8_printed_r3 : List Cond := [Cond.instanceMethod yX4_piecesOf, Cond.selects RX4 yX4_piecesOf yX4_piecesOf, Cond.code yX4_piecesOf cX4_piecesOf 2 (some (.object "AnchoredNotes$Pieces")), Cond.fieldLink RX4 35 "AnchoredNotes$Page" "pieces" "LAnchoredNotes$Pieces;", Cond.fieldLink RX4 23 "AnchoredNotes$Page" "owners" "LAnchoredNotes$Row;", Cond.methodLink RX4 156 yX5_gather, Cond.instanceMethod yX5_gather, Cond.selects RX5 yX5_gather yX5_gather, Cond.initialized RX5, Cond.code yX5_gather cX5_gather 7 none, Cond.fieldLink RX5 9 "AnchoredNotes$Pieces" "pieces" "I", Cond.fieldLink RX5 15 "AnchoredNotes$Pieces" "letters" "I", Cond.fieldLink RX5 18 "AnchoredNotes$Pieces" "first" "I", Cond.fieldLink RX5 21 "AnchoredNotes$Pieces" "last" "I", Cond.fieldLink RX5 24 "AnchoredNotes$Row" "length" "I", Cond.methodLink RX5 29 yX6_item, Cond.static yX8_isIn, Cond.initialized RX8, Cond.code yX8_isIn cX8_isIn 2 (some .boolean), Cond.methodLink RX1 56 yX6_item, Cond.methodLink RX1 60 yX4_lineOf, Cond.instanceMethod yX4_lineOf, Cond.selects RX4 yX4_lineOf yX4_lineOf, Cond.code yX4_lineOf cX4_lineOf 3 (some .int)]
def wsX8_printed_r4 : List Cond := [Cond.fieldLink RX4 14 "AnchoredNotes$Page" "settings" "LAnchoredNotes$Row;", Cond.methodLink RX4 69 yX6_item, Cond.methodLink RX1 63 yX1_print, Cond.instanceMethod yX1_print, Cond.selects RX1 yX1_print yX1_print, Cond.code yX1_print cX1_print 5 none, Cond.methodLink RX1 83 Lib.Math.max.name, Cond.static Lib.Math.max.name, Cond.initialized "java/lang/Math", Cond.code Lib.Math.max.name Lib.Math.max.code 2 (some .int), Cond.methodLink RX1 79 yX6_replace, Cond.instanceMethod yX6_replace, Cond.selects RX6 yX6_replace yX6_replace, Cond.code yX6_replace cX6_replace 3 none, Cond.methodLink RX6 19 yX6_has, Cond.instanceMethod yX6_has, Cond.selects RX6 yX6_has yX6_has, Cond.code yX6_has cX6_has 2 (some .boolean)]
def wsX8_printed : List Cond := .code yX8_printed cX8_printed 3 (some .int) :: ((wsX8_printed_r1 ++ (wsX8_printed_r2 ++ (wsX8_printed_r3 ++ wsX8_printed_r4))) ++ wsX80 ++ wsX40 ++ wsX10 ++ wsX60 ++ wsX50)
def wsX8_count_r1 : List Cond := [Cond.fieldLink RX8 10 "AnchoredNotes" "page" "LAnchoredNotes$Page;", Cond.fieldLink RX8 92 "AnchoredNotes$Page" "letters" "LAnchoredNotes$Row;", Cond.fieldLink RX8 130 "AnchoredNotes$Row" "length" "I", Cond.fieldLink RX8 168 "AnchoredNotes$Page" "noteCount" "I", Cond.fieldLink RX8 19 "AnchoredNotes" "margin" "LAnchoredNotes$Margin;", Cond.fieldLink RX8 155 "AnchoredNotes$Page" "settings" "LAnchoredNotes$Row;", Cond.fieldLink RX8 181 "AnchoredNotes$Margin" "lastLine" "I", Cond.fieldLink RX8 184 "AnchoredNotes$Margin" "allLeaders" "I", Cond.fieldLink RX8 35 "AnchoredNotes" "pad" "LAnchoredNotes$Row;", Cond.fieldLink RX8 49 "AnchoredNotes" "history" "LAnchoredNotes$History;", Cond.fieldLink RX8 187 "AnchoredNotes$History" "size" "I", Cond.methodLink RX8 171 yX4_countState, Cond.instanceMethod yX4_countState, Cond.selects RX4 yX4_countState yX4_countState, Cond.initialized RX4, Cond.code yX4_countState cX4_countState 4 (some .int), Cond.fieldLink RX4 47 "AnchoredNotes$Page" "noteCount" "I", Cond.methodLink RX4 128 yX4_state, Cond.instanceMethod yX4_state, Cond.selects RX4 yX4_state yX4_state, Cond.code yX4_state cX4_state 3 (some .int), Cond.fieldLink RX4 154 "AnchoredNotes$Pieces" "letters" "I", Cond.methodLink RX4 51 yX4_find, Cond.instanceMethod yX4_find]
def wsX8_count_r2 : List Cond := [Cond.selects RX4 yX4_find yX4_find, Cond.code yX4_find cX4_find 2 (some (.object "AnchoredNotes$Note")), Cond.fieldLink RX4 28 "AnchoredNotes$Page" "notes" "[LAnchoredNotes$Note;", Cond.methodLink RX4 146 yX2_isReply, Cond.instanceMethod yX2_isReply, Cond.selects RX2 yX2_isReply yX2_isReply, Cond.initialized RX2, Cond.code yX2_isReply cX2_isReply 1 (some .boolean), Cond.fieldLink RX2 9 "AnchoredNotes$Note" "target" "I", Cond.methodLink RX4 150 yX4_piecesOf, Cond.instanceMethod yX4_piecesOf, Cond.selects RX4 yX4_piecesOf yX4_piecesOf, Cond.code yX4_piecesOf cX4_piecesOf 2 (some (.object "AnchoredNotes$Pieces")), Cond.fieldLink RX4 35 "AnchoredNotes$Page" "pieces" "LAnchoredNotes$Pieces;", Cond.fieldLink RX4 23 "AnchoredNotes$Page" "owners" "LAnchoredNotes$Row;", Cond.methodLink RX4 156 yX5_gather, Cond.instanceMethod yX5_gather, Cond.selects RX5 yX5_gather yX5_gather, Cond.initialized RX5, Cond.code yX5_gather cX5_gather 7 none, Cond.fieldLink RX5 9 "AnchoredNotes$Pieces" "pieces" "I", Cond.fieldLink RX5 15 "AnchoredNotes$Pieces" "letters" "I", Cond.fieldLink RX5 18 "AnchoredNotes$Pieces" "first" "I", Cond.fieldLink RX5 21 "AnchoredNotes$Pieces" "last" "I"]
def wsX8_count_r3 : List Cond := [Cond.fieldLink RX5 24 "AnchoredNotes$Row" "length" "I", Cond.methodLink RX5 29 yX6_item, Cond.instanceMethod yX6_item, Cond.selects RX6 yX6_item yX6_item, Cond.initialized RX6, Cond.code yX6_item cX6_item 2 (some .int), Cond.fieldLink RX6 15 "AnchoredNotes$Row" "length" "I", Cond.fieldLink RX6 9 "AnchoredNotes$Row" "items" "[I", Cond.static yX8_isIn, Cond.initialized RX8, Cond.code yX8_isIn cX8_isIn 2 (some .boolean), Cond.methodLink RX8 174 yX4_countParted, Cond.instanceMethod yX4_countParted, Cond.selects RX4 yX4_countParted yX4_countParted, Cond.code yX4_countParted cX4_countParted 3 (some .int), Cond.fieldLink RX4 163 "AnchoredNotes$Pieces" "pieces" "I", Cond.methodLink RX8 178 yX4_countLines, Cond.instanceMethod yX4_countLines, Cond.selects RX4 yX4_countLines yX4_countLines, Cond.code yX4_countLines cX4_countLines 1 (some .int), Cond.fieldLink RX4 20 "AnchoredNotes$Page" "letters" "LAnchoredNotes$Row;", Cond.fieldLink RX4 76 "AnchoredNotes$Row" "length" "I", Cond.methodLink RX4 165 yX4_lineOf, Cond.instanceMethod yX4_lineOf]
def wsX8_count_r4 : List Cond := [Cond.selects RX4 yX4_lineOf yX4_lineOf, Cond.code yX4_lineOf cX4_lineOf 3 (some .int), Cond.fieldLink RX4 14 "AnchoredNotes$Page" "settings" "LAnchoredNotes$Row;", Cond.methodLink RX4 69 yX6_item, Cond.methodLink RX8 95 yX6_item, Cond.methodLink RX8 158 yX1_layOut, Cond.instanceMethod yX1_layOut, Cond.selects RX1 yX1_layOut yX1_layOut, Cond.initialized RX1, Cond.code yX1_layOut cX1_layOut 5 none, Cond.fieldLink RX1 32 "AnchoredNotes$Page" "noteCount" "I", Cond.fieldLink RX1 23 "AnchoredNotes$Margin" "firsts" "LAnchoredNotes$Row;", Cond.fieldLink RX1 42 "AnchoredNotes$Pieces" "first" "I", Cond.fieldLink RX1 14 "AnchoredNotes$Margin" "lines" "LAnchoredNotes$Row;", Cond.fieldLink RX1 20 "AnchoredNotes$Margin" "leaders" "LAnchoredNotes$Row;", Cond.fieldLink RX1 50 "AnchoredNotes$Page" "letters" "LAnchoredNotes$Row;", Cond.fieldLink RX1 53 "AnchoredNotes$Row" "length" "I", Cond.methodLink RX1 29 yX1_empty, Cond.instanceMethod yX1_empty, Cond.selects RX1 yX1_empty yX1_empty, Cond.code yX1_empty cX1_empty 2 none, Cond.fieldLink RX1 26 "AnchoredNotes$Margin" "used" "LAnchoredNotes$Row;", Cond.fieldLink RX1 70 "AnchoredNotes$Margin" "lastLine" "I", Cond.fieldLink RX1 73 "AnchoredNotes$Margin" "allLeaders" "I"]
def wsX8_count_r5 : List Cond := [Cond.fieldLink RX1 76 "AnchoredNotes$Margin" "longestLeader" "I", Cond.methodLink RX1 67 yX6_clear, Cond.instanceMethod yX6_clear, Cond.selects RX6 yX6_clear yX6_clear, Cond.code yX6_clear cX6_clear 1 none, Cond.methodLink RX1 47 yX6_add, Cond.instanceMethod yX6_add, Cond.selects RX6 yX6_add yX6_add, Cond.code yX6_add cX6_add 2 none, Cond.methodLink RX1 38 yX4_piecesOf, Cond.methodLink RX1 56 yX6_item, Cond.methodLink RX1 60 yX4_lineOf, Cond.methodLink RX1 63 yX1_print, Cond.instanceMethod yX1_print, Cond.selects RX1 yX1_print yX1_print, Cond.code yX1_print cX1_print 5 none, Cond.methodLink RX1 83 Lib.Math.max.name, Cond.static Lib.Math.max.name, Cond.initialized "java/lang/Math", Cond.code Lib.Math.max.name Lib.Math.max.code 2 (some .int), Cond.methodLink RX1 79 yX6_replace, Cond.instanceMethod yX6_replace, Cond.selects RX6 yX6_replace yX6_replace, Cond.code yX6_replace cX6_replace 3 none]
def wsX8_count_r6 : List Cond := [Cond.methodLink RX6 19 yX6_has, Cond.instanceMethod yX6_has, Cond.selects RX6 yX6_has yX6_has, Cond.code yX6_has cX6_has 2 (some .boolean)]
def wsX8_count : List Cond := .code yX8_count cX8_count 2 (some .int) :: ((wsX8_count_r1 ++ (wsX8_count_r2 ++ (wsX8_count_r3 ++ (wsX8_count_r4 ++ (wsX8_count_r5 ++ wsX8_count_r6))))) ++ wsX80 ++ wsX40 ++ wsX60 ++ wsX10 ++ wsX00 ++ wsX50 ++ wsX20)
def wsX8_orphansIf : List Cond := .code yX8_orphansIf cX8_orphansIf 3 (some .int) :: ([.fieldLink RX8 10 "AnchoredNotes" "page" "LAnchoredNotes$Page;", .methodLink RX8 190 yX4_orphanedBy, .instanceMethod yX4_orphanedBy, .selects RX4 yX4_orphanedBy yX4_orphanedBy, .initialized RX4, .code yX4_orphanedBy cX4_orphanedBy 7 (some .int), .fieldLink RX4 23 "AnchoredNotes$Page" "owners" "LAnchoredNotes$Row;", .fieldLink RX4 76 "AnchoredNotes$Row" "length" "I", .methodLink RX4 94 yX4_passageError, .instanceMethod yX4_passageError, .selects RX4 yX4_passageError yX4_passageError, .code yX4_passageError cX4_passageError 3 (some .int), .fieldLink RX4 20 "AnchoredNotes$Page" "letters" "LAnchoredNotes$Row;", .methodLink RX4 58 yX6_has, .instanceMethod yX6_has, .selects RX6 yX6_has yX6_has, .initialized RX6, .code yX6_has cX6_has 2 (some .boolean), .fieldLink RX6 15 "AnchoredNotes$Row" "length" "I", .fieldLink RX6 9 "AnchoredNotes$Row" "items" "[I", .methodLink RX4 69 yX6_item, .instanceMethod yX6_item, .selects RX6 yX6_item yX6_item, .code yX6_item cX6_item 2 (some .int)] ++ wsX80 ++ wsX40 ++ wsX60)
def wsX8_could_r1 : List Cond := [Cond.fieldLink RX8 10 "AnchoredNotes" "page" "LAnchoredNotes$Page;", Cond.fieldLink RX8 26 "AnchoredNotes" "search" "LAnchoredNotes$Search;", Cond.fieldLink RX8 92 "AnchoredNotes$Page" "letters" "LAnchoredNotes$Row;", Cond.fieldLink RX8 197 "AnchoredNotes$Search" "places" "I", Cond.fieldLink RX8 200 "AnchoredNotes$Search" "place" "I", Cond.fieldLink RX8 203 "AnchoredNotes$Search" "likeness" "I", Cond.methodLink RX8 98 yX4_find, Cond.instanceMethod yX4_find, Cond.selects RX4 yX4_find yX4_find, Cond.initialized RX4, Cond.code yX4_find cX4_find 2 (some (.object "AnchoredNotes$Note")), Cond.fieldLink RX4 47 "AnchoredNotes$Page" "noteCount" "I", Cond.fieldLink RX4 28 "AnchoredNotes$Page" "notes" "[LAnchoredNotes$Note;", Cond.methodLink RX8 102 yX4_state, Cond.instanceMethod yX4_state, Cond.selects RX4 yX4_state yX4_state, Cond.code yX4_state cX4_state 3 (some .int), Cond.fieldLink RX4 154 "AnchoredNotes$Pieces" "letters" "I", Cond.methodLink RX4 51 yX4_find, Cond.methodLink RX4 146 yX2_isReply, Cond.instanceMethod yX2_isReply, Cond.selects RX2 yX2_isReply yX2_isReply, Cond.initialized RX2, Cond.code yX2_isReply cX2_isReply 1 (some .boolean)]
def wsX8_could_r2 : List Cond := [Cond.fieldLink RX2 9 "AnchoredNotes$Note" "target" "I", Cond.methodLink RX4 150 yX4_piecesOf, Cond.instanceMethod yX4_piecesOf, Cond.selects RX4 yX4_piecesOf yX4_piecesOf, Cond.code yX4_piecesOf cX4_piecesOf 2 (some (.object "AnchoredNotes$Pieces")), Cond.fieldLink RX4 35 "AnchoredNotes$Page" "pieces" "LAnchoredNotes$Pieces;", Cond.fieldLink RX4 23 "AnchoredNotes$Page" "owners" "LAnchoredNotes$Row;", Cond.methodLink RX4 156 yX5_gather, Cond.instanceMethod yX5_gather, Cond.selects RX5 yX5_gather yX5_gather, Cond.initialized RX5, Cond.code yX5_gather cX5_gather 7 none, Cond.fieldLink RX5 9 "AnchoredNotes$Pieces" "pieces" "I", Cond.fieldLink RX5 15 "AnchoredNotes$Pieces" "letters" "I", Cond.fieldLink RX5 18 "AnchoredNotes$Pieces" "first" "I", Cond.fieldLink RX5 21 "AnchoredNotes$Pieces" "last" "I", Cond.fieldLink RX5 24 "AnchoredNotes$Row" "length" "I", Cond.methodLink RX5 29 yX6_item, Cond.instanceMethod yX6_item, Cond.selects RX6 yX6_item yX6_item, Cond.initialized RX6, Cond.code yX6_item cX6_item 2 (some .int), Cond.fieldLink RX6 15 "AnchoredNotes$Row" "length" "I", Cond.fieldLink RX6 9 "AnchoredNotes$Row" "items" "[I"]
def wsX8_could_r3 : List Cond := [Cond.static yX8_isIn, Cond.initialized RX8, Cond.code yX8_isIn cX8_isIn 2 (some .boolean), Cond.methodLink RX8 193 yX7_look, Cond.instanceMethod yX7_look, Cond.selects RX7 yX7_look yX7_look, Cond.initialized RX7, Cond.code yX7_look cX7_look 6 none, Cond.fieldLink RX7 9 "AnchoredNotes$Search" "place" "I", Cond.fieldLink RX7 15 "AnchoredNotes$Search" "likeness" "I", Cond.fieldLink RX7 18 "AnchoredNotes$Search" "places" "I", Cond.fieldLink RX7 21 "AnchoredNotes$Note" "words" "LAnchoredNotes$Row;", Cond.fieldLink RX7 27 "AnchoredNotes$Row" "length" "I", Cond.fieldLink RX7 36 "AnchoredNotes$Note" "ahead" "LAnchoredNotes$Row;", Cond.fieldLink RX7 39 "AnchoredNotes$Note" "behind" "LAnchoredNotes$Row;", Cond.methodLink RX7 32 yX6_countAlike, Cond.instanceMethod yX6_countAlike, Cond.selects RX6 yX6_countAlike yX6_countAlike, Cond.code yX6_countAlike cX6_countAlike 5 (some .int), Cond.methodLink RX6 46 yX6_item]
def wsX8_could : List Cond := .code yX8_could cX8_could 4 (some .int) :: ((wsX8_could_r1 ++ (wsX8_could_r2 ++ wsX8_could_r3)) ++ wsX80 ++ wsX40 ++ wsX70 ++ wsX50 ++ wsX20 ++ wsX60)
def wsX8_leastRoom_r1 : List Cond := [Cond.fieldLink RX8 19 "AnchoredNotes" "margin" "LAnchoredNotes$Margin;", Cond.fieldLink RX8 10 "AnchoredNotes" "page" "LAnchoredNotes$Page;", Cond.fieldLink RX8 206 "AnchoredNotes$Margin" "longestLeader" "I", Cond.methodLink RX8 158 yX1_layOut, Cond.instanceMethod yX1_layOut, Cond.selects RX1 yX1_layOut yX1_layOut, Cond.initialized RX1, Cond.code yX1_layOut cX1_layOut 5 none, Cond.fieldLink RX1 32 "AnchoredNotes$Page" "noteCount" "I", Cond.fieldLink RX1 23 "AnchoredNotes$Margin" "firsts" "LAnchoredNotes$Row;", Cond.fieldLink RX1 42 "AnchoredNotes$Pieces" "first" "I", Cond.fieldLink RX1 14 "AnchoredNotes$Margin" "lines" "LAnchoredNotes$Row;", Cond.fieldLink RX1 20 "AnchoredNotes$Margin" "leaders" "LAnchoredNotes$Row;", Cond.fieldLink RX1 50 "AnchoredNotes$Page" "letters" "LAnchoredNotes$Row;", Cond.fieldLink RX1 53 "AnchoredNotes$Row" "length" "I", Cond.methodLink RX1 29 yX1_empty, Cond.instanceMethod yX1_empty, Cond.selects RX1 yX1_empty yX1_empty, Cond.code yX1_empty cX1_empty 2 none, Cond.fieldLink RX1 26 "AnchoredNotes$Margin" "used" "LAnchoredNotes$Row;", Cond.fieldLink RX1 70 "AnchoredNotes$Margin" "lastLine" "I", Cond.fieldLink RX1 73 "AnchoredNotes$Margin" "allLeaders" "I", Cond.fieldLink RX1 76 "AnchoredNotes$Margin" "longestLeader" "I", Cond.methodLink RX1 67 yX6_clear]
def wsX8_leastRoom_r2 : List Cond := [Cond.instanceMethod yX6_clear, Cond.selects RX6 yX6_clear yX6_clear, Cond.initialized RX6, Cond.code yX6_clear cX6_clear 1 none, Cond.fieldLink RX6 15 "AnchoredNotes$Row" "length" "I", Cond.methodLink RX1 47 yX6_add, Cond.instanceMethod yX6_add, Cond.selects RX6 yX6_add yX6_add, Cond.code yX6_add cX6_add 2 none, Cond.fieldLink RX6 9 "AnchoredNotes$Row" "items" "[I", Cond.methodLink RX1 38 yX4_piecesOf, Cond.instanceMethod yX4_piecesOf, Cond.selects RX4 yX4_piecesOf yX4_piecesOf, Cond.initialized RX4, Cond.code yX4_piecesOf cX4_piecesOf 2 (some (.object "AnchoredNotes$Pieces")), Cond.fieldLink RX4 35 "AnchoredNotes$Page" "pieces" "LAnchoredNotes$Pieces;", Cond.fieldLink RX4 23 "AnchoredNotes$Page" "owners" "LAnchoredNotes$Row;", Cond.methodLink RX4 156 yX5_gather, Cond.instanceMethod yX5_gather, Cond.selects RX5 yX5_gather yX5_gather, Cond.initialized RX5, Cond.code yX5_gather cX5_gather 7 none, Cond.fieldLink RX5 9 "AnchoredNotes$Pieces" "pieces" "I", Cond.fieldLink RX5 15 "AnchoredNotes$Pieces" "letters" "I"]
def wsX8_leastRoom_r3 : List Cond := [Cond.fieldLink RX5 18 "AnchoredNotes$Pieces" "first" "I", Cond.fieldLink RX5 21 "AnchoredNotes$Pieces" "last" "I", Cond.fieldLink RX5 24 "AnchoredNotes$Row" "length" "I", Cond.methodLink RX5 29 yX6_item, Cond.instanceMethod yX6_item, Cond.selects RX6 yX6_item yX6_item, Cond.code yX6_item cX6_item 2 (some .int), Cond.static yX8_isIn, Cond.initialized RX8, Cond.code yX8_isIn cX8_isIn 2 (some .boolean), Cond.methodLink RX1 56 yX6_item, Cond.methodLink RX1 60 yX4_lineOf, Cond.instanceMethod yX4_lineOf, Cond.selects RX4 yX4_lineOf yX4_lineOf, Cond.code yX4_lineOf cX4_lineOf 3 (some .int), Cond.fieldLink RX4 14 "AnchoredNotes$Page" "settings" "LAnchoredNotes$Row;", Cond.methodLink RX4 69 yX6_item, Cond.methodLink RX1 63 yX1_print, Cond.instanceMethod yX1_print, Cond.selects RX1 yX1_print yX1_print, Cond.code yX1_print cX1_print 5 none, Cond.methodLink RX1 83 Lib.Math.max.name, Cond.static Lib.Math.max.name, Cond.initialized "java/lang/Math"]
def wsX8_leastRoom_r4 : List Cond := [Cond.code Lib.Math.max.name Lib.Math.max.code 2 (some .int), Cond.methodLink RX1 79 yX6_replace, Cond.instanceMethod yX6_replace, Cond.selects RX6 yX6_replace yX6_replace, Cond.code yX6_replace cX6_replace 3 none, Cond.methodLink RX6 19 yX6_has, Cond.instanceMethod yX6_has, Cond.selects RX6 yX6_has yX6_has, Cond.code yX6_has cX6_has 2 (some .boolean)]
def wsX8_leastRoom : List Cond := .code yX8_leastRoom cX8_leastRoom 3 (some .int) :: ((wsX8_leastRoom_r1 ++ (wsX8_leastRoom_r2 ++ (wsX8_leastRoom_r3 ++ wsX8_leastRoom_r4))) ++ wsX80 ++ wsX10 ++ wsX40 ++ wsX50 ++ wsX60)
def wsX8_countCharacters : List Cond := .code yX8_countCharacters cX8_countCharacters 6 (some .int) :: ([.constantLong RX8 213 (255)])
def wsX8_put : List Cond := .code yX8_put cX8_put 5 (some .int) :: ([.fieldLink RX8 35 "AnchoredNotes" "pad" "LAnchoredNotes$Row;", .fieldLink RX8 130 "AnchoredNotes$Row" "length" "I", .constantLong RX8 213 (255), .methodLink RX8 209 yX8_countCharacters, .static yX8_countCharacters, .initialized RX8, .code yX8_countCharacters cX8_countCharacters 6 (some .int), .methodLink RX8 215 yX6_add, .instanceMethod yX6_add, .selects RX6 yX6_add yX6_add, .initialized RX6, .code yX6_add cX6_add 2 none, .fieldLink RX6 15 "AnchoredNotes$Row" "length" "I", .fieldLink RX6 9 "AnchoredNotes$Row" "items" "[I"] ++ wsX80 ++ wsX60)
def wsX8_wipe : List Cond := .code yX8_wipe cX8_wipe 2 (some .int) :: ([.fieldLink RX8 35 "AnchoredNotes" "pad" "LAnchoredNotes$Row;", .fieldLink RX8 130 "AnchoredNotes$Row" "length" "I", .methodLink RX8 218 yX6_clear, .instanceMethod yX6_clear, .selects RX6 yX6_clear yX6_clear, .initialized RX6, .code yX6_clear cX6_clear 1 none, .fieldLink RX6 15 "AnchoredNotes$Row" "length" "I"] ++ wsX80 ++ wsX60)
def wsX8_fault_r1 : List Cond := [Cond.fieldLink RX8 42 "AnchoredNotes" "reader" "LAnchoredNotes$OrderReader;", Cond.fieldLink RX8 35 "AnchoredNotes" "pad" "LAnchoredNotes$Row;", Cond.methodLink RX8 221 yX3_findFault, Cond.instanceMethod yX3_findFault, Cond.selects RX3 yX3_findFault yX3_findFault, Cond.initialized RX3, Cond.code yX3_findFault cX3_findFault 3 (some .int), Cond.fieldLink RX3 20 "AnchoredNotes$OrderReader" "next" "I", Cond.fieldLink RX3 31 "AnchoredNotes$Row" "length" "I", Cond.methodLink RX3 24 yX3_start, Cond.instanceMethod yX3_start, Cond.selects RX3 yX3_start yX3_start, Cond.code yX3_start cX3_start 1 none, Cond.methodLink RX3 27 yX3_readOrder, Cond.instanceMethod yX3_readOrder, Cond.selects RX3 yX3_readOrder yX3_readOrder, Cond.code yX3_readOrder cX3_readOrder 2 (some .boolean), Cond.fieldLink RX3 42 "AnchoredNotes$OrderReader" "kind" "I", Cond.fieldLink RX3 14 "AnchoredNotes$OrderReader" "numbers" "LAnchoredNotes$Row;", Cond.methodLink RX3 38 yX6_item, Cond.instanceMethod yX6_item, Cond.selects RX6 yX6_item yX6_item, Cond.initialized RX6, Cond.code yX6_item cX6_item 2 (some .int)]
def wsX8_fault_r2 : List Cond := [Cond.fieldLink RX6 15 "AnchoredNotes$Row" "length" "I", Cond.fieldLink RX6 9 "AnchoredNotes$Row" "items" "[I", Cond.methodLink RX3 45 yX6_clear, Cond.instanceMethod yX6_clear, Cond.selects RX6 yX6_clear yX6_clear, Cond.code yX6_clear cX6_clear 1 none, Cond.methodLink RX3 48 yX3_readNumber, Cond.instanceMethod yX3_readNumber, Cond.selects RX3 yX3_readNumber yX3_readNumber, Cond.code yX3_readNumber cX3_readNumber 3 (some .boolean), Cond.methodLink RX3 54 yX3_isDigit, Cond.static yX3_isDigit, Cond.code yX3_isDigit cX3_isDigit 1 (some .boolean), Cond.methodLink RX3 58 yX6_add, Cond.instanceMethod yX6_add, Cond.selects RX6 yX6_add yX6_add, Cond.code yX6_add cX6_add 2 none, Cond.methodLink RX3 34 yX3_skip, Cond.instanceMethod yX3_skip, Cond.selects RX3 yX3_skip yX3_skip, Cond.code yX3_skip cX3_skip 3 (some .boolean), Cond.methodLink RX3 51 yX3_readLetters, Cond.instanceMethod yX3_readLetters, Cond.selects RX3 yX3_readLetters yX3_readLetters]
def wsX8_fault_r3 : List Cond := [Cond.code yX3_readLetters cX3_readLetters 2 (some .boolean), Cond.fieldLink RX3 61 "AnchoredNotes$OrderReader" "lettersFrom" "I", Cond.methodLink RX3 64 yX3_isLetter, Cond.static yX3_isLetter, Cond.code yX3_isLetter cX3_isLetter 1 (some .boolean)]
def wsX8_fault : List Cond := .code yX8_fault cX8_fault 1 (some .int) :: ((wsX8_fault_r1 ++ (wsX8_fault_r2 ++ wsX8_fault_r3)) ++ wsX80 ++ wsX30 ++ wsX60)
def wsX8_writeRow_r1 : List Cond := [Cond.fieldLink RX8 42 "AnchoredNotes" "reader" "LAnchoredNotes$OrderReader;", Cond.fieldLink RX8 255 "AnchoredNotes$OrderReader" "lettersFrom" "I", Cond.fieldLink RX8 258 "AnchoredNotes$OrderReader" "next" "I", Cond.fieldLink RX8 10 "AnchoredNotes" "page" "LAnchoredNotes$Page;", Cond.fieldLink RX8 35 "AnchoredNotes" "pad" "LAnchoredNotes$Row;", Cond.methodLink RX8 95 yX6_item, Cond.instanceMethod yX6_item, Cond.selects RX6 yX6_item yX6_item, Cond.initialized RX6, Cond.code yX6_item cX6_item 2 (some .int), Cond.fieldLink RX6 15 "AnchoredNotes$Row" "length" "I", Cond.fieldLink RX6 9 "AnchoredNotes$Row" "items" "[I", Cond.methodLink RX8 69 yX4_writeLetter, Cond.instanceMethod yX4_writeLetter, Cond.selects RX4 yX4_writeLetter yX4_writeLetter, Cond.initialized RX4, Cond.code yX4_writeLetter cX4_writeLetter 3 (some .int), Cond.fieldLink RX4 20 "AnchoredNotes$Page" "letters" "LAnchoredNotes$Row;", Cond.fieldLink RX4 76 "AnchoredNotes$Row" "length" "I", Cond.fieldLink RX4 23 "AnchoredNotes$Page" "owners" "LAnchoredNotes$Row;", Cond.methodLink RX4 79 yX6_insert, Cond.instanceMethod yX6_insert, Cond.selects RX6 yX6_insert yX6_insert, Cond.code yX6_insert cX6_insert 3 none]
def wsX8_writeRow_r2 : List Cond := [Cond.methodLink RX6 23 arraycopyName, Cond.native arraycopyName, Cond.static arraycopyName, Cond.initialized "java/lang/System"]
def wsX8_writeRow : List Cond := .code yX8_writeRow cX8_writeRow 4 (some .int) :: ((wsX8_writeRow_r1 ++ wsX8_writeRow_r2) ++ wsX80 ++ wsX30 ++ wsX60 ++ wsX40)
def wsX8_obey_r1 : List Cond := [Cond.fieldLink RX8 42 "AnchoredNotes" "reader" "LAnchoredNotes$OrderReader;", Cond.fieldLink RX8 246 "AnchoredNotes$OrderReader" "numbers" "LAnchoredNotes$Row;", Cond.fieldLink RX8 249 "AnchoredNotes$OrderReader" "kind" "I", Cond.fieldLink RX8 10 "AnchoredNotes" "page" "LAnchoredNotes$Page;", Cond.fieldLink RX8 26 "AnchoredNotes" "search" "LAnchoredNotes$Search;", Cond.methodLink RX8 95 yX6_item, Cond.instanceMethod yX6_item, Cond.selects RX6 yX6_item yX6_item, Cond.initialized RX6, Cond.code yX6_item cX6_item 2 (some .int), Cond.fieldLink RX6 15 "AnchoredNotes$Row" "length" "I", Cond.fieldLink RX6 9 "AnchoredNotes$Row" "items" "[I", Cond.methodLink RX8 252 yX8_writeRow, Cond.instanceMethod yX8_writeRow, Cond.selects RX8 yX8_writeRow yX8_writeRow, Cond.initialized RX8, Cond.code yX8_writeRow cX8_writeRow 4 (some .int), Cond.fieldLink RX8 255 "AnchoredNotes$OrderReader" "lettersFrom" "I", Cond.fieldLink RX8 258 "AnchoredNotes$OrderReader" "next" "I", Cond.fieldLink RX8 35 "AnchoredNotes" "pad" "LAnchoredNotes$Row;", Cond.methodLink RX8 69 yX4_writeLetter, Cond.instanceMethod yX4_writeLetter, Cond.selects RX4 yX4_writeLetter yX4_writeLetter, Cond.initialized RX4]
def wsX8_obey_r2 : List Cond := [Cond.code yX4_writeLetter cX4_writeLetter 3 (some .int), Cond.fieldLink RX4 20 "AnchoredNotes$Page" "letters" "LAnchoredNotes$Row;", Cond.fieldLink RX4 76 "AnchoredNotes$Row" "length" "I", Cond.fieldLink RX4 23 "AnchoredNotes$Page" "owners" "LAnchoredNotes$Row;", Cond.methodLink RX4 79 yX6_insert, Cond.instanceMethod yX6_insert, Cond.selects RX6 yX6_insert yX6_insert, Cond.code yX6_insert cX6_insert 3 none, Cond.methodLink RX6 23 arraycopyName, Cond.native arraycopyName, Cond.static arraycopyName, Cond.initialized "java/lang/System", Cond.methodLink RX8 72 yX4_eraseLetters, Cond.instanceMethod yX4_eraseLetters, Cond.selects RX4 yX4_eraseLetters yX4_eraseLetters, Cond.code yX4_eraseLetters cX4_eraseLetters 4 (some .int), Cond.methodLink RX4 82 yX4_orphanedBy, Cond.instanceMethod yX4_orphanedBy, Cond.selects RX4 yX4_orphanedBy yX4_orphanedBy, Cond.code yX4_orphanedBy cX4_orphanedBy 7 (some .int), Cond.methodLink RX4 94 yX4_passageError, Cond.instanceMethod yX4_passageError, Cond.selects RX4 yX4_passageError yX4_passageError, Cond.code yX4_passageError cX4_passageError 3 (some .int)]
def wsX8_obey_r3 : List Cond := [Cond.methodLink RX4 58 yX6_has, Cond.instanceMethod yX6_has, Cond.selects RX6 yX6_has yX6_has, Cond.code yX6_has cX6_has 2 (some .boolean), Cond.methodLink RX4 69 yX6_item, Cond.methodLink RX4 86 yX6_cut, Cond.instanceMethod yX6_cut, Cond.selects RX6 yX6_cut yX6_cut, Cond.code yX6_cut cX6_cut 3 none, Cond.methodLink RX6 19 yX6_has, Cond.methodLink RX4 89 yJ6_bitCount_0f7a4, Cond.static yJ6_bitCount_0f7a4, Cond.initialized RJ6, Cond.code yJ6_bitCount_0f7a4 cJ6_bitCount_0f7a4 1 (some .int), Cond.constant RJ6 265 (1431655765), Cond.constant RJ6 266 (858993459), Cond.constant RJ6 267 (252645135), Cond.methodLink RX8 75 yX4_moveLetters, Cond.instanceMethod yX4_moveLetters, Cond.selects RX4 yX4_moveLetters yX4_moveLetters, Cond.code yX4_moveLetters cX4_moveLetters 6 (some .int), Cond.methodLink RX4 97 yX6_shift, Cond.instanceMethod yX6_shift, Cond.selects RX6 yX6_shift yX6_shift]
def wsX8_obey_r4 : List Cond := [Cond.code yX6_shift cX6_shift 4 none, Cond.methodLink RX6 29 yX6_exchange, Cond.instanceMethod yX6_exchange, Cond.selects RX6 yX6_exchange yX6_exchange, Cond.code yX6_exchange cX6_exchange 4 none, Cond.methodLink RX6 33 yX6_turn, Cond.instanceMethod yX6_turn, Cond.selects RX6 yX6_turn yX6_turn, Cond.code yX6_turn cX6_turn 6 none, Cond.methodLink RX4 101 yX4_countParted, Cond.instanceMethod yX4_countParted, Cond.selects RX4 yX4_countParted yX4_countParted, Cond.code yX4_countParted cX4_countParted 3 (some .int), Cond.fieldLink RX4 47 "AnchoredNotes$Page" "noteCount" "I", Cond.fieldLink RX4 163 "AnchoredNotes$Pieces" "pieces" "I", Cond.methodLink RX4 150 yX4_piecesOf, Cond.instanceMethod yX4_piecesOf, Cond.selects RX4 yX4_piecesOf yX4_piecesOf, Cond.code yX4_piecesOf cX4_piecesOf 2 (some (.object "AnchoredNotes$Pieces")), Cond.fieldLink RX4 35 "AnchoredNotes$Page" "pieces" "LAnchoredNotes$Pieces;", Cond.methodLink RX4 156 yX5_gather, Cond.instanceMethod yX5_gather, Cond.selects RX5 yX5_gather yX5_gather, Cond.initialized RX5]
def wsX8_obey_r5 : List Cond := [Cond.code yX5_gather cX5_gather 7 none, Cond.fieldLink RX5 9 "AnchoredNotes$Pieces" "pieces" "I", Cond.fieldLink RX5 15 "AnchoredNotes$Pieces" "letters" "I", Cond.fieldLink RX5 18 "AnchoredNotes$Pieces" "first" "I", Cond.fieldLink RX5 21 "AnchoredNotes$Pieces" "last" "I", Cond.fieldLink RX5 24 "AnchoredNotes$Row" "length" "I", Cond.methodLink RX5 29 yX6_item, Cond.static yX8_isIn, Cond.code yX8_isIn cX8_isIn 2 (some .boolean), Cond.methodLink RX8 79 yX4_addNote, Cond.instanceMethod yX4_addNote, Cond.selects RX4 yX4_addNote yX4_addNote, Cond.code yX4_addNote cX4_addNote 5 (some .int), Cond.methodLink RX4 105 yX4_anchor, Cond.instanceMethod yX4_anchor, Cond.selects RX4 yX4_anchor yX4_anchor, Cond.code yX4_anchor cX4_anchor 6 none, Cond.fieldLink RX4 14 "AnchoredNotes$Page" "settings" "LAnchoredNotes$Row;", Cond.methodLink RX4 51 yX4_find, Cond.instanceMethod yX4_find, Cond.selects RX4 yX4_find yX4_find, Cond.code yX4_find cX4_find 2 (some (.object "AnchoredNotes$Note")), Cond.fieldLink RX4 28 "AnchoredNotes$Page" "notes" "[LAnchoredNotes$Note;", Cond.methodLink RX4 108 yX2_remember]
def wsX8_obey_r6 : List Cond := [Cond.instanceMethod yX2_remember, Cond.selects RX2 yX2_remember yX2_remember, Cond.initialized RX2, Cond.code yX2_remember cX2_remember 5 none, Cond.fieldLink RX2 9 "AnchoredNotes$Note" "target" "I", Cond.fieldLink RX2 20 "AnchoredNotes$Note" "words" "LAnchoredNotes$Row;", Cond.fieldLink RX2 24 "AnchoredNotes$Note" "ahead" "LAnchoredNotes$Row;", Cond.fieldLink RX2 27 "AnchoredNotes$Note" "behind" "LAnchoredNotes$Row;", Cond.methodLink RX2 33 yX6_copyPart, Cond.instanceMethod yX6_copyPart, Cond.selects RX6 yX6_copyPart yX6_copyPart, Cond.code yX6_copyPart cX6_copyPart 6 none, Cond.methodLink RX6 43 yX6_clear, Cond.instanceMethod yX6_clear, Cond.selects RX6 yX6_clear yX6_clear, Cond.code yX6_clear cX6_clear 1 none, Cond.methodLink RX6 46 yX6_item, Cond.methodLink RX6 50 yX6_add, Cond.instanceMethod yX6_add, Cond.selects RX6 yX6_add yX6_add, Cond.code yX6_add cX6_add 2 none, Cond.methodLink RX4 72 yX6_replace, Cond.instanceMethod yX6_replace, Cond.selects RX6 yX6_replace yX6_replace]
def wsX8_obey_r7 : List Cond := [Cond.code yX6_replace cX6_replace 3 none, Cond.methodLink RX8 82 yX4_addReply, Cond.instanceMethod yX4_addReply, Cond.selects RX4 yX4_addReply yX4_addReply, Cond.code yX4_addReply cX4_addReply 4 (some .int), Cond.methodLink RX4 112 yX2_becomeReply, Cond.instanceMethod yX2_becomeReply, Cond.selects RX2 yX2_becomeReply yX2_becomeReply, Cond.code yX2_becomeReply cX2_becomeReply 2 none, Cond.methodLink RX2 30 yX6_clear, Cond.methodLink RX8 85 yX4_dropFamily, Cond.instanceMethod yX4_dropFamily, Cond.selects RX4 yX4_dropFamily yX4_dropFamily, Cond.code yX4_dropFamily cX4_dropFamily 4 (some .int), Cond.methodLink RX4 115 yX4_family, Cond.instanceMethod yX4_family, Cond.selects RX4 yX4_family yX4_family, Cond.code yX4_family cX4_family 5 (some .int), Cond.fieldLink RX4 125 "AnchoredNotes$Note" "target" "I", Cond.methodLink RX4 122 yX4_remove, Cond.instanceMethod yX4_remove, Cond.selects RX4 yX4_remove yX4_remove, Cond.code yX4_remove cX4_remove 6 none, Cond.methodLink RX8 88 yX4_reclaimNote]
def wsX8_obey_r8 : List Cond := [Cond.instanceMethod yX4_reclaimNote, Cond.selects RX4 yX4_reclaimNote yX4_reclaimNote, Cond.code yX4_reclaimNote cX4_reclaimNote 4 (some .int), Cond.fieldLink RX4 137 "AnchoredNotes$Search" "places" "I", Cond.fieldLink RX4 140 "AnchoredNotes$Search" "place" "I", Cond.fieldLink RX4 143 "AnchoredNotes$Note" "words" "LAnchoredNotes$Row;", Cond.methodLink RX4 128 yX4_state, Cond.instanceMethod yX4_state, Cond.selects RX4 yX4_state yX4_state, Cond.code yX4_state cX4_state 3 (some .int), Cond.fieldLink RX4 154 "AnchoredNotes$Pieces" "letters" "I", Cond.methodLink RX4 146 yX2_isReply, Cond.instanceMethod yX2_isReply, Cond.selects RX2 yX2_isReply yX2_isReply, Cond.code yX2_isReply cX2_isReply 1 (some .boolean), Cond.methodLink RX4 131 yX7_look, Cond.instanceMethod yX7_look, Cond.selects RX7 yX7_look yX7_look, Cond.initialized RX7, Cond.code yX7_look cX7_look 6 none, Cond.fieldLink RX7 9 "AnchoredNotes$Search" "place" "I", Cond.fieldLink RX7 15 "AnchoredNotes$Search" "likeness" "I", Cond.fieldLink RX7 18 "AnchoredNotes$Search" "places" "I", Cond.fieldLink RX7 21 "AnchoredNotes$Note" "words" "LAnchoredNotes$Row;"]
def wsX8_obey_r9 : List Cond := [Cond.fieldLink RX7 27 "AnchoredNotes$Row" "length" "I", Cond.fieldLink RX7 36 "AnchoredNotes$Note" "ahead" "LAnchoredNotes$Row;", Cond.fieldLink RX7 39 "AnchoredNotes$Note" "behind" "LAnchoredNotes$Row;", Cond.methodLink RX7 32 yX6_countAlike, Cond.instanceMethod yX6_countAlike, Cond.selects RX6 yX6_countAlike yX6_countAlike, Cond.code yX6_countAlike cX6_countAlike 5 (some .int)]
def wsX8_obey : List Cond := .code yX8_obey cX8_obey 3 (some .int) :: ((wsX8_obey_r1 ++ (wsX8_obey_r2 ++ (wsX8_obey_r3 ++ (wsX8_obey_r4 ++ (wsX8_obey_r5 ++ (wsX8_obey_r6 ++ (wsX8_obey_r7 ++ (wsX8_obey_r8 ++ wsX8_obey_r9)))))))) ++ wsX80 ++ wsX30 ++ wsX60 ++ wsX40 ++ wsX50 ++ wsX20 ++ wsX70)
def wsX8_carryOut_r1 : List Cond := [Cond.fieldLink RX8 42 "AnchoredNotes" "reader" "LAnchoredNotes$OrderReader;", Cond.fieldLink RX8 35 "AnchoredNotes" "pad" "LAnchoredNotes$Row;", Cond.fieldLink RX8 49 "AnchoredNotes" "history" "LAnchoredNotes$History;", Cond.fieldLink RX8 10 "AnchoredNotes" "page" "LAnchoredNotes$Page;", Cond.methodLink RX8 221 yX3_findFault, Cond.instanceMethod yX3_findFault, Cond.selects RX3 yX3_findFault yX3_findFault, Cond.initialized RX3, Cond.code yX3_findFault cX3_findFault 3 (some .int), Cond.fieldLink RX3 20 "AnchoredNotes$OrderReader" "next" "I", Cond.fieldLink RX3 31 "AnchoredNotes$Row" "length" "I", Cond.methodLink RX3 24 yX3_start, Cond.instanceMethod yX3_start, Cond.selects RX3 yX3_start yX3_start, Cond.code yX3_start cX3_start 1 none, Cond.methodLink RX3 27 yX3_readOrder, Cond.instanceMethod yX3_readOrder, Cond.selects RX3 yX3_readOrder yX3_readOrder, Cond.code yX3_readOrder cX3_readOrder 2 (some .boolean), Cond.fieldLink RX3 42 "AnchoredNotes$OrderReader" "kind" "I", Cond.fieldLink RX3 14 "AnchoredNotes$OrderReader" "numbers" "LAnchoredNotes$Row;", Cond.methodLink RX3 38 yX6_item, Cond.instanceMethod yX6_item, Cond.selects RX6 yX6_item yX6_item]
def wsX8_carryOut_r2 : List Cond := [Cond.initialized RX6, Cond.code yX6_item cX6_item 2 (some .int), Cond.fieldLink RX6 15 "AnchoredNotes$Row" "length" "I", Cond.fieldLink RX6 9 "AnchoredNotes$Row" "items" "[I", Cond.methodLink RX3 45 yX6_clear, Cond.instanceMethod yX6_clear, Cond.selects RX6 yX6_clear yX6_clear, Cond.code yX6_clear cX6_clear 1 none, Cond.methodLink RX3 48 yX3_readNumber, Cond.instanceMethod yX3_readNumber, Cond.selects RX3 yX3_readNumber yX3_readNumber, Cond.code yX3_readNumber cX3_readNumber 3 (some .boolean), Cond.methodLink RX3 54 yX3_isDigit, Cond.static yX3_isDigit, Cond.code yX3_isDigit cX3_isDigit 1 (some .boolean), Cond.methodLink RX3 58 yX6_add, Cond.instanceMethod yX6_add, Cond.selects RX6 yX6_add yX6_add, Cond.code yX6_add cX6_add 2 none, Cond.methodLink RX3 34 yX3_skip, Cond.instanceMethod yX3_skip, Cond.selects RX3 yX3_skip yX3_skip, Cond.code yX3_skip cX3_skip 3 (some .boolean), Cond.methodLink RX3 51 yX3_readLetters]
def wsX8_carryOut_r3 : List Cond := [Cond.instanceMethod yX3_readLetters, Cond.selects RX3 yX3_readLetters yX3_readLetters, Cond.code yX3_readLetters cX3_readLetters 2 (some .boolean), Cond.fieldLink RX3 61 "AnchoredNotes$OrderReader" "lettersFrom" "I", Cond.methodLink RX3 64 yX3_isLetter, Cond.static yX3_isLetter, Cond.code yX3_isLetter cX3_isLetter 1 (some .boolean), Cond.methodLink RX8 57 yX0_keep, Cond.instanceMethod yX0_keep, Cond.selects RX0 yX0_keep yX0_keep, Cond.initialized RX0, Cond.code yX0_keep cX0_keep 3 none, Cond.fieldLink RX0 17 "AnchoredNotes$History" "size" "I", Cond.fieldLink RX0 11 "AnchoredNotes$History" "states" "[LAnchoredNotes$Page;", Cond.classLink RX0 9 RX4, Cond.instantiable RX4 6, Cond.initialized RX4, Cond.methodLink RX0 21 yX4_init, Cond.instanceMethod yX4_init, Cond.code yX4_init cX4_init 2 none, Cond.methodLink RX4 3 objectInit, Cond.instanceMethod objectInit, Cond.code objectInit ⟨#[0xb1]⟩ 1 none, Cond.classLink RX4 9 RX6]
def wsX8_carryOut_r4 : List Cond := [Cond.instantiable RX6 2, Cond.fieldLink RX4 14 "AnchoredNotes$Page" "settings" "LAnchoredNotes$Row;", Cond.fieldLink RX4 20 "AnchoredNotes$Page" "letters" "LAnchoredNotes$Row;", Cond.fieldLink RX4 23 "AnchoredNotes$Page" "owners" "LAnchoredNotes$Row;", Cond.classLink RX4 26 RX2, Cond.fieldLink RX4 28 "AnchoredNotes$Page" "notes" "[LAnchoredNotes$Note;", Cond.classLink RX4 32 RX5, Cond.instantiable RX5 4, Cond.initialized RX5, Cond.fieldLink RX4 35 "AnchoredNotes$Page" "pieces" "LAnchoredNotes$Pieces;", Cond.instantiable RX2 4, Cond.initialized RX2, Cond.methodLink RX4 11 yX6_init, Cond.instanceMethod yX6_init, Cond.code yX6_init cX6_init 2 none, Cond.methodLink RX6 3 objectInit, Cond.arrayClass .int, Cond.instanceMethod yX5_init, Cond.code yX5_init cX5_init 1 none, Cond.methodLink RX5 3 objectInit, Cond.methodLink RX4 39 yX6_add, Cond.instanceMethod yX2_init, Cond.code yX2_init cX2_init 1 none, Cond.methodLink RX2 3 objectInit]
def wsX8_carryOut_r5 : List Cond := [Cond.fieldLink RX2 9 "AnchoredNotes$Note" "target" "I", Cond.classLink RX2 15 RX6, Cond.fieldLink RX2 20 "AnchoredNotes$Note" "words" "LAnchoredNotes$Row;", Cond.fieldLink RX2 24 "AnchoredNotes$Note" "ahead" "LAnchoredNotes$Row;", Cond.fieldLink RX2 27 "AnchoredNotes$Note" "behind" "LAnchoredNotes$Row;", Cond.methodLink RX2 17 yX6_init, Cond.methodLink RX0 22 yX4_copyFrom, Cond.instanceMethod yX4_copyFrom, Cond.selects RX4 yX4_copyFrom yX4_copyFrom, Cond.code yX4_copyFrom cX4_copyFrom 5 none, Cond.fieldLink RX4 47 "AnchoredNotes$Page" "noteCount" "I", Cond.methodLink RX4 43 yX6_copyFrom, Cond.instanceMethod yX6_copyFrom, Cond.selects RX6 yX6_copyFrom yX6_copyFrom, Cond.code yX6_copyFrom cX6_copyFrom 2 none, Cond.methodLink RX6 37 Lib.Math.min.name, Cond.static Lib.Math.min.name, Cond.initialized "java/lang/Math", Cond.code Lib.Math.min.name Lib.Math.min.code 2 (some .int), Cond.methodLink RX6 23 arraycopyName, Cond.native arraycopyName, Cond.static arraycopyName, Cond.initialized "java/lang/System", Cond.methodLink RX4 51 yX4_find]
def wsX8_carryOut_r6 : List Cond := [Cond.instanceMethod yX4_find, Cond.selects RX4 yX4_find yX4_find, Cond.code yX4_find cX4_find 2 (some (.object "AnchoredNotes$Note")), Cond.methodLink RX4 55 yX2_copyFrom, Cond.instanceMethod yX2_copyFrom, Cond.selects RX2 yX2_copyFrom yX2_copyFrom, Cond.code yX2_copyFrom cX2_copyFrom 2 none, Cond.methodLink RX2 37 yX6_copyFrom, Cond.methodLink RX8 225 yX3_start, Cond.methodLink RX8 228 yX3_readOrder, Cond.methodLink RX8 232 yX8_obey, Cond.instanceMethod yX8_obey, Cond.selects RX8 yX8_obey yX8_obey, Cond.initialized RX8, Cond.code yX8_obey cX8_obey 3 (some .int), Cond.fieldLink RX8 246 "AnchoredNotes$OrderReader" "numbers" "LAnchoredNotes$Row;", Cond.fieldLink RX8 249 "AnchoredNotes$OrderReader" "kind" "I", Cond.fieldLink RX8 26 "AnchoredNotes" "search" "LAnchoredNotes$Search;", Cond.methodLink RX8 95 yX6_item, Cond.methodLink RX8 252 yX8_writeRow, Cond.instanceMethod yX8_writeRow, Cond.selects RX8 yX8_writeRow yX8_writeRow, Cond.code yX8_writeRow cX8_writeRow 4 (some .int), Cond.fieldLink RX8 255 "AnchoredNotes$OrderReader" "lettersFrom" "I"]
def wsX8_carryOut_r7 : List Cond := [Cond.fieldLink RX8 258 "AnchoredNotes$OrderReader" "next" "I", Cond.methodLink RX8 69 yX4_writeLetter, Cond.instanceMethod yX4_writeLetter, Cond.selects RX4 yX4_writeLetter yX4_writeLetter, Cond.code yX4_writeLetter cX4_writeLetter 3 (some .int), Cond.fieldLink RX4 76 "AnchoredNotes$Row" "length" "I", Cond.methodLink RX4 79 yX6_insert, Cond.instanceMethod yX6_insert, Cond.selects RX6 yX6_insert yX6_insert, Cond.code yX6_insert cX6_insert 3 none, Cond.methodLink RX8 72 yX4_eraseLetters, Cond.instanceMethod yX4_eraseLetters, Cond.selects RX4 yX4_eraseLetters yX4_eraseLetters, Cond.code yX4_eraseLetters cX4_eraseLetters 4 (some .int), Cond.methodLink RX4 82 yX4_orphanedBy, Cond.instanceMethod yX4_orphanedBy, Cond.selects RX4 yX4_orphanedBy yX4_orphanedBy, Cond.code yX4_orphanedBy cX4_orphanedBy 7 (some .int), Cond.methodLink RX4 94 yX4_passageError, Cond.instanceMethod yX4_passageError, Cond.selects RX4 yX4_passageError yX4_passageError, Cond.code yX4_passageError cX4_passageError 3 (some .int), Cond.methodLink RX4 58 yX6_has, Cond.instanceMethod yX6_has]
def wsX8_carryOut_r8 : List Cond := [Cond.selects RX6 yX6_has yX6_has, Cond.code yX6_has cX6_has 2 (some .boolean), Cond.methodLink RX4 69 yX6_item, Cond.methodLink RX4 86 yX6_cut, Cond.instanceMethod yX6_cut, Cond.selects RX6 yX6_cut yX6_cut, Cond.code yX6_cut cX6_cut 3 none, Cond.methodLink RX6 19 yX6_has, Cond.methodLink RX4 89 yJ6_bitCount_0f7a4, Cond.static yJ6_bitCount_0f7a4, Cond.initialized RJ6, Cond.code yJ6_bitCount_0f7a4 cJ6_bitCount_0f7a4 1 (some .int), Cond.constant RJ6 265 (1431655765), Cond.constant RJ6 266 (858993459), Cond.constant RJ6 267 (252645135), Cond.methodLink RX8 75 yX4_moveLetters, Cond.instanceMethod yX4_moveLetters, Cond.selects RX4 yX4_moveLetters yX4_moveLetters, Cond.code yX4_moveLetters cX4_moveLetters 6 (some .int), Cond.methodLink RX4 97 yX6_shift, Cond.instanceMethod yX6_shift, Cond.selects RX6 yX6_shift yX6_shift, Cond.code yX6_shift cX6_shift 4 none, Cond.methodLink RX6 29 yX6_exchange]
def wsX8_carryOut_r9 : List Cond := [Cond.instanceMethod yX6_exchange, Cond.selects RX6 yX6_exchange yX6_exchange, Cond.code yX6_exchange cX6_exchange 4 none, Cond.methodLink RX6 33 yX6_turn, Cond.instanceMethod yX6_turn, Cond.selects RX6 yX6_turn yX6_turn, Cond.code yX6_turn cX6_turn 6 none, Cond.methodLink RX4 101 yX4_countParted, Cond.instanceMethod yX4_countParted, Cond.selects RX4 yX4_countParted yX4_countParted, Cond.code yX4_countParted cX4_countParted 3 (some .int), Cond.fieldLink RX4 163 "AnchoredNotes$Pieces" "pieces" "I", Cond.methodLink RX4 150 yX4_piecesOf, Cond.instanceMethod yX4_piecesOf, Cond.selects RX4 yX4_piecesOf yX4_piecesOf, Cond.code yX4_piecesOf cX4_piecesOf 2 (some (.object "AnchoredNotes$Pieces")), Cond.methodLink RX4 156 yX5_gather, Cond.instanceMethod yX5_gather, Cond.selects RX5 yX5_gather yX5_gather, Cond.code yX5_gather cX5_gather 7 none, Cond.fieldLink RX5 9 "AnchoredNotes$Pieces" "pieces" "I", Cond.fieldLink RX5 15 "AnchoredNotes$Pieces" "letters" "I", Cond.fieldLink RX5 18 "AnchoredNotes$Pieces" "first" "I", Cond.fieldLink RX5 21 "AnchoredNotes$Pieces" "last" "I"]
def wsX8_carryOut_r10 : List Cond := [Cond.fieldLink RX5 24 "AnchoredNotes$Row" "length" "I", Cond.methodLink RX5 29 yX6_item, Cond.static yX8_isIn, Cond.code yX8_isIn cX8_isIn 2 (some .boolean), Cond.methodLink RX8 79 yX4_addNote, Cond.instanceMethod yX4_addNote, Cond.selects RX4 yX4_addNote yX4_addNote, Cond.code yX4_addNote cX4_addNote 5 (some .int), Cond.methodLink RX4 105 yX4_anchor, Cond.instanceMethod yX4_anchor, Cond.selects RX4 yX4_anchor yX4_anchor, Cond.code yX4_anchor cX4_anchor 6 none, Cond.methodLink RX4 108 yX2_remember, Cond.instanceMethod yX2_remember, Cond.selects RX2 yX2_remember yX2_remember, Cond.code yX2_remember cX2_remember 5 none, Cond.methodLink RX2 33 yX6_copyPart, Cond.instanceMethod yX6_copyPart, Cond.selects RX6 yX6_copyPart yX6_copyPart, Cond.code yX6_copyPart cX6_copyPart 6 none, Cond.methodLink RX6 43 yX6_clear, Cond.methodLink RX6 46 yX6_item, Cond.methodLink RX6 50 yX6_add, Cond.methodLink RX4 72 yX6_replace]
def wsX8_carryOut_r11 : List Cond := [Cond.instanceMethod yX6_replace, Cond.selects RX6 yX6_replace yX6_replace, Cond.code yX6_replace cX6_replace 3 none, Cond.methodLink RX8 82 yX4_addReply, Cond.instanceMethod yX4_addReply, Cond.selects RX4 yX4_addReply yX4_addReply, Cond.code yX4_addReply cX4_addReply 4 (some .int), Cond.methodLink RX4 112 yX2_becomeReply, Cond.instanceMethod yX2_becomeReply, Cond.selects RX2 yX2_becomeReply yX2_becomeReply, Cond.code yX2_becomeReply cX2_becomeReply 2 none, Cond.methodLink RX2 30 yX6_clear, Cond.methodLink RX8 85 yX4_dropFamily, Cond.instanceMethod yX4_dropFamily, Cond.selects RX4 yX4_dropFamily yX4_dropFamily, Cond.code yX4_dropFamily cX4_dropFamily 4 (some .int), Cond.methodLink RX4 115 yX4_family, Cond.instanceMethod yX4_family, Cond.selects RX4 yX4_family yX4_family, Cond.code yX4_family cX4_family 5 (some .int), Cond.fieldLink RX4 125 "AnchoredNotes$Note" "target" "I", Cond.methodLink RX4 122 yX4_remove, Cond.instanceMethod yX4_remove, Cond.selects RX4 yX4_remove yX4_remove]
def wsX8_carryOut_r12 : List Cond := [Cond.code yX4_remove cX4_remove 6 none, Cond.methodLink RX8 88 yX4_reclaimNote, Cond.instanceMethod yX4_reclaimNote, Cond.selects RX4 yX4_reclaimNote yX4_reclaimNote, Cond.code yX4_reclaimNote cX4_reclaimNote 4 (some .int), Cond.fieldLink RX4 137 "AnchoredNotes$Search" "places" "I", Cond.fieldLink RX4 140 "AnchoredNotes$Search" "place" "I", Cond.fieldLink RX4 143 "AnchoredNotes$Note" "words" "LAnchoredNotes$Row;", Cond.methodLink RX4 128 yX4_state, Cond.instanceMethod yX4_state, Cond.selects RX4 yX4_state yX4_state, Cond.code yX4_state cX4_state 3 (some .int), Cond.fieldLink RX4 154 "AnchoredNotes$Pieces" "letters" "I", Cond.methodLink RX4 146 yX2_isReply, Cond.instanceMethod yX2_isReply, Cond.selects RX2 yX2_isReply yX2_isReply, Cond.code yX2_isReply cX2_isReply 1 (some .boolean), Cond.methodLink RX4 131 yX7_look, Cond.instanceMethod yX7_look, Cond.selects RX7 yX7_look yX7_look, Cond.initialized RX7, Cond.code yX7_look cX7_look 6 none, Cond.fieldLink RX7 9 "AnchoredNotes$Search" "place" "I", Cond.fieldLink RX7 15 "AnchoredNotes$Search" "likeness" "I"]
def wsX8_carryOut_r13 : List Cond := [Cond.fieldLink RX7 18 "AnchoredNotes$Search" "places" "I", Cond.fieldLink RX7 21 "AnchoredNotes$Note" "words" "LAnchoredNotes$Row;", Cond.fieldLink RX7 27 "AnchoredNotes$Row" "length" "I", Cond.fieldLink RX7 36 "AnchoredNotes$Note" "ahead" "LAnchoredNotes$Row;", Cond.fieldLink RX7 39 "AnchoredNotes$Note" "behind" "LAnchoredNotes$Row;", Cond.methodLink RX7 32 yX6_countAlike, Cond.instanceMethod yX6_countAlike, Cond.selects RX6 yX6_countAlike yX6_countAlike, Cond.code yX6_countAlike cX6_countAlike 5 (some .int), Cond.methodLink RX8 235 yX3_skip, Cond.methodLink RX8 218 yX6_clear, Cond.methodLink RX8 65 yX0_confirm, Cond.instanceMethod yX0_confirm, Cond.selects RX0 yX0_confirm yX0_confirm, Cond.code yX0_confirm cX0_confirm 2 (some .int), Cond.methodLink RX0 26 yX0_forgetOldest, Cond.instanceMethod yX0_forgetOldest, Cond.selects RX0 yX0_forgetOldest yX0_forgetOldest, Cond.code yX0_forgetOldest cX0_forgetOldest 3 none]
def wsX8_carryOut : List Cond := .code yX8_carryOut cX8_carryOut 2 (some .int) :: ((wsX8_carryOut_r1 ++ (wsX8_carryOut_r2 ++ (wsX8_carryOut_r3 ++ (wsX8_carryOut_r4 ++ (wsX8_carryOut_r5 ++ (wsX8_carryOut_r6 ++ (wsX8_carryOut_r7 ++ (wsX8_carryOut_r8 ++ (wsX8_carryOut_r9 ++ (wsX8_carryOut_r10 ++ (wsX8_carryOut_r11 ++ (wsX8_carryOut_r12 ++ wsX8_carryOut_r13)))))))))))) ++ wsX80 ++ wsX30 ++ wsX60 ++ wsX00 ++ wsX40 ++ wsX50 ++ wsX20 ++ wsX70)
def wsX8_undo_r1 : List Cond := [Cond.fieldLink RX8 49 "AnchoredNotes" "history" "LAnchoredNotes$History;", Cond.fieldLink RX8 10 "AnchoredNotes" "page" "LAnchoredNotes$Page;", Cond.fieldLink RX8 187 "AnchoredNotes$History" "size" "I", Cond.methodLink RX8 239 yX0_goBack, Cond.instanceMethod yX0_goBack, Cond.selects RX0 yX0_goBack yX0_goBack, Cond.initialized RX0, Cond.code yX0_goBack cX0_goBack 4 (some .boolean), Cond.fieldLink RX0 17 "AnchoredNotes$History" "size" "I", Cond.fieldLink RX0 11 "AnchoredNotes$History" "states" "[LAnchoredNotes$Page;", Cond.methodLink RX0 22 yX4_copyFrom, Cond.instanceMethod yX4_copyFrom, Cond.selects RX4 yX4_copyFrom yX4_copyFrom, Cond.initialized RX4, Cond.code yX4_copyFrom cX4_copyFrom 5 none, Cond.fieldLink RX4 14 "AnchoredNotes$Page" "settings" "LAnchoredNotes$Row;", Cond.fieldLink RX4 20 "AnchoredNotes$Page" "letters" "LAnchoredNotes$Row;", Cond.fieldLink RX4 23 "AnchoredNotes$Page" "owners" "LAnchoredNotes$Row;", Cond.fieldLink RX4 47 "AnchoredNotes$Page" "noteCount" "I", Cond.methodLink RX4 43 yX6_copyFrom, Cond.instanceMethod yX6_copyFrom, Cond.selects RX6 yX6_copyFrom yX6_copyFrom, Cond.initialized RX6, Cond.code yX6_copyFrom cX6_copyFrom 2 none]
def wsX8_undo_r2 : List Cond := [Cond.fieldLink RX6 15 "AnchoredNotes$Row" "length" "I", Cond.fieldLink RX6 9 "AnchoredNotes$Row" "items" "[I", Cond.methodLink RX6 37 Lib.Math.min.name, Cond.static Lib.Math.min.name, Cond.initialized "java/lang/Math", Cond.code Lib.Math.min.name Lib.Math.min.code 2 (some .int), Cond.methodLink RX6 23 arraycopyName, Cond.native arraycopyName, Cond.static arraycopyName, Cond.initialized "java/lang/System", Cond.methodLink RX4 51 yX4_find, Cond.instanceMethod yX4_find, Cond.selects RX4 yX4_find yX4_find, Cond.code yX4_find cX4_find 2 (some (.object "AnchoredNotes$Note")), Cond.fieldLink RX4 28 "AnchoredNotes$Page" "notes" "[LAnchoredNotes$Note;", Cond.methodLink RX4 55 yX2_copyFrom, Cond.instanceMethod yX2_copyFrom, Cond.selects RX2 yX2_copyFrom yX2_copyFrom, Cond.initialized RX2, Cond.code yX2_copyFrom cX2_copyFrom 2 none, Cond.fieldLink RX2 9 "AnchoredNotes$Note" "target" "I", Cond.fieldLink RX2 20 "AnchoredNotes$Note" "words" "LAnchoredNotes$Row;", Cond.fieldLink RX2 24 "AnchoredNotes$Note" "ahead" "LAnchoredNotes$Row;", Cond.fieldLink RX2 27 "AnchoredNotes$Note" "behind" "LAnchoredNotes$Row;"]
def wsX8_undo_r3 : List Cond := [Cond.methodLink RX2 37 yX6_copyFrom]
def wsX8_undo : List Cond := .code yX8_undo cX8_undo 1 (some .int) :: ((wsX8_undo_r1 ++ (wsX8_undo_r2 ++ wsX8_undo_r3)) ++ wsX80 ++ wsX00 ++ wsX40 ++ wsX60 ++ wsX20)
def wsX8_save_r1 : List Cond := [Cond.fieldLink RX8 53 "AnchoredNotes" "slots" "[LAnchoredNotes$Page;", Cond.classLink RX8 7 RX4, Cond.instantiable RX4 6, Cond.initialized RX4, Cond.fieldLink RX8 10 "AnchoredNotes" "page" "LAnchoredNotes$Page;", Cond.fieldLink RX8 92 "AnchoredNotes$Page" "letters" "LAnchoredNotes$Row;", Cond.fieldLink RX8 130 "AnchoredNotes$Row" "length" "I", Cond.methodLink RX8 9 yX4_init, Cond.instanceMethod yX4_init, Cond.code yX4_init cX4_init 2 none, Cond.methodLink RX4 3 objectInit, Cond.instanceMethod objectInit, Cond.code objectInit ⟨#[0xb1]⟩ 1 none, Cond.classLink RX4 9 RX6, Cond.instantiable RX6 2, Cond.initialized RX6, Cond.fieldLink RX4 14 "AnchoredNotes$Page" "settings" "LAnchoredNotes$Row;", Cond.fieldLink RX4 20 "AnchoredNotes$Page" "letters" "LAnchoredNotes$Row;", Cond.fieldLink RX4 23 "AnchoredNotes$Page" "owners" "LAnchoredNotes$Row;", Cond.classLink RX4 26 RX2, Cond.fieldLink RX4 28 "AnchoredNotes$Page" "notes" "[LAnchoredNotes$Note;", Cond.classLink RX4 32 RX5, Cond.instantiable RX5 4, Cond.initialized RX5]
def wsX8_save_r2 : List Cond := [Cond.fieldLink RX4 35 "AnchoredNotes$Page" "pieces" "LAnchoredNotes$Pieces;", Cond.instantiable RX2 4, Cond.initialized RX2, Cond.methodLink RX4 11 yX6_init, Cond.instanceMethod yX6_init, Cond.code yX6_init cX6_init 2 none, Cond.methodLink RX6 3 objectInit, Cond.arrayClass .int, Cond.fieldLink RX6 9 "AnchoredNotes$Row" "items" "[I", Cond.instanceMethod yX5_init, Cond.code yX5_init cX5_init 1 none, Cond.methodLink RX5 3 objectInit, Cond.methodLink RX4 39 yX6_add, Cond.instanceMethod yX6_add, Cond.selects RX6 yX6_add yX6_add, Cond.code yX6_add cX6_add 2 none, Cond.fieldLink RX6 15 "AnchoredNotes$Row" "length" "I", Cond.instanceMethod yX2_init, Cond.code yX2_init cX2_init 1 none, Cond.methodLink RX2 3 objectInit, Cond.fieldLink RX2 9 "AnchoredNotes$Note" "target" "I", Cond.classLink RX2 15 RX6, Cond.fieldLink RX2 20 "AnchoredNotes$Note" "words" "LAnchoredNotes$Row;", Cond.fieldLink RX2 24 "AnchoredNotes$Note" "ahead" "LAnchoredNotes$Row;"]
def wsX8_save_r3 : List Cond := [Cond.fieldLink RX2 27 "AnchoredNotes$Note" "behind" "LAnchoredNotes$Row;", Cond.methodLink RX2 17 yX6_init, Cond.methodLink RX8 243 yX4_copyFrom, Cond.instanceMethod yX4_copyFrom, Cond.selects RX4 yX4_copyFrom yX4_copyFrom, Cond.code yX4_copyFrom cX4_copyFrom 5 none, Cond.fieldLink RX4 47 "AnchoredNotes$Page" "noteCount" "I", Cond.methodLink RX4 43 yX6_copyFrom, Cond.instanceMethod yX6_copyFrom, Cond.selects RX6 yX6_copyFrom yX6_copyFrom, Cond.code yX6_copyFrom cX6_copyFrom 2 none, Cond.methodLink RX6 37 Lib.Math.min.name, Cond.static Lib.Math.min.name, Cond.initialized "java/lang/Math", Cond.code Lib.Math.min.name Lib.Math.min.code 2 (some .int), Cond.methodLink RX6 23 arraycopyName, Cond.native arraycopyName, Cond.static arraycopyName, Cond.initialized "java/lang/System", Cond.methodLink RX4 51 yX4_find, Cond.instanceMethod yX4_find, Cond.selects RX4 yX4_find yX4_find, Cond.code yX4_find cX4_find 2 (some (.object "AnchoredNotes$Note")), Cond.methodLink RX4 55 yX2_copyFrom]
def wsX8_save_r4 : List Cond := [Cond.instanceMethod yX2_copyFrom, Cond.selects RX2 yX2_copyFrom yX2_copyFrom, Cond.code yX2_copyFrom cX2_copyFrom 2 none, Cond.methodLink RX2 37 yX6_copyFrom]
def wsX8_save : List Cond := .code yX8_save cX8_save 3 (some .int) :: ((wsX8_save_r1 ++ (wsX8_save_r2 ++ (wsX8_save_r3 ++ wsX8_save_r4))) ++ wsX80 ++ wsX40 ++ wsX60 ++ wsX50 ++ wsX20)
def wsX8_restore_r1 : List Cond := [Cond.fieldLink RX8 53 "AnchoredNotes" "slots" "[LAnchoredNotes$Page;", Cond.fieldLink RX8 49 "AnchoredNotes" "history" "LAnchoredNotes$History;", Cond.fieldLink RX8 10 "AnchoredNotes" "page" "LAnchoredNotes$Page;", Cond.fieldLink RX8 92 "AnchoredNotes$Page" "letters" "LAnchoredNotes$Row;", Cond.fieldLink RX8 130 "AnchoredNotes$Row" "length" "I", Cond.methodLink RX8 57 yX0_keep, Cond.instanceMethod yX0_keep, Cond.selects RX0 yX0_keep yX0_keep, Cond.initialized RX0, Cond.code yX0_keep cX0_keep 3 none, Cond.fieldLink RX0 17 "AnchoredNotes$History" "size" "I", Cond.fieldLink RX0 11 "AnchoredNotes$History" "states" "[LAnchoredNotes$Page;", Cond.classLink RX0 9 RX4, Cond.instantiable RX4 6, Cond.initialized RX4, Cond.methodLink RX0 21 yX4_init, Cond.instanceMethod yX4_init, Cond.code yX4_init cX4_init 2 none, Cond.methodLink RX4 3 objectInit, Cond.instanceMethod objectInit, Cond.code objectInit ⟨#[0xb1]⟩ 1 none, Cond.classLink RX4 9 RX6, Cond.instantiable RX6 2, Cond.initialized RX6]
def wsX8_restore_r2 : List Cond := [Cond.fieldLink RX4 14 "AnchoredNotes$Page" "settings" "LAnchoredNotes$Row;", Cond.fieldLink RX4 20 "AnchoredNotes$Page" "letters" "LAnchoredNotes$Row;", Cond.fieldLink RX4 23 "AnchoredNotes$Page" "owners" "LAnchoredNotes$Row;", Cond.classLink RX4 26 RX2, Cond.fieldLink RX4 28 "AnchoredNotes$Page" "notes" "[LAnchoredNotes$Note;", Cond.classLink RX4 32 RX5, Cond.instantiable RX5 4, Cond.initialized RX5, Cond.fieldLink RX4 35 "AnchoredNotes$Page" "pieces" "LAnchoredNotes$Pieces;", Cond.instantiable RX2 4, Cond.initialized RX2, Cond.methodLink RX4 11 yX6_init, Cond.instanceMethod yX6_init, Cond.code yX6_init cX6_init 2 none, Cond.methodLink RX6 3 objectInit, Cond.arrayClass .int, Cond.fieldLink RX6 9 "AnchoredNotes$Row" "items" "[I", Cond.instanceMethod yX5_init, Cond.code yX5_init cX5_init 1 none, Cond.methodLink RX5 3 objectInit, Cond.methodLink RX4 39 yX6_add, Cond.instanceMethod yX6_add, Cond.selects RX6 yX6_add yX6_add, Cond.code yX6_add cX6_add 2 none]
def wsX8_restore_r3 : List Cond := [Cond.fieldLink RX6 15 "AnchoredNotes$Row" "length" "I", Cond.instanceMethod yX2_init, Cond.code yX2_init cX2_init 1 none, Cond.methodLink RX2 3 objectInit, Cond.fieldLink RX2 9 "AnchoredNotes$Note" "target" "I", Cond.classLink RX2 15 RX6, Cond.fieldLink RX2 20 "AnchoredNotes$Note" "words" "LAnchoredNotes$Row;", Cond.fieldLink RX2 24 "AnchoredNotes$Note" "ahead" "LAnchoredNotes$Row;", Cond.fieldLink RX2 27 "AnchoredNotes$Note" "behind" "LAnchoredNotes$Row;", Cond.methodLink RX2 17 yX6_init, Cond.methodLink RX0 22 yX4_copyFrom, Cond.instanceMethod yX4_copyFrom, Cond.selects RX4 yX4_copyFrom yX4_copyFrom, Cond.code yX4_copyFrom cX4_copyFrom 5 none, Cond.fieldLink RX4 47 "AnchoredNotes$Page" "noteCount" "I", Cond.methodLink RX4 43 yX6_copyFrom, Cond.instanceMethod yX6_copyFrom, Cond.selects RX6 yX6_copyFrom yX6_copyFrom, Cond.code yX6_copyFrom cX6_copyFrom 2 none, Cond.methodLink RX6 37 Lib.Math.min.name, Cond.static Lib.Math.min.name, Cond.initialized "java/lang/Math", Cond.code Lib.Math.min.name Lib.Math.min.code 2 (some .int), Cond.methodLink RX6 23 arraycopyName]
def wsX8_restore_r4 : List Cond := [Cond.native arraycopyName, Cond.static arraycopyName, Cond.initialized "java/lang/System", Cond.methodLink RX4 51 yX4_find, Cond.instanceMethod yX4_find, Cond.selects RX4 yX4_find yX4_find, Cond.code yX4_find cX4_find 2 (some (.object "AnchoredNotes$Note")), Cond.methodLink RX4 55 yX2_copyFrom, Cond.instanceMethod yX2_copyFrom, Cond.selects RX2 yX2_copyFrom yX2_copyFrom, Cond.code yX2_copyFrom cX2_copyFrom 2 none, Cond.methodLink RX2 37 yX6_copyFrom, Cond.methodLink RX8 243 yX4_copyFrom, Cond.methodLink RX8 65 yX0_confirm, Cond.instanceMethod yX0_confirm, Cond.selects RX0 yX0_confirm yX0_confirm, Cond.code yX0_confirm cX0_confirm 2 (some .int), Cond.methodLink RX0 26 yX0_forgetOldest, Cond.instanceMethod yX0_forgetOldest, Cond.selects RX0 yX0_forgetOldest yX0_forgetOldest, Cond.code yX0_forgetOldest cX0_forgetOldest 3 none]
def wsX8_restore : List Cond := .code yX8_restore cX8_restore 3 (some .int) :: ((wsX8_restore_r1 ++ (wsX8_restore_r2 ++ (wsX8_restore_r3 ++ wsX8_restore_r4))) ++ wsX80 ++ wsX40 ++ wsX60 ++ wsX00 ++ wsX50 ++ wsX20)
def wsX9_init : List Cond := .code yX9_init cX9_init 1 none :: ([.methodLink RX9 1 objectInit, .instanceMethod objectInit, .code objectInit ⟨#[0xb1]⟩ 1 none, .arrayClass .int, .fieldLink RX9 7 "AnchoredNotesModel" "now" "[I", .fieldLink RX9 13 "AnchoredNotesModel" "past" "[I", .fieldLink RX9 16 "AnchoredNotesModel" "slots" "[I", .arrayClass .boolean, .fieldLink RX9 19 "AnchoredNotesModel" "held" "[Z", .fieldLink RX9 23 "AnchoredNotesModel" "pad" "[I", .fieldLink RX9 26 "AnchoredNotesModel" "orders" "[I", .fieldLink RX9 29 "AnchoredNotesModel" "lines" "[I", .fieldLink RX9 32 "AnchoredNotesModel" "own" "[I", .fieldLink RX9 35 "AnchoredNotesModel" "full" "[I", .fieldLink RX9 38 "AnchoredNotesModel" "taken" "[I"] ++ wsX90)
def wsX9_in : List Cond := .code yX9_in cX9_in 3 (some .boolean) :: ([])
def wsX9_of0 : List Cond := .code yX9_of0 cX9_of0 3 (some .int) :: ([.fieldLink RX9 7 "AnchoredNotesModel" "now" "[I"] ++ wsX90)
def wsX9_isNote : List Cond := .code yX9_isNote cX9_isNote 2 (some .boolean) :: ([.fieldLink RX9 7 "AnchoredNotesModel" "now" "[I", .methodLink RX9 41 yX9_in, .static yX9_in, .initialized RX9, .code yX9_in cX9_in 3 (some .boolean)] ++ wsX90)
def wsX9_isReply : List Cond := .code yX9_isReply cX9_isReply 2 (some .boolean) :: ([.methodLink RX9 45 yX9_of0, .instanceMethod yX9_of0, .selects RX9 yX9_of0 yX9_of0, .initialized RX9, .code yX9_of0 cX9_of0 3 (some .int), .fieldLink RX9 7 "AnchoredNotesModel" "now" "[I"] ++ wsX90)
def wsX9_isPlace : List Cond := .code yX9_isPlace cX9_isPlace 2 (some .boolean) :: ([.fieldLink RX9 7 "AnchoredNotesModel" "now" "[I", .methodLink RX9 41 yX9_in, .static yX9_in, .initialized RX9, .code yX9_in cX9_in 3 (some .boolean)] ++ wsX90)
def wsX9_isOf : List Cond := .code yX9_isOf cX9_isOf 3 (some .boolean) :: ([.fieldLink RX9 7 "AnchoredNotesModel" "now" "[I"] ++ wsX90)
def wsX9_lays : List Cond := .code yX9_lays cX9_lays 5 none :: ([])
def wsX9_records : List Cond := .code yX9_records cX9_records 2 none :: ([.fieldLink RX9 49 "AnchoredNotesModel" "kept" "I", .fieldLink RX9 13 "AnchoredNotesModel" "past" "[I", .fieldLink RX9 7 "AnchoredNotesModel" "now" "[I", .methodLink RX9 53 yX9_lays, .static yX9_lays, .initialized RX9, .code yX9_lays cX9_lays 5 none] ++ wsX90)
def wsX9_undo : List Cond := .code yX9_undo cX9_undo 1 (some .int) :: ([.fieldLink RX9 49 "AnchoredNotesModel" "kept" "I", .fieldLink RX9 13 "AnchoredNotesModel" "past" "[I", .fieldLink RX9 7 "AnchoredNotesModel" "now" "[I", .methodLink RX9 53 yX9_lays, .static yX9_lays, .initialized RX9, .code yX9_lays cX9_lays 5 none] ++ wsX90)
def wsX9_save : List Cond := .code yX9_save cX9_save 2 (some .int) :: ([.fieldLink RX9 7 "AnchoredNotesModel" "now" "[I", .fieldLink RX9 16 "AnchoredNotesModel" "slots" "[I", .fieldLink RX9 19 "AnchoredNotesModel" "held" "[Z", .methodLink RX9 41 yX9_in, .static yX9_in, .initialized RX9, .code yX9_in cX9_in 3 (some .boolean), .methodLink RX9 53 yX9_lays, .static yX9_lays, .code yX9_lays cX9_lays 5 none] ++ wsX90)
def wsX9_restore : List Cond := .code yX9_restore cX9_restore 2 (some .int) :: ([.fieldLink RX9 19 "AnchoredNotesModel" "held" "[Z", .fieldLink RX9 16 "AnchoredNotesModel" "slots" "[I", .fieldLink RX9 7 "AnchoredNotesModel" "now" "[I", .methodLink RX9 41 yX9_in, .static yX9_in, .initialized RX9, .code yX9_in cX9_in 3 (some .boolean), .methodLink RX9 57 yX9_records, .instanceMethod yX9_records, .selects RX9 yX9_records yX9_records, .code yX9_records cX9_records 2 none, .fieldLink RX9 49 "AnchoredNotesModel" "kept" "I", .fieldLink RX9 13 "AnchoredNotesModel" "past" "[I", .methodLink RX9 53 yX9_lays, .static yX9_lays, .code yX9_lays cX9_lays 5 none] ++ wsX90)
def wsX9_present : List Cond := .code yX9_present cX9_present 4 (some .int) :: ([.fieldLink RX9 7 "AnchoredNotesModel" "now" "[I", .methodLink RX9 60 yX9_isOf, .instanceMethod yX9_isOf, .selects RX9 yX9_isOf yX9_isOf, .initialized RX9, .code yX9_isOf cX9_isOf 3 (some .boolean)] ++ wsX90)
def wsX9_isOrphan : List Cond := .code yX9_isOrphan cX9_isOrphan 2 (some .boolean) :: ([.methodLink RX9 64 yX9_isReply, .instanceMethod yX9_isReply, .selects RX9 yX9_isReply yX9_isReply, .initialized RX9, .code yX9_isReply cX9_isReply 2 (some .boolean), .methodLink RX9 45 yX9_of0, .instanceMethod yX9_of0, .selects RX9 yX9_of0 yX9_of0, .code yX9_of0 cX9_of0 3 (some .int), .fieldLink RX9 7 "AnchoredNotesModel" "now" "[I", .methodLink RX9 68 yX9_present, .instanceMethod yX9_present, .selects RX9 yX9_present yX9_present, .code yX9_present cX9_present 4 (some .int), .methodLink RX9 60 yX9_isOf, .instanceMethod yX9_isOf, .selects RX9 yX9_isOf yX9_isOf, .code yX9_isOf cX9_isOf 3 (some .boolean)] ++ wsX90)
def wsX9_finds : List Cond := .code yX9_finds cX9_finds 5 none :: ([.fieldLink RX9 72 "AnchoredNotesModel" "pieces" "I", .fieldLink RX9 75 "AnchoredNotesModel" "first" "I", .fieldLink RX9 78 "AnchoredNotesModel" "last" "I", .fieldLink RX9 7 "AnchoredNotesModel" "now" "[I", .methodLink RX9 60 yX9_isOf, .instanceMethod yX9_isOf, .selects RX9 yX9_isOf yX9_isOf, .initialized RX9, .code yX9_isOf cX9_isOf 3 (some .boolean)] ++ wsX90)
def wsX9_torn : List Cond := .code yX9_torn cX9_torn 3 (some .int) :: ([.fieldLink RX9 7 "AnchoredNotesModel" "now" "[I", .fieldLink RX9 72 "AnchoredNotesModel" "pieces" "I", .methodLink RX9 81 yX9_finds, .instanceMethod yX9_finds, .selects RX9 yX9_finds yX9_finds, .initialized RX9, .code yX9_finds cX9_finds 5 none, .fieldLink RX9 75 "AnchoredNotesModel" "first" "I", .fieldLink RX9 78 "AnchoredNotesModel" "last" "I", .methodLink RX9 60 yX9_isOf, .instanceMethod yX9_isOf, .selects RX9 yX9_isOf yX9_isOf, .code yX9_isOf cX9_isOf 3 (some .boolean)] ++ wsX90)
def wsX9_orphans : List Cond := .code yX9_orphans cX9_orphans 3 (some .int) :: ([.fieldLink RX9 7 "AnchoredNotesModel" "now" "[I", .methodLink RX9 85 yX9_isOrphan, .instanceMethod yX9_isOrphan, .selects RX9 yX9_isOrphan yX9_isOrphan, .initialized RX9, .code yX9_isOrphan cX9_isOrphan 2 (some .boolean), .methodLink RX9 64 yX9_isReply, .instanceMethod yX9_isReply, .selects RX9 yX9_isReply yX9_isReply, .code yX9_isReply cX9_isReply 2 (some .boolean), .methodLink RX9 45 yX9_of0, .instanceMethod yX9_of0, .selects RX9 yX9_of0 yX9_of0, .code yX9_of0 cX9_of0 3 (some .int), .methodLink RX9 68 yX9_present, .instanceMethod yX9_present, .selects RX9 yX9_present yX9_present, .code yX9_present cX9_present 4 (some .int), .methodLink RX9 60 yX9_isOf, .instanceMethod yX9_isOf, .selects RX9 yX9_isOf yX9_isOf, .code yX9_isOf cX9_isOf 3 (some .boolean)] ++ wsX90)
def wsX9_rootOf : List Cond := .code yX9_rootOf cX9_rootOf 5 (some .int) :: ([.methodLink RX9 64 yX9_isReply, .instanceMethod yX9_isReply, .selects RX9 yX9_isReply yX9_isReply, .initialized RX9, .code yX9_isReply cX9_isReply 2 (some .boolean), .methodLink RX9 45 yX9_of0, .instanceMethod yX9_of0, .selects RX9 yX9_of0 yX9_of0, .code yX9_of0 cX9_of0 3 (some .int), .fieldLink RX9 7 "AnchoredNotesModel" "now" "[I"] ++ wsX90)
def wsX9_isBelow : List Cond := .code yX9_isBelow cX9_isBelow 4 (some .boolean) :: ([.methodLink RX9 64 yX9_isReply, .instanceMethod yX9_isReply, .selects RX9 yX9_isReply yX9_isReply, .initialized RX9, .code yX9_isReply cX9_isReply 2 (some .boolean), .methodLink RX9 45 yX9_of0, .instanceMethod yX9_of0, .selects RX9 yX9_of0 yX9_of0, .code yX9_of0 cX9_of0 3 (some .int), .fieldLink RX9 7 "AnchoredNotesModel" "now" "[I"] ++ wsX90)
def wsX9_below : List Cond := .code yX9_below cX9_below 4 (some .int) :: ([.fieldLink RX9 7 "AnchoredNotesModel" "now" "[I", .methodLink RX9 88 yX9_isBelow, .instanceMethod yX9_isBelow, .selects RX9 yX9_isBelow yX9_isBelow, .initialized RX9, .code yX9_isBelow cX9_isBelow 4 (some .boolean), .methodLink RX9 64 yX9_isReply, .instanceMethod yX9_isReply, .selects RX9 yX9_isReply yX9_isReply, .code yX9_isReply cX9_isReply 2 (some .boolean), .methodLink RX9 45 yX9_of0, .instanceMethod yX9_of0, .selects RX9 yX9_of0 yX9_of0, .code yX9_of0 cX9_of0 3 (some .int)] ++ wsX90)
def wsX9_isFor : List Cond := .code yX9_isFor cX9_isFor 2 (some .boolean) :: ([.methodLink RX9 41 yX9_in, .static yX9_in, .initialized RX9, .code yX9_in cX9_in 3 (some .boolean)])
def wsX9_set : List Cond := .code yX9_set cX9_set 4 (some .int) :: ([.fieldLink RX9 7 "AnchoredNotesModel" "now" "[I", .methodLink RX9 41 yX9_in, .static yX9_in, .initialized RX9, .code yX9_in cX9_in 3 (some .boolean), .methodLink RX9 91 yX9_isFor, .static yX9_isFor, .code yX9_isFor cX9_isFor 2 (some .boolean), .methodLink RX9 57 yX9_records, .instanceMethod yX9_records, .selects RX9 yX9_records yX9_records, .code yX9_records cX9_records 2 none, .fieldLink RX9 49 "AnchoredNotesModel" "kept" "I", .fieldLink RX9 13 "AnchoredNotesModel" "past" "[I", .methodLink RX9 53 yX9_lays, .static yX9_lays, .code yX9_lays cX9_lays 5 none] ++ wsX90)
def wsX9_mayWrite : List Cond := .code yX9_mayWrite cX9_mayWrite 3 (some .int) :: ([.fieldLink RX9 7 "AnchoredNotesModel" "now" "[I", .methodLink RX9 41 yX9_in, .static yX9_in, .initialized RX9, .code yX9_in cX9_in 3 (some .boolean)] ++ wsX90)
def wsX9_comes : List Cond := .code yX9_comes cX9_comes 5 none :: ([.fieldLink RX9 7 "AnchoredNotesModel" "now" "[I"] ++ wsX90)
def wsX9_write : List Cond := .code yX9_write cX9_write 4 (some .int) :: ([.fieldLink RX9 7 "AnchoredNotesModel" "now" "[I", .methodLink RX9 94 yX9_mayWrite, .instanceMethod yX9_mayWrite, .selects RX9 yX9_mayWrite yX9_mayWrite, .initialized RX9, .code yX9_mayWrite cX9_mayWrite 3 (some .int), .methodLink RX9 41 yX9_in, .static yX9_in, .code yX9_in cX9_in 3 (some .boolean), .methodLink RX9 57 yX9_records, .instanceMethod yX9_records, .selects RX9 yX9_records yX9_records, .code yX9_records cX9_records 2 none, .fieldLink RX9 49 "AnchoredNotesModel" "kept" "I", .fieldLink RX9 13 "AnchoredNotesModel" "past" "[I", .methodLink RX9 53 yX9_lays, .static yX9_lays, .code yX9_lays cX9_lays 5 none, .methodLink RX9 97 yX9_comes, .instanceMethod yX9_comes, .selects RX9 yX9_comes yX9_comes, .code yX9_comes cX9_comes 5 none] ++ wsX90)
def wsX9_maySpan : List Cond := .code yX9_maySpan cX9_maySpan 3 (some .int) :: ([.methodLink RX9 101 yX9_isPlace, .instanceMethod yX9_isPlace, .selects RX9 yX9_isPlace yX9_isPlace, .initialized RX9, .code yX9_isPlace cX9_isPlace 2 (some .boolean), .fieldLink RX9 7 "AnchoredNotesModel" "now" "[I", .methodLink RX9 41 yX9_in, .static yX9_in, .code yX9_in cX9_in 3 (some .boolean)] ++ wsX90)
def wsX9_goes : List Cond := .code yX9_goes cX9_goes 5 none :: ([.fieldLink RX9 7 "AnchoredNotesModel" "now" "[I"] ++ wsX90)
def wsX9_erases_r1 : List Cond := [Cond.methodLink RX9 104 yX9_orphans, Cond.instanceMethod yX9_orphans, Cond.selects RX9 yX9_orphans yX9_orphans, Cond.initialized RX9, Cond.code yX9_orphans cX9_orphans 3 (some .int), Cond.fieldLink RX9 7 "AnchoredNotesModel" "now" "[I", Cond.methodLink RX9 85 yX9_isOrphan, Cond.instanceMethod yX9_isOrphan, Cond.selects RX9 yX9_isOrphan yX9_isOrphan, Cond.code yX9_isOrphan cX9_isOrphan 2 (some .boolean), Cond.methodLink RX9 64 yX9_isReply, Cond.instanceMethod yX9_isReply, Cond.selects RX9 yX9_isReply yX9_isReply, Cond.code yX9_isReply cX9_isReply 2 (some .boolean), Cond.methodLink RX9 45 yX9_of0, Cond.instanceMethod yX9_of0, Cond.selects RX9 yX9_of0 yX9_of0, Cond.code yX9_of0 cX9_of0 3 (some .int), Cond.methodLink RX9 68 yX9_present, Cond.instanceMethod yX9_present, Cond.selects RX9 yX9_present yX9_present, Cond.code yX9_present cX9_present 4 (some .int), Cond.methodLink RX9 60 yX9_isOf, Cond.instanceMethod yX9_isOf]
def wsX9_erases_r2 : List Cond := [Cond.selects RX9 yX9_isOf yX9_isOf, Cond.code yX9_isOf cX9_isOf 3 (some .boolean), Cond.methodLink RX9 108 yX9_goes, Cond.instanceMethod yX9_goes, Cond.selects RX9 yX9_goes yX9_goes, Cond.code yX9_goes cX9_goes 5 none]
def wsX9_erases : List Cond := .code yX9_erases cX9_erases 4 (some .int) :: ((wsX9_erases_r1 ++ wsX9_erases_r2) ++ wsX90)
def wsX9_erase_r1 : List Cond := [Cond.methodLink RX9 112 yX9_maySpan, Cond.instanceMethod yX9_maySpan, Cond.selects RX9 yX9_maySpan yX9_maySpan, Cond.initialized RX9, Cond.code yX9_maySpan cX9_maySpan 3 (some .int), Cond.methodLink RX9 101 yX9_isPlace, Cond.instanceMethod yX9_isPlace, Cond.selects RX9 yX9_isPlace yX9_isPlace, Cond.code yX9_isPlace cX9_isPlace 2 (some .boolean), Cond.fieldLink RX9 7 "AnchoredNotesModel" "now" "[I", Cond.methodLink RX9 41 yX9_in, Cond.static yX9_in, Cond.code yX9_in cX9_in 3 (some .boolean), Cond.methodLink RX9 57 yX9_records, Cond.instanceMethod yX9_records, Cond.selects RX9 yX9_records yX9_records, Cond.code yX9_records cX9_records 2 none, Cond.fieldLink RX9 49 "AnchoredNotesModel" "kept" "I", Cond.fieldLink RX9 13 "AnchoredNotesModel" "past" "[I", Cond.methodLink RX9 53 yX9_lays, Cond.static yX9_lays, Cond.code yX9_lays cX9_lays 5 none, Cond.methodLink RX9 115 yX9_erases, Cond.instanceMethod yX9_erases]
def wsX9_erase_r2 : List Cond := [Cond.selects RX9 yX9_erases yX9_erases, Cond.code yX9_erases cX9_erases 4 (some .int), Cond.methodLink RX9 104 yX9_orphans, Cond.instanceMethod yX9_orphans, Cond.selects RX9 yX9_orphans yX9_orphans, Cond.code yX9_orphans cX9_orphans 3 (some .int), Cond.methodLink RX9 85 yX9_isOrphan, Cond.instanceMethod yX9_isOrphan, Cond.selects RX9 yX9_isOrphan yX9_isOrphan, Cond.code yX9_isOrphan cX9_isOrphan 2 (some .boolean), Cond.methodLink RX9 64 yX9_isReply, Cond.instanceMethod yX9_isReply, Cond.selects RX9 yX9_isReply yX9_isReply, Cond.code yX9_isReply cX9_isReply 2 (some .boolean), Cond.methodLink RX9 45 yX9_of0, Cond.instanceMethod yX9_of0, Cond.selects RX9 yX9_of0 yX9_of0, Cond.code yX9_of0 cX9_of0 3 (some .int), Cond.methodLink RX9 68 yX9_present, Cond.instanceMethod yX9_present, Cond.selects RX9 yX9_present yX9_present, Cond.code yX9_present cX9_present 4 (some .int), Cond.methodLink RX9 60 yX9_isOf, Cond.instanceMethod yX9_isOf]
def wsX9_erase_r3 : List Cond := [Cond.selects RX9 yX9_isOf yX9_isOf, Cond.code yX9_isOf cX9_isOf 3 (some .boolean), Cond.methodLink RX9 108 yX9_goes, Cond.instanceMethod yX9_goes, Cond.selects RX9 yX9_goes yX9_goes, Cond.code yX9_goes cX9_goes 5 none]
def wsX9_erase : List Cond := .code yX9_erase cX9_erase 4 (some .int) :: ((wsX9_erase_r1 ++ (wsX9_erase_r2 ++ wsX9_erase_r3)) ++ wsX90)
def wsX9_mayMove : List Cond := .code yX9_mayMove cX9_mayMove 5 (some .int) :: ([.fieldLink RX9 7 "AnchoredNotesModel" "now" "[I", .methodLink RX9 112 yX9_maySpan, .instanceMethod yX9_maySpan, .selects RX9 yX9_maySpan yX9_maySpan, .initialized RX9, .code yX9_maySpan cX9_maySpan 3 (some .int), .methodLink RX9 101 yX9_isPlace, .instanceMethod yX9_isPlace, .selects RX9 yX9_isPlace yX9_isPlace, .code yX9_isPlace cX9_isPlace 2 (some .boolean), .methodLink RX9 41 yX9_in, .static yX9_in, .code yX9_in cX9_in 3 (some .boolean)] ++ wsX90)
def wsX9_moves : List Cond := .code yX9_moves cX9_moves 6 none :: ([.fieldLink RX9 38 "AnchoredNotesModel" "taken" "[I", .fieldLink RX9 7 "AnchoredNotesModel" "now" "[I", .methodLink RX9 108 yX9_goes, .instanceMethod yX9_goes, .selects RX9 yX9_goes yX9_goes, .initialized RX9, .code yX9_goes cX9_goes 5 none, .methodLink RX9 97 yX9_comes, .instanceMethod yX9_comes, .selects RX9 yX9_comes yX9_comes, .code yX9_comes cX9_comes 5 none] ++ wsX90)
def wsX9_move_r1 : List Cond := [Cond.methodLink RX9 118 yX9_mayMove, Cond.instanceMethod yX9_mayMove, Cond.selects RX9 yX9_mayMove yX9_mayMove, Cond.initialized RX9, Cond.code yX9_mayMove cX9_mayMove 5 (some .int), Cond.fieldLink RX9 7 "AnchoredNotesModel" "now" "[I", Cond.methodLink RX9 112 yX9_maySpan, Cond.instanceMethod yX9_maySpan, Cond.selects RX9 yX9_maySpan yX9_maySpan, Cond.code yX9_maySpan cX9_maySpan 3 (some .int), Cond.methodLink RX9 101 yX9_isPlace, Cond.instanceMethod yX9_isPlace, Cond.selects RX9 yX9_isPlace yX9_isPlace, Cond.code yX9_isPlace cX9_isPlace 2 (some .boolean), Cond.methodLink RX9 41 yX9_in, Cond.static yX9_in, Cond.code yX9_in cX9_in 3 (some .boolean), Cond.methodLink RX9 57 yX9_records, Cond.instanceMethod yX9_records, Cond.selects RX9 yX9_records yX9_records, Cond.code yX9_records cX9_records 2 none, Cond.fieldLink RX9 49 "AnchoredNotesModel" "kept" "I", Cond.fieldLink RX9 13 "AnchoredNotesModel" "past" "[I", Cond.methodLink RX9 53 yX9_lays]
def wsX9_move_r2 : List Cond := [Cond.static yX9_lays, Cond.code yX9_lays cX9_lays 5 none, Cond.methodLink RX9 122 yX9_moves, Cond.instanceMethod yX9_moves, Cond.selects RX9 yX9_moves yX9_moves, Cond.code yX9_moves cX9_moves 6 none, Cond.fieldLink RX9 38 "AnchoredNotesModel" "taken" "[I", Cond.methodLink RX9 108 yX9_goes, Cond.instanceMethod yX9_goes, Cond.selects RX9 yX9_goes yX9_goes, Cond.code yX9_goes cX9_goes 5 none, Cond.methodLink RX9 97 yX9_comes, Cond.instanceMethod yX9_comes, Cond.selects RX9 yX9_comes yX9_comes, Cond.code yX9_comes cX9_comes 5 none, Cond.methodLink RX9 125 yX9_torn, Cond.instanceMethod yX9_torn, Cond.selects RX9 yX9_torn yX9_torn, Cond.code yX9_torn cX9_torn 3 (some .int), Cond.fieldLink RX9 72 "AnchoredNotesModel" "pieces" "I", Cond.methodLink RX9 81 yX9_finds, Cond.instanceMethod yX9_finds, Cond.selects RX9 yX9_finds yX9_finds, Cond.code yX9_finds cX9_finds 5 none]
def wsX9_move_r3 : List Cond := [Cond.fieldLink RX9 75 "AnchoredNotesModel" "first" "I", Cond.fieldLink RX9 78 "AnchoredNotesModel" "last" "I", Cond.methodLink RX9 60 yX9_isOf, Cond.instanceMethod yX9_isOf, Cond.selects RX9 yX9_isOf yX9_isOf, Cond.code yX9_isOf cX9_isOf 3 (some .boolean)]
def wsX9_move : List Cond := .code yX9_move cX9_move 5 (some .int) :: ((wsX9_move_r1 ++ (wsX9_move_r2 ++ wsX9_move_r3)) ++ wsX90)
def wsX9_mayNote : List Cond := .code yX9_mayNote cX9_mayNote 4 (some .int) :: ([.fieldLink RX9 7 "AnchoredNotesModel" "now" "[I", .methodLink RX9 112 yX9_maySpan, .instanceMethod yX9_maySpan, .selects RX9 yX9_maySpan yX9_maySpan, .initialized RX9, .code yX9_maySpan cX9_maySpan 3 (some .int), .methodLink RX9 101 yX9_isPlace, .instanceMethod yX9_isPlace, .selects RX9 yX9_isPlace yX9_isPlace, .code yX9_isPlace cX9_isPlace 2 (some .boolean), .methodLink RX9 41 yX9_in, .static yX9_in, .code yX9_in cX9_in 3 (some .boolean)] ++ wsX90)
def wsX9_remembers : List Cond := .code yX9_remembers cX9_remembers 7 none :: ([.fieldLink RX9 7 "AnchoredNotesModel" "now" "[I"] ++ wsX90)
def wsX9_takes : List Cond := .code yX9_takes cX9_takes 5 none :: ([.fieldLink RX9 7 "AnchoredNotesModel" "now" "[I", .methodLink RX9 128 yX9_remembers, .instanceMethod yX9_remembers, .selects RX9 yX9_remembers yX9_remembers, .initialized RX9, .code yX9_remembers cX9_remembers 7 none] ++ wsX90)
def wsX9_notes : List Cond := .code yX9_notes cX9_notes 6 (some .int) :: ([.fieldLink RX9 7 "AnchoredNotesModel" "now" "[I", .methodLink RX9 131 yX9_takes, .instanceMethod yX9_takes, .selects RX9 yX9_takes yX9_takes, .initialized RX9, .code yX9_takes cX9_takes 5 none, .methodLink RX9 128 yX9_remembers, .instanceMethod yX9_remembers, .selects RX9 yX9_remembers yX9_remembers, .code yX9_remembers cX9_remembers 7 none] ++ wsX90)
def wsX9_note_r1 : List Cond := [Cond.methodLink RX9 134 yX9_mayNote, Cond.instanceMethod yX9_mayNote, Cond.selects RX9 yX9_mayNote yX9_mayNote, Cond.initialized RX9, Cond.code yX9_mayNote cX9_mayNote 4 (some .int), Cond.fieldLink RX9 7 "AnchoredNotesModel" "now" "[I", Cond.methodLink RX9 112 yX9_maySpan, Cond.instanceMethod yX9_maySpan, Cond.selects RX9 yX9_maySpan yX9_maySpan, Cond.code yX9_maySpan cX9_maySpan 3 (some .int), Cond.methodLink RX9 101 yX9_isPlace, Cond.instanceMethod yX9_isPlace, Cond.selects RX9 yX9_isPlace yX9_isPlace, Cond.code yX9_isPlace cX9_isPlace 2 (some .boolean), Cond.methodLink RX9 41 yX9_in, Cond.static yX9_in, Cond.code yX9_in cX9_in 3 (some .boolean), Cond.methodLink RX9 57 yX9_records, Cond.instanceMethod yX9_records, Cond.selects RX9 yX9_records yX9_records, Cond.code yX9_records cX9_records 2 none, Cond.fieldLink RX9 49 "AnchoredNotesModel" "kept" "I", Cond.fieldLink RX9 13 "AnchoredNotesModel" "past" "[I", Cond.methodLink RX9 53 yX9_lays]
def wsX9_note_r2 : List Cond := [Cond.static yX9_lays, Cond.code yX9_lays cX9_lays 5 none, Cond.methodLink RX9 137 yX9_notes, Cond.instanceMethod yX9_notes, Cond.selects RX9 yX9_notes yX9_notes, Cond.code yX9_notes cX9_notes 6 (some .int), Cond.methodLink RX9 131 yX9_takes, Cond.instanceMethod yX9_takes, Cond.selects RX9 yX9_takes yX9_takes, Cond.code yX9_takes cX9_takes 5 none, Cond.methodLink RX9 128 yX9_remembers, Cond.instanceMethod yX9_remembers, Cond.selects RX9 yX9_remembers yX9_remembers, Cond.code yX9_remembers cX9_remembers 7 none]
def wsX9_note : List Cond := .code yX9_note cX9_note 4 (some .int) :: ((wsX9_note_r1 ++ wsX9_note_r2) ++ wsX90)
def wsX9_mayReply : List Cond := .code yX9_mayReply cX9_mayReply 2 (some .int) :: ([.fieldLink RX9 7 "AnchoredNotesModel" "now" "[I", .methodLink RX9 140 yX9_isNote, .instanceMethod yX9_isNote, .selects RX9 yX9_isNote yX9_isNote, .initialized RX9, .code yX9_isNote cX9_isNote 2 (some .boolean), .methodLink RX9 41 yX9_in, .static yX9_in, .code yX9_in cX9_in 3 (some .boolean)] ++ wsX90)
def wsX9_replies : List Cond := .code yX9_replies cX9_replies 3 (some .int) :: ([.fieldLink RX9 7 "AnchoredNotesModel" "now" "[I"] ++ wsX90)
def wsX9_reply_r1 : List Cond := [Cond.methodLink RX9 143 yX9_mayReply, Cond.instanceMethod yX9_mayReply, Cond.selects RX9 yX9_mayReply yX9_mayReply, Cond.initialized RX9, Cond.code yX9_mayReply cX9_mayReply 2 (some .int), Cond.fieldLink RX9 7 "AnchoredNotesModel" "now" "[I", Cond.methodLink RX9 140 yX9_isNote, Cond.instanceMethod yX9_isNote, Cond.selects RX9 yX9_isNote yX9_isNote, Cond.code yX9_isNote cX9_isNote 2 (some .boolean), Cond.methodLink RX9 41 yX9_in, Cond.static yX9_in, Cond.code yX9_in cX9_in 3 (some .boolean), Cond.methodLink RX9 57 yX9_records, Cond.instanceMethod yX9_records, Cond.selects RX9 yX9_records yX9_records, Cond.code yX9_records cX9_records 2 none, Cond.fieldLink RX9 49 "AnchoredNotesModel" "kept" "I", Cond.fieldLink RX9 13 "AnchoredNotesModel" "past" "[I", Cond.methodLink RX9 53 yX9_lays, Cond.static yX9_lays, Cond.code yX9_lays cX9_lays 5 none, Cond.methodLink RX9 146 yX9_replies, Cond.instanceMethod yX9_replies]
def wsX9_reply_r2 : List Cond := [Cond.selects RX9 yX9_replies yX9_replies, Cond.code yX9_replies cX9_replies 3 (some .int)]
def wsX9_reply : List Cond := .code yX9_reply cX9_reply 3 (some .int) :: ((wsX9_reply_r1 ++ wsX9_reply_r2) ++ wsX90)
def wsX9_noteGoes : List Cond := .code yX9_noteGoes cX9_noteGoes 5 none :: ([.fieldLink RX9 7 "AnchoredNotesModel" "now" "[I", .methodLink RX9 45 yX9_of0, .instanceMethod yX9_of0, .selects RX9 yX9_of0 yX9_of0, .initialized RX9, .code yX9_of0 cX9_of0 3 (some .int)] ++ wsX90)
def wsX9_drops : List Cond := .code yX9_drops cX9_drops 4 (some .int) :: ([.fieldLink RX9 7 "AnchoredNotesModel" "now" "[I", .methodLink RX9 88 yX9_isBelow, .instanceMethod yX9_isBelow, .selects RX9 yX9_isBelow yX9_isBelow, .initialized RX9, .code yX9_isBelow cX9_isBelow 4 (some .boolean), .methodLink RX9 64 yX9_isReply, .instanceMethod yX9_isReply, .selects RX9 yX9_isReply yX9_isReply, .code yX9_isReply cX9_isReply 2 (some .boolean), .methodLink RX9 45 yX9_of0, .instanceMethod yX9_of0, .selects RX9 yX9_of0 yX9_of0, .code yX9_of0 cX9_of0 3 (some .int), .methodLink RX9 149 yX9_noteGoes, .instanceMethod yX9_noteGoes, .selects RX9 yX9_noteGoes yX9_noteGoes, .code yX9_noteGoes cX9_noteGoes 5 none] ++ wsX90)
def wsX9_drop_r1 : List Cond := [Cond.methodLink RX9 140 yX9_isNote, Cond.instanceMethod yX9_isNote, Cond.selects RX9 yX9_isNote yX9_isNote, Cond.initialized RX9, Cond.code yX9_isNote cX9_isNote 2 (some .boolean), Cond.fieldLink RX9 7 "AnchoredNotesModel" "now" "[I", Cond.methodLink RX9 41 yX9_in, Cond.static yX9_in, Cond.code yX9_in cX9_in 3 (some .boolean), Cond.methodLink RX9 57 yX9_records, Cond.instanceMethod yX9_records, Cond.selects RX9 yX9_records yX9_records, Cond.code yX9_records cX9_records 2 none, Cond.fieldLink RX9 49 "AnchoredNotesModel" "kept" "I", Cond.fieldLink RX9 13 "AnchoredNotesModel" "past" "[I", Cond.methodLink RX9 53 yX9_lays, Cond.static yX9_lays, Cond.code yX9_lays cX9_lays 5 none, Cond.methodLink RX9 152 yX9_drops, Cond.instanceMethod yX9_drops, Cond.selects RX9 yX9_drops yX9_drops, Cond.code yX9_drops cX9_drops 4 (some .int), Cond.methodLink RX9 88 yX9_isBelow, Cond.instanceMethod yX9_isBelow]
def wsX9_drop_r2 : List Cond := [Cond.selects RX9 yX9_isBelow yX9_isBelow, Cond.code yX9_isBelow cX9_isBelow 4 (some .boolean), Cond.methodLink RX9 64 yX9_isReply, Cond.instanceMethod yX9_isReply, Cond.selects RX9 yX9_isReply yX9_isReply, Cond.code yX9_isReply cX9_isReply 2 (some .boolean), Cond.methodLink RX9 45 yX9_of0, Cond.instanceMethod yX9_of0, Cond.selects RX9 yX9_of0 yX9_of0, Cond.code yX9_of0 cX9_of0 3 (some .int), Cond.methodLink RX9 149 yX9_noteGoes, Cond.instanceMethod yX9_noteGoes, Cond.selects RX9 yX9_noteGoes yX9_noteGoes, Cond.code yX9_noteGoes cX9_noteGoes 5 none]
def wsX9_drop : List Cond := .code yX9_drop cX9_drop 2 (some .int) :: ((wsX9_drop_r1 ++ wsX9_drop_r2) ++ wsX90)
def wsX9_looksLike : List Cond := .code yX9_looksLike cX9_looksLike 6 (some .boolean) :: ([.fieldLink RX9 7 "AnchoredNotesModel" "now" "[I", .methodLink RX9 45 yX9_of0, .instanceMethod yX9_of0, .selects RX9 yX9_of0 yX9_of0, .initialized RX9, .code yX9_of0 cX9_of0 3 (some .int)] ++ wsX90)
def wsX9_likeness : List Cond := .code yX9_likeness cX9_likeness 6 (some .int) :: ([.fieldLink RX9 7 "AnchoredNotesModel" "now" "[I", .methodLink RX9 45 yX9_of0, .instanceMethod yX9_of0, .selects RX9 yX9_of0 yX9_of0, .initialized RX9, .code yX9_of0 cX9_of0 3 (some .int)] ++ wsX90)
def wsX9_possible : List Cond := .code yX9_possible cX9_possible 7 (some .int) :: ([.fieldLink RX9 7 "AnchoredNotesModel" "now" "[I", .methodLink RX9 155 yX9_looksLike, .instanceMethod yX9_looksLike, .selects RX9 yX9_looksLike yX9_looksLike, .initialized RX9, .code yX9_looksLike cX9_looksLike 6 (some .boolean), .methodLink RX9 45 yX9_of0, .instanceMethod yX9_of0, .selects RX9 yX9_of0 yX9_of0, .code yX9_of0 cX9_of0 3 (some .int), .methodLink RX9 158 yX9_likeness, .instanceMethod yX9_likeness, .selects RX9 yX9_likeness yX9_likeness, .code yX9_likeness cX9_likeness 6 (some .int)] ++ wsX90)
def wsX9_mayReclaim_r1 : List Cond := [Cond.methodLink RX9 140 yX9_isNote, Cond.instanceMethod yX9_isNote, Cond.selects RX9 yX9_isNote yX9_isNote, Cond.initialized RX9, Cond.code yX9_isNote cX9_isNote 2 (some .boolean), Cond.fieldLink RX9 7 "AnchoredNotesModel" "now" "[I", Cond.methodLink RX9 41 yX9_in, Cond.static yX9_in, Cond.code yX9_in cX9_in 3 (some .boolean), Cond.methodLink RX9 85 yX9_isOrphan, Cond.instanceMethod yX9_isOrphan, Cond.selects RX9 yX9_isOrphan yX9_isOrphan, Cond.code yX9_isOrphan cX9_isOrphan 2 (some .boolean), Cond.methodLink RX9 64 yX9_isReply, Cond.instanceMethod yX9_isReply, Cond.selects RX9 yX9_isReply yX9_isReply, Cond.code yX9_isReply cX9_isReply 2 (some .boolean), Cond.methodLink RX9 45 yX9_of0, Cond.instanceMethod yX9_of0, Cond.selects RX9 yX9_of0 yX9_of0, Cond.code yX9_of0 cX9_of0 3 (some .int), Cond.methodLink RX9 68 yX9_present, Cond.instanceMethod yX9_present, Cond.selects RX9 yX9_present yX9_present]
def wsX9_mayReclaim_r2 : List Cond := [Cond.code yX9_present cX9_present 4 (some .int), Cond.methodLink RX9 60 yX9_isOf, Cond.instanceMethod yX9_isOf, Cond.selects RX9 yX9_isOf yX9_isOf, Cond.code yX9_isOf cX9_isOf 3 (some .boolean), Cond.methodLink RX9 161 yX9_possible, Cond.instanceMethod yX9_possible, Cond.selects RX9 yX9_possible yX9_possible, Cond.code yX9_possible cX9_possible 7 (some .int), Cond.methodLink RX9 155 yX9_looksLike, Cond.instanceMethod yX9_looksLike, Cond.selects RX9 yX9_looksLike yX9_looksLike, Cond.code yX9_looksLike cX9_looksLike 6 (some .boolean), Cond.methodLink RX9 158 yX9_likeness, Cond.instanceMethod yX9_likeness, Cond.selects RX9 yX9_likeness yX9_likeness, Cond.code yX9_likeness cX9_likeness 6 (some .int)]
def wsX9_mayReclaim : List Cond := .code yX9_mayReclaim cX9_mayReclaim 2 (some .int) :: ((wsX9_mayReclaim_r1 ++ wsX9_mayReclaim_r2) ++ wsX90)
def wsX9_reclaims_r1 : List Cond := [Cond.methodLink RX9 161 yX9_possible, Cond.instanceMethod yX9_possible, Cond.selects RX9 yX9_possible yX9_possible, Cond.initialized RX9, Cond.code yX9_possible cX9_possible 7 (some .int), Cond.fieldLink RX9 7 "AnchoredNotesModel" "now" "[I", Cond.methodLink RX9 155 yX9_looksLike, Cond.instanceMethod yX9_looksLike, Cond.selects RX9 yX9_looksLike yX9_looksLike, Cond.code yX9_looksLike cX9_looksLike 6 (some .boolean), Cond.methodLink RX9 45 yX9_of0, Cond.instanceMethod yX9_of0, Cond.selects RX9 yX9_of0 yX9_of0, Cond.code yX9_of0 cX9_of0 3 (some .int), Cond.methodLink RX9 158 yX9_likeness, Cond.instanceMethod yX9_likeness, Cond.selects RX9 yX9_likeness yX9_likeness, Cond.code yX9_likeness cX9_likeness 6 (some .int), Cond.methodLink RX9 131 yX9_takes, Cond.instanceMethod yX9_takes, Cond.selects RX9 yX9_takes yX9_takes, Cond.code yX9_takes cX9_takes 5 none, Cond.methodLink RX9 128 yX9_remembers, Cond.instanceMethod yX9_remembers]
def wsX9_reclaims_r2 : List Cond := [Cond.selects RX9 yX9_remembers yX9_remembers, Cond.code yX9_remembers cX9_remembers 7 none]
def wsX9_reclaims : List Cond := .code yX9_reclaims cX9_reclaims 3 (some .int) :: ((wsX9_reclaims_r1 ++ wsX9_reclaims_r2) ++ wsX90)
def wsX9_reclaim_r1 : List Cond := [Cond.methodLink RX9 164 yX9_mayReclaim, Cond.instanceMethod yX9_mayReclaim, Cond.selects RX9 yX9_mayReclaim yX9_mayReclaim, Cond.initialized RX9, Cond.code yX9_mayReclaim cX9_mayReclaim 2 (some .int), Cond.methodLink RX9 140 yX9_isNote, Cond.instanceMethod yX9_isNote, Cond.selects RX9 yX9_isNote yX9_isNote, Cond.code yX9_isNote cX9_isNote 2 (some .boolean), Cond.fieldLink RX9 7 "AnchoredNotesModel" "now" "[I", Cond.methodLink RX9 41 yX9_in, Cond.static yX9_in, Cond.code yX9_in cX9_in 3 (some .boolean), Cond.methodLink RX9 85 yX9_isOrphan, Cond.instanceMethod yX9_isOrphan, Cond.selects RX9 yX9_isOrphan yX9_isOrphan, Cond.code yX9_isOrphan cX9_isOrphan 2 (some .boolean), Cond.methodLink RX9 64 yX9_isReply, Cond.instanceMethod yX9_isReply, Cond.selects RX9 yX9_isReply yX9_isReply, Cond.code yX9_isReply cX9_isReply 2 (some .boolean), Cond.methodLink RX9 45 yX9_of0, Cond.instanceMethod yX9_of0, Cond.selects RX9 yX9_of0 yX9_of0]
def wsX9_reclaim_r2 : List Cond := [Cond.code yX9_of0 cX9_of0 3 (some .int), Cond.methodLink RX9 68 yX9_present, Cond.instanceMethod yX9_present, Cond.selects RX9 yX9_present yX9_present, Cond.code yX9_present cX9_present 4 (some .int), Cond.methodLink RX9 60 yX9_isOf, Cond.instanceMethod yX9_isOf, Cond.selects RX9 yX9_isOf yX9_isOf, Cond.code yX9_isOf cX9_isOf 3 (some .boolean), Cond.methodLink RX9 161 yX9_possible, Cond.instanceMethod yX9_possible, Cond.selects RX9 yX9_possible yX9_possible, Cond.code yX9_possible cX9_possible 7 (some .int), Cond.methodLink RX9 155 yX9_looksLike, Cond.instanceMethod yX9_looksLike, Cond.selects RX9 yX9_looksLike yX9_looksLike, Cond.code yX9_looksLike cX9_looksLike 6 (some .boolean), Cond.methodLink RX9 158 yX9_likeness, Cond.instanceMethod yX9_likeness, Cond.selects RX9 yX9_likeness yX9_likeness, Cond.code yX9_likeness cX9_likeness 6 (some .int), Cond.methodLink RX9 57 yX9_records, Cond.instanceMethod yX9_records, Cond.selects RX9 yX9_records yX9_records]
def wsX9_reclaim_r3 : List Cond := [Cond.code yX9_records cX9_records 2 none, Cond.fieldLink RX9 49 "AnchoredNotesModel" "kept" "I", Cond.fieldLink RX9 13 "AnchoredNotesModel" "past" "[I", Cond.methodLink RX9 53 yX9_lays, Cond.static yX9_lays, Cond.code yX9_lays cX9_lays 5 none, Cond.methodLink RX9 167 yX9_reclaims, Cond.instanceMethod yX9_reclaims, Cond.selects RX9 yX9_reclaims yX9_reclaims, Cond.code yX9_reclaims cX9_reclaims 3 (some .int), Cond.methodLink RX9 131 yX9_takes, Cond.instanceMethod yX9_takes, Cond.selects RX9 yX9_takes yX9_takes, Cond.code yX9_takes cX9_takes 5 none, Cond.methodLink RX9 128 yX9_remembers, Cond.instanceMethod yX9_remembers, Cond.selects RX9 yX9_remembers yX9_remembers, Cond.code yX9_remembers cX9_remembers 7 none]
def wsX9_reclaim : List Cond := .code yX9_reclaim cX9_reclaim 3 (some .int) :: ((wsX9_reclaim_r1 ++ (wsX9_reclaim_r2 ++ wsX9_reclaim_r3)) ++ wsX90)
def wsX9_prints : List Cond := .code yX9_prints cX9_prints 5 none :: ([.fieldLink RX9 35 "AnchoredNotesModel" "full" "[I", .fieldLink RX9 7 "AnchoredNotesModel" "now" "[I", .fieldLink RX9 29 "AnchoredNotesModel" "lines" "[I", .fieldLink RX9 75 "AnchoredNotesModel" "first" "I", .fieldLink RX9 32 "AnchoredNotesModel" "own" "[I", .methodLink RX9 81 yX9_finds, .instanceMethod yX9_finds, .selects RX9 yX9_finds yX9_finds, .initialized RX9, .code yX9_finds cX9_finds 5 none, .fieldLink RX9 72 "AnchoredNotesModel" "pieces" "I", .fieldLink RX9 78 "AnchoredNotesModel" "last" "I", .methodLink RX9 60 yX9_isOf, .instanceMethod yX9_isOf, .selects RX9 yX9_isOf yX9_isOf, .code yX9_isOf cX9_isOf 3 (some .boolean)] ++ wsX90)
def wsX9_leaders : List Cond := .code yX9_leaders cX9_leaders 6 (some .int) :: ([.fieldLink RX9 7 "AnchoredNotesModel" "now" "[I", .fieldLink RX9 29 "AnchoredNotesModel" "lines" "[I", .fieldLink RX9 32 "AnchoredNotesModel" "own" "[I"] ++ wsX90)
def wsX9_lastLine : List Cond := .code yX9_lastLine cX9_lastLine 3 (some .int) :: ([.fieldLink RX9 7 "AnchoredNotesModel" "now" "[I", .fieldLink RX9 29 "AnchoredNotesModel" "lines" "[I"] ++ wsX90)
def wsX9_letter : List Cond := .code yX9_letter cX9_letter 2 (some .int) :: ([.fieldLink RX9 7 "AnchoredNotesModel" "now" "[I", .methodLink RX9 101 yX9_isPlace, .instanceMethod yX9_isPlace, .selects RX9 yX9_isPlace yX9_isPlace, .initialized RX9, .code yX9_isPlace cX9_isPlace 2 (some .boolean), .methodLink RX9 41 yX9_in, .static yX9_in, .code yX9_in cX9_in 3 (some .boolean)] ++ wsX90)
def wsX9_ofNote_r1 : List Cond := [Cond.fieldLink RX9 75 "AnchoredNotesModel" "first" "I", Cond.fieldLink RX9 78 "AnchoredNotesModel" "last" "I", Cond.fieldLink RX9 72 "AnchoredNotesModel" "pieces" "I", Cond.methodLink RX9 64 yX9_isReply, Cond.instanceMethod yX9_isReply, Cond.selects RX9 yX9_isReply yX9_isReply, Cond.initialized RX9, Cond.code yX9_isReply cX9_isReply 2 (some .boolean), Cond.methodLink RX9 45 yX9_of0, Cond.instanceMethod yX9_of0, Cond.selects RX9 yX9_of0 yX9_of0, Cond.code yX9_of0 cX9_of0 3 (some .int), Cond.fieldLink RX9 7 "AnchoredNotesModel" "now" "[I", Cond.methodLink RX9 85 yX9_isOrphan, Cond.instanceMethod yX9_isOrphan, Cond.selects RX9 yX9_isOrphan yX9_isOrphan, Cond.code yX9_isOrphan cX9_isOrphan 2 (some .boolean), Cond.methodLink RX9 68 yX9_present, Cond.instanceMethod yX9_present, Cond.selects RX9 yX9_present yX9_present, Cond.code yX9_present cX9_present 4 (some .int), Cond.methodLink RX9 60 yX9_isOf, Cond.instanceMethod yX9_isOf, Cond.selects RX9 yX9_isOf yX9_isOf]
def wsX9_ofNote_r2 : List Cond := [Cond.code yX9_isOf cX9_isOf 3 (some .boolean), Cond.methodLink RX9 170 yX9_rootOf, Cond.instanceMethod yX9_rootOf, Cond.selects RX9 yX9_rootOf yX9_rootOf, Cond.code yX9_rootOf cX9_rootOf 5 (some .int), Cond.methodLink RX9 81 yX9_finds, Cond.instanceMethod yX9_finds, Cond.selects RX9 yX9_finds yX9_finds, Cond.code yX9_finds cX9_finds 5 none, Cond.methodLink RX9 174 yX9_below, Cond.instanceMethod yX9_below, Cond.selects RX9 yX9_below yX9_below, Cond.code yX9_below cX9_below 4 (some .int), Cond.methodLink RX9 88 yX9_isBelow, Cond.instanceMethod yX9_isBelow, Cond.selects RX9 yX9_isBelow yX9_isBelow, Cond.code yX9_isBelow cX9_isBelow 4 (some .boolean)]
def wsX9_ofNote : List Cond := .code yX9_ofNote cX9_ofNote 3 (some .int) :: ((wsX9_ofNote_r1 ++ wsX9_ofNote_r2) ++ wsX90)
def wsX9_of_r1 : List Cond := [Cond.methodLink RX9 140 yX9_isNote, Cond.instanceMethod yX9_isNote, Cond.selects RX9 yX9_isNote yX9_isNote, Cond.initialized RX9, Cond.code yX9_isNote cX9_isNote 2 (some .boolean), Cond.fieldLink RX9 7 "AnchoredNotesModel" "now" "[I", Cond.methodLink RX9 41 yX9_in, Cond.static yX9_in, Cond.code yX9_in cX9_in 3 (some .boolean), Cond.methodLink RX9 177 yX9_ofNote, Cond.instanceMethod yX9_ofNote, Cond.selects RX9 yX9_ofNote yX9_ofNote, Cond.code yX9_ofNote cX9_ofNote 3 (some .int), Cond.fieldLink RX9 75 "AnchoredNotesModel" "first" "I", Cond.fieldLink RX9 78 "AnchoredNotesModel" "last" "I", Cond.fieldLink RX9 72 "AnchoredNotesModel" "pieces" "I", Cond.methodLink RX9 64 yX9_isReply, Cond.instanceMethod yX9_isReply, Cond.selects RX9 yX9_isReply yX9_isReply, Cond.code yX9_isReply cX9_isReply 2 (some .boolean), Cond.methodLink RX9 45 yX9_of0, Cond.instanceMethod yX9_of0, Cond.selects RX9 yX9_of0 yX9_of0, Cond.code yX9_of0 cX9_of0 3 (some .int)]
def wsX9_of_r2 : List Cond := [Cond.methodLink RX9 85 yX9_isOrphan, Cond.instanceMethod yX9_isOrphan, Cond.selects RX9 yX9_isOrphan yX9_isOrphan, Cond.code yX9_isOrphan cX9_isOrphan 2 (some .boolean), Cond.methodLink RX9 68 yX9_present, Cond.instanceMethod yX9_present, Cond.selects RX9 yX9_present yX9_present, Cond.code yX9_present cX9_present 4 (some .int), Cond.methodLink RX9 60 yX9_isOf, Cond.instanceMethod yX9_isOf, Cond.selects RX9 yX9_isOf yX9_isOf, Cond.code yX9_isOf cX9_isOf 3 (some .boolean), Cond.methodLink RX9 170 yX9_rootOf, Cond.instanceMethod yX9_rootOf, Cond.selects RX9 yX9_rootOf yX9_rootOf, Cond.code yX9_rootOf cX9_rootOf 5 (some .int), Cond.methodLink RX9 81 yX9_finds, Cond.instanceMethod yX9_finds, Cond.selects RX9 yX9_finds yX9_finds, Cond.code yX9_finds cX9_finds 5 none, Cond.methodLink RX9 174 yX9_below, Cond.instanceMethod yX9_below, Cond.selects RX9 yX9_below yX9_below, Cond.code yX9_below cX9_below 4 (some .int)]
def wsX9_of_r3 : List Cond := [Cond.methodLink RX9 88 yX9_isBelow, Cond.instanceMethod yX9_isBelow, Cond.selects RX9 yX9_isBelow yX9_isBelow, Cond.code yX9_isBelow cX9_isBelow 4 (some .boolean)]
def wsX9_of : List Cond := .code yX9_of cX9_of 3 (some .int) :: ((wsX9_of_r1 ++ (wsX9_of_r2 ++ wsX9_of_r3)) ++ wsX90)
def wsX9_word : List Cond := .code yX9_word cX9_word 3 (some .int) :: ([.methodLink RX9 140 yX9_isNote, .instanceMethod yX9_isNote, .selects RX9 yX9_isNote yX9_isNote, .initialized RX9, .code yX9_isNote cX9_isNote 2 (some .boolean), .fieldLink RX9 7 "AnchoredNotesModel" "now" "[I", .methodLink RX9 41 yX9_in, .static yX9_in, .code yX9_in cX9_in 3 (some .boolean), .methodLink RX9 64 yX9_isReply, .instanceMethod yX9_isReply, .selects RX9 yX9_isReply yX9_isReply, .code yX9_isReply cX9_isReply 2 (some .boolean), .methodLink RX9 45 yX9_of0, .instanceMethod yX9_of0, .selects RX9 yX9_of0 yX9_of0, .code yX9_of0 cX9_of0 3 (some .int)] ++ wsX90)
def wsX9_at : List Cond := .code yX9_at cX9_at 2 (some .int) :: ([.fieldLink RX9 7 "AnchoredNotesModel" "now" "[I", .methodLink RX9 101 yX9_isPlace, .instanceMethod yX9_isPlace, .selects RX9 yX9_isPlace yX9_isPlace, .initialized RX9, .code yX9_isPlace cX9_isPlace 2 (some .boolean), .methodLink RX9 41 yX9_in, .static yX9_in, .code yX9_in cX9_in 3 (some .boolean)] ++ wsX90)
def wsX9_printed_r1 : List Cond := [Cond.fieldLink RX9 7 "AnchoredNotesModel" "now" "[I", Cond.fieldLink RX9 29 "AnchoredNotesModel" "lines" "[I", Cond.fieldLink RX9 32 "AnchoredNotesModel" "own" "[I", Cond.methodLink RX9 140 yX9_isNote, Cond.instanceMethod yX9_isNote, Cond.selects RX9 yX9_isNote yX9_isNote, Cond.initialized RX9, Cond.code yX9_isNote cX9_isNote 2 (some .boolean), Cond.methodLink RX9 41 yX9_in, Cond.static yX9_in, Cond.code yX9_in cX9_in 3 (some .boolean), Cond.methodLink RX9 180 yX9_prints, Cond.instanceMethod yX9_prints, Cond.selects RX9 yX9_prints yX9_prints, Cond.code yX9_prints cX9_prints 5 none, Cond.fieldLink RX9 35 "AnchoredNotesModel" "full" "[I", Cond.fieldLink RX9 75 "AnchoredNotesModel" "first" "I", Cond.methodLink RX9 81 yX9_finds, Cond.instanceMethod yX9_finds, Cond.selects RX9 yX9_finds yX9_finds, Cond.code yX9_finds cX9_finds 5 none, Cond.fieldLink RX9 72 "AnchoredNotesModel" "pieces" "I", Cond.fieldLink RX9 78 "AnchoredNotesModel" "last" "I", Cond.methodLink RX9 60 yX9_isOf]
def wsX9_printed_r2 : List Cond := [Cond.instanceMethod yX9_isOf, Cond.selects RX9 yX9_isOf yX9_isOf, Cond.code yX9_isOf cX9_isOf 3 (some .boolean)]
def wsX9_printed : List Cond := .code yX9_printed cX9_printed 3 (some .int) :: ((wsX9_printed_r1 ++ wsX9_printed_r2) ++ wsX90)
def wsX9_replyCount : List Cond := .code yX9_replyCount cX9_replyCount 3 (some .int) :: ([.fieldLink RX9 7 "AnchoredNotesModel" "now" "[I", .methodLink RX9 64 yX9_isReply, .instanceMethod yX9_isReply, .selects RX9 yX9_isReply yX9_isReply, .initialized RX9, .code yX9_isReply cX9_isReply 2 (some .boolean), .methodLink RX9 45 yX9_of0, .instanceMethod yX9_of0, .selects RX9 yX9_of0 yX9_of0, .code yX9_of0 cX9_of0 3 (some .int)] ++ wsX90)
def wsX9_count_r1 : List Cond := [Cond.fieldLink RX9 7 "AnchoredNotesModel" "now" "[I", Cond.fieldLink RX9 186 "AnchoredNotesModel" "padded" "I", Cond.fieldLink RX9 49 "AnchoredNotesModel" "kept" "I", Cond.methodLink RX9 41 yX9_in, Cond.static yX9_in, Cond.initialized RX9, Cond.code yX9_in cX9_in 3 (some .boolean), Cond.methodLink RX9 104 yX9_orphans, Cond.instanceMethod yX9_orphans, Cond.selects RX9 yX9_orphans yX9_orphans, Cond.code yX9_orphans cX9_orphans 3 (some .int), Cond.methodLink RX9 85 yX9_isOrphan, Cond.instanceMethod yX9_isOrphan, Cond.selects RX9 yX9_isOrphan yX9_isOrphan, Cond.code yX9_isOrphan cX9_isOrphan 2 (some .boolean), Cond.methodLink RX9 64 yX9_isReply, Cond.instanceMethod yX9_isReply, Cond.selects RX9 yX9_isReply yX9_isReply, Cond.code yX9_isReply cX9_isReply 2 (some .boolean), Cond.methodLink RX9 45 yX9_of0, Cond.instanceMethod yX9_of0, Cond.selects RX9 yX9_of0 yX9_of0, Cond.code yX9_of0 cX9_of0 3 (some .int), Cond.methodLink RX9 68 yX9_present]
def wsX9_count_r2 : List Cond := [Cond.instanceMethod yX9_present, Cond.selects RX9 yX9_present yX9_present, Cond.code yX9_present cX9_present 4 (some .int), Cond.methodLink RX9 60 yX9_isOf, Cond.instanceMethod yX9_isOf, Cond.selects RX9 yX9_isOf yX9_isOf, Cond.code yX9_isOf cX9_isOf 3 (some .boolean), Cond.methodLink RX9 183 yX9_replyCount, Cond.instanceMethod yX9_replyCount, Cond.selects RX9 yX9_replyCount yX9_replyCount, Cond.code yX9_replyCount cX9_replyCount 3 (some .int), Cond.methodLink RX9 180 yX9_prints, Cond.instanceMethod yX9_prints, Cond.selects RX9 yX9_prints yX9_prints, Cond.code yX9_prints cX9_prints 5 none, Cond.fieldLink RX9 35 "AnchoredNotesModel" "full" "[I", Cond.fieldLink RX9 29 "AnchoredNotesModel" "lines" "[I", Cond.fieldLink RX9 75 "AnchoredNotesModel" "first" "I", Cond.fieldLink RX9 32 "AnchoredNotesModel" "own" "[I", Cond.methodLink RX9 81 yX9_finds, Cond.instanceMethod yX9_finds, Cond.selects RX9 yX9_finds yX9_finds, Cond.code yX9_finds cX9_finds 5 none, Cond.fieldLink RX9 72 "AnchoredNotesModel" "pieces" "I"]
def wsX9_count_r3 : List Cond := [Cond.fieldLink RX9 78 "AnchoredNotesModel" "last" "I", Cond.methodLink RX9 125 yX9_torn, Cond.instanceMethod yX9_torn, Cond.selects RX9 yX9_torn yX9_torn, Cond.code yX9_torn cX9_torn 3 (some .int), Cond.methodLink RX9 189 yX9_lastLine, Cond.instanceMethod yX9_lastLine, Cond.selects RX9 yX9_lastLine yX9_lastLine, Cond.code yX9_lastLine cX9_lastLine 3 (some .int), Cond.methodLink RX9 192 yX9_leaders, Cond.instanceMethod yX9_leaders, Cond.selects RX9 yX9_leaders yX9_leaders, Cond.code yX9_leaders cX9_leaders 6 (some .int)]
def wsX9_count : List Cond := .code yX9_count cX9_count 2 (some .int) :: ((wsX9_count_r1 ++ (wsX9_count_r2 ++ wsX9_count_r3)) ++ wsX90)
def wsX9_orphansIf : List Cond := .code yX9_orphansIf cX9_orphansIf 7 (some .int) :: ([.fieldLink RX9 7 "AnchoredNotesModel" "now" "[I", .methodLink RX9 112 yX9_maySpan, .instanceMethod yX9_maySpan, .selects RX9 yX9_maySpan yX9_maySpan, .initialized RX9, .code yX9_maySpan cX9_maySpan 3 (some .int), .methodLink RX9 101 yX9_isPlace, .instanceMethod yX9_isPlace, .selects RX9 yX9_isPlace yX9_isPlace, .code yX9_isPlace cX9_isPlace 2 (some .boolean), .methodLink RX9 41 yX9_in, .static yX9_in, .code yX9_in cX9_in 3 (some .boolean)] ++ wsX90)
def wsX9_could_r1 : List Cond := [Cond.methodLink RX9 140 yX9_isNote, Cond.instanceMethod yX9_isNote, Cond.selects RX9 yX9_isNote yX9_isNote, Cond.initialized RX9, Cond.code yX9_isNote cX9_isNote 2 (some .boolean), Cond.fieldLink RX9 7 "AnchoredNotesModel" "now" "[I", Cond.methodLink RX9 41 yX9_in, Cond.static yX9_in, Cond.code yX9_in cX9_in 3 (some .boolean), Cond.methodLink RX9 85 yX9_isOrphan, Cond.instanceMethod yX9_isOrphan, Cond.selects RX9 yX9_isOrphan yX9_isOrphan, Cond.code yX9_isOrphan cX9_isOrphan 2 (some .boolean), Cond.methodLink RX9 64 yX9_isReply, Cond.instanceMethod yX9_isReply, Cond.selects RX9 yX9_isReply yX9_isReply, Cond.code yX9_isReply cX9_isReply 2 (some .boolean), Cond.methodLink RX9 45 yX9_of0, Cond.instanceMethod yX9_of0, Cond.selects RX9 yX9_of0 yX9_of0, Cond.code yX9_of0 cX9_of0 3 (some .int), Cond.methodLink RX9 68 yX9_present, Cond.instanceMethod yX9_present, Cond.selects RX9 yX9_present yX9_present]
def wsX9_could_r2 : List Cond := [Cond.code yX9_present cX9_present 4 (some .int), Cond.methodLink RX9 60 yX9_isOf, Cond.instanceMethod yX9_isOf, Cond.selects RX9 yX9_isOf yX9_isOf, Cond.code yX9_isOf cX9_isOf 3 (some .boolean), Cond.methodLink RX9 161 yX9_possible, Cond.instanceMethod yX9_possible, Cond.selects RX9 yX9_possible yX9_possible, Cond.code yX9_possible cX9_possible 7 (some .int), Cond.methodLink RX9 155 yX9_looksLike, Cond.instanceMethod yX9_looksLike, Cond.selects RX9 yX9_looksLike yX9_looksLike, Cond.code yX9_looksLike cX9_looksLike 6 (some .boolean), Cond.methodLink RX9 158 yX9_likeness, Cond.instanceMethod yX9_likeness, Cond.selects RX9 yX9_likeness yX9_likeness, Cond.code yX9_likeness cX9_likeness 6 (some .int)]
def wsX9_could : List Cond := .code yX9_could cX9_could 3 (some .int) :: ((wsX9_could_r1 ++ wsX9_could_r2) ++ wsX90)
def wsX9_leastRoom_r1 : List Cond := [Cond.methodLink RX9 41 yX9_in, Cond.static yX9_in, Cond.initialized RX9, Cond.code yX9_in cX9_in 3 (some .boolean), Cond.methodLink RX9 180 yX9_prints, Cond.instanceMethod yX9_prints, Cond.selects RX9 yX9_prints yX9_prints, Cond.code yX9_prints cX9_prints 5 none, Cond.fieldLink RX9 35 "AnchoredNotesModel" "full" "[I", Cond.fieldLink RX9 7 "AnchoredNotesModel" "now" "[I", Cond.fieldLink RX9 29 "AnchoredNotesModel" "lines" "[I", Cond.fieldLink RX9 75 "AnchoredNotesModel" "first" "I", Cond.fieldLink RX9 32 "AnchoredNotesModel" "own" "[I", Cond.methodLink RX9 81 yX9_finds, Cond.instanceMethod yX9_finds, Cond.selects RX9 yX9_finds yX9_finds, Cond.code yX9_finds cX9_finds 5 none, Cond.fieldLink RX9 72 "AnchoredNotesModel" "pieces" "I", Cond.fieldLink RX9 78 "AnchoredNotesModel" "last" "I", Cond.methodLink RX9 60 yX9_isOf, Cond.instanceMethod yX9_isOf, Cond.selects RX9 yX9_isOf yX9_isOf, Cond.code yX9_isOf cX9_isOf 3 (some .boolean), Cond.methodLink RX9 192 yX9_leaders]
def wsX9_leastRoom_r2 : List Cond := [Cond.instanceMethod yX9_leaders, Cond.selects RX9 yX9_leaders yX9_leaders, Cond.code yX9_leaders cX9_leaders 6 (some .int)]
def wsX9_leastRoom : List Cond := .code yX9_leastRoom cX9_leastRoom 3 (some .int) :: ((wsX9_leastRoom_r1 ++ wsX9_leastRoom_r2) ++ wsX90)
def wsX9_byteOf : List Cond := .code yX9_byteOf cX9_byteOf 3 (some .int) :: ([.constantLong RX9 196 (255)])
def wsX9_toldBy : List Cond := .code yX9_toldBy cX9_toldBy 4 (some .int) :: ([.methodLink RX9 198 yX9_byteOf, .static yX9_byteOf, .initialized RX9, .code yX9_byteOf cX9_byteOf 3 (some .int), .constantLong RX9 196 (255), .methodLink RX9 41 yX9_in, .static yX9_in, .code yX9_in cX9_in 3 (some .boolean)])
def wsX9_put : List Cond := .code yX9_put cX9_put 5 (some .int) :: ([.fieldLink RX9 186 "AnchoredNotesModel" "padded" "I", .fieldLink RX9 23 "AnchoredNotesModel" "pad" "[I", .methodLink RX9 202 yX9_toldBy, .static yX9_toldBy, .initialized RX9, .code yX9_toldBy cX9_toldBy 4 (some .int), .methodLink RX9 198 yX9_byteOf, .static yX9_byteOf, .code yX9_byteOf cX9_byteOf 3 (some .int), .constantLong RX9 196 (255), .methodLink RX9 41 yX9_in, .static yX9_in, .code yX9_in cX9_in 3 (some .boolean)] ++ wsX90)
def wsX9_wipe : List Cond := .code yX9_wipe cX9_wipe 2 (some .int) :: ([.fieldLink RX9 186 "AnchoredNotesModel" "padded" "I"] ++ wsX90)
def wsX9_isAt : List Cond := .code yX9_isAt cX9_isAt 3 (some .boolean) :: ([.fieldLink RX9 206 "AnchoredNotesModel" "at" "I", .fieldLink RX9 186 "AnchoredNotesModel" "padded" "I", .fieldLink RX9 23 "AnchoredNotesModel" "pad" "[I", .methodLink RX9 41 yX9_in, .static yX9_in, .initialized RX9, .code yX9_in cX9_in 3 (some .boolean)] ++ wsX90)
def wsX9_isSign : List Cond := .code yX9_isSign cX9_isSign 3 (some .boolean) :: ([.fieldLink RX9 206 "AnchoredNotesModel" "at" "I", .methodLink RX9 209 yX9_isAt, .instanceMethod yX9_isAt, .selects RX9 yX9_isAt yX9_isAt, .initialized RX9, .code yX9_isAt cX9_isAt 3 (some .boolean), .fieldLink RX9 186 "AnchoredNotesModel" "padded" "I", .fieldLink RX9 23 "AnchoredNotesModel" "pad" "[I", .methodLink RX9 41 yX9_in, .static yX9_in, .code yX9_in cX9_in 3 (some .boolean)] ++ wsX90)
def wsX9_isNumber : List Cond := .code yX9_isNumber cX9_isNumber 3 (some .boolean) :: ([.fieldLink RX9 23 "AnchoredNotesModel" "pad" "[I", .fieldLink RX9 206 "AnchoredNotesModel" "at" "I", .fieldLink RX9 26 "AnchoredNotesModel" "orders" "[I", .fieldLink RX9 212 "AnchoredNotesModel" "ordered" "I", .methodLink RX9 209 yX9_isAt, .instanceMethod yX9_isAt, .selects RX9 yX9_isAt yX9_isAt, .initialized RX9, .code yX9_isAt cX9_isAt 3 (some .boolean), .fieldLink RX9 186 "AnchoredNotesModel" "padded" "I", .methodLink RX9 41 yX9_in, .static yX9_in, .code yX9_in cX9_in 3 (some .boolean)] ++ wsX90)
def wsX9_isWord : List Cond := .code yX9_isWord cX9_isWord 1 (some .boolean) :: ([.fieldLink RX9 26 "AnchoredNotesModel" "orders" "[I", .fieldLink RX9 212 "AnchoredNotesModel" "ordered" "I", .fieldLink RX9 206 "AnchoredNotesModel" "at" "I", .methodLink RX9 209 yX9_isAt, .instanceMethod yX9_isAt, .selects RX9 yX9_isAt yX9_isAt, .initialized RX9, .code yX9_isAt cX9_isAt 3 (some .boolean), .fieldLink RX9 186 "AnchoredNotesModel" "padded" "I", .fieldLink RX9 23 "AnchoredNotesModel" "pad" "[I", .methodLink RX9 41 yX9_in, .static yX9_in, .code yX9_in cX9_in 3 (some .boolean)] ++ wsX90)
def wsX9_isSpan : List Cond := .code yX9_isSpan cX9_isSpan 1 (some .boolean) :: ([.methodLink RX9 215 yX9_isNumber, .instanceMethod yX9_isNumber, .selects RX9 yX9_isNumber yX9_isNumber, .initialized RX9, .code yX9_isNumber cX9_isNumber 3 (some .boolean), .fieldLink RX9 23 "AnchoredNotesModel" "pad" "[I", .fieldLink RX9 206 "AnchoredNotesModel" "at" "I", .fieldLink RX9 26 "AnchoredNotesModel" "orders" "[I", .fieldLink RX9 212 "AnchoredNotesModel" "ordered" "I", .methodLink RX9 209 yX9_isAt, .instanceMethod yX9_isAt, .selects RX9 yX9_isAt yX9_isAt, .code yX9_isAt cX9_isAt 3 (some .boolean), .fieldLink RX9 186 "AnchoredNotesModel" "padded" "I", .methodLink RX9 41 yX9_in, .static yX9_in, .code yX9_in cX9_in 3 (some .boolean), .methodLink RX9 218 yX9_isSign, .instanceMethod yX9_isSign, .selects RX9 yX9_isSign yX9_isSign, .code yX9_isSign cX9_isSign 3 (some .boolean)] ++ wsX90)
def wsX9_isOrder_r1 : List Cond := [Cond.fieldLink RX9 206 "AnchoredNotesModel" "at" "I", Cond.fieldLink RX9 186 "AnchoredNotesModel" "padded" "I", Cond.fieldLink RX9 23 "AnchoredNotesModel" "pad" "[I", Cond.fieldLink RX9 26 "AnchoredNotesModel" "orders" "[I", Cond.fieldLink RX9 212 "AnchoredNotesModel" "ordered" "I", Cond.methodLink RX9 215 yX9_isNumber, Cond.instanceMethod yX9_isNumber, Cond.selects RX9 yX9_isNumber yX9_isNumber, Cond.initialized RX9, Cond.code yX9_isNumber cX9_isNumber 3 (some .boolean), Cond.methodLink RX9 209 yX9_isAt, Cond.instanceMethod yX9_isAt, Cond.selects RX9 yX9_isAt yX9_isAt, Cond.code yX9_isAt cX9_isAt 3 (some .boolean), Cond.methodLink RX9 41 yX9_in, Cond.static yX9_in, Cond.code yX9_in cX9_in 3 (some .boolean), Cond.methodLink RX9 218 yX9_isSign, Cond.instanceMethod yX9_isSign, Cond.selects RX9 yX9_isSign yX9_isSign, Cond.code yX9_isSign cX9_isSign 3 (some .boolean), Cond.methodLink RX9 221 yX9_isWord, Cond.instanceMethod yX9_isWord, Cond.selects RX9 yX9_isWord yX9_isWord]
def wsX9_isOrder_r2 : List Cond := [Cond.code yX9_isWord cX9_isWord 1 (some .boolean), Cond.methodLink RX9 225 yX9_isSpan, Cond.instanceMethod yX9_isSpan, Cond.selects RX9 yX9_isSpan yX9_isSpan, Cond.code yX9_isSpan cX9_isSpan 1 (some .boolean)]
def wsX9_isOrder : List Cond := .code yX9_isOrder cX9_isOrder 2 (some .boolean) :: ((wsX9_isOrder_r1 ++ wsX9_isOrder_r2) ++ wsX90)
def wsX9_isText_r1 : List Cond := [Cond.fieldLink RX9 206 "AnchoredNotesModel" "at" "I", Cond.fieldLink RX9 212 "AnchoredNotesModel" "ordered" "I", Cond.fieldLink RX9 186 "AnchoredNotesModel" "padded" "I", Cond.methodLink RX9 228 yX9_isOrder, Cond.instanceMethod yX9_isOrder, Cond.selects RX9 yX9_isOrder yX9_isOrder, Cond.initialized RX9, Cond.code yX9_isOrder cX9_isOrder 2 (some .boolean), Cond.fieldLink RX9 23 "AnchoredNotesModel" "pad" "[I", Cond.fieldLink RX9 26 "AnchoredNotesModel" "orders" "[I", Cond.methodLink RX9 215 yX9_isNumber, Cond.instanceMethod yX9_isNumber, Cond.selects RX9 yX9_isNumber yX9_isNumber, Cond.code yX9_isNumber cX9_isNumber 3 (some .boolean), Cond.methodLink RX9 209 yX9_isAt, Cond.instanceMethod yX9_isAt, Cond.selects RX9 yX9_isAt yX9_isAt, Cond.code yX9_isAt cX9_isAt 3 (some .boolean), Cond.methodLink RX9 41 yX9_in, Cond.static yX9_in, Cond.code yX9_in cX9_in 3 (some .boolean), Cond.methodLink RX9 218 yX9_isSign, Cond.instanceMethod yX9_isSign, Cond.selects RX9 yX9_isSign yX9_isSign]
def wsX9_isText_r2 : List Cond := [Cond.code yX9_isSign cX9_isSign 3 (some .boolean), Cond.methodLink RX9 221 yX9_isWord, Cond.instanceMethod yX9_isWord, Cond.selects RX9 yX9_isWord yX9_isWord, Cond.code yX9_isWord cX9_isWord 1 (some .boolean), Cond.methodLink RX9 225 yX9_isSpan, Cond.instanceMethod yX9_isSpan, Cond.selects RX9 yX9_isSpan yX9_isSpan, Cond.code yX9_isSpan cX9_isSpan 1 (some .boolean)]
def wsX9_isText : List Cond := .code yX9_isText cX9_isText 2 (some .boolean) :: ((wsX9_isText_r1 ++ wsX9_isText_r2) ++ wsX90)
def wsX9_fault_r1 : List Cond := [Cond.fieldLink RX9 206 "AnchoredNotesModel" "at" "I", Cond.methodLink RX9 231 yX9_isText, Cond.instanceMethod yX9_isText, Cond.selects RX9 yX9_isText yX9_isText, Cond.initialized RX9, Cond.code yX9_isText cX9_isText 2 (some .boolean), Cond.fieldLink RX9 212 "AnchoredNotesModel" "ordered" "I", Cond.fieldLink RX9 186 "AnchoredNotesModel" "padded" "I", Cond.methodLink RX9 228 yX9_isOrder, Cond.instanceMethod yX9_isOrder, Cond.selects RX9 yX9_isOrder yX9_isOrder, Cond.code yX9_isOrder cX9_isOrder 2 (some .boolean), Cond.fieldLink RX9 23 "AnchoredNotesModel" "pad" "[I", Cond.fieldLink RX9 26 "AnchoredNotesModel" "orders" "[I", Cond.methodLink RX9 215 yX9_isNumber, Cond.instanceMethod yX9_isNumber, Cond.selects RX9 yX9_isNumber yX9_isNumber, Cond.code yX9_isNumber cX9_isNumber 3 (some .boolean), Cond.methodLink RX9 209 yX9_isAt, Cond.instanceMethod yX9_isAt, Cond.selects RX9 yX9_isAt yX9_isAt, Cond.code yX9_isAt cX9_isAt 3 (some .boolean), Cond.methodLink RX9 41 yX9_in, Cond.static yX9_in]
def wsX9_fault_r2 : List Cond := [Cond.code yX9_in cX9_in 3 (some .boolean), Cond.methodLink RX9 218 yX9_isSign, Cond.instanceMethod yX9_isSign, Cond.selects RX9 yX9_isSign yX9_isSign, Cond.code yX9_isSign cX9_isSign 3 (some .boolean), Cond.methodLink RX9 221 yX9_isWord, Cond.instanceMethod yX9_isWord, Cond.selects RX9 yX9_isWord yX9_isWord, Cond.code yX9_isWord cX9_isWord 1 (some .boolean), Cond.methodLink RX9 225 yX9_isSpan, Cond.instanceMethod yX9_isSpan, Cond.selects RX9 yX9_isSpan yX9_isSpan, Cond.code yX9_isSpan cX9_isSpan 1 (some .boolean)]
def wsX9_fault : List Cond := .code yX9_fault cX9_fault 1 (some .int) :: ((wsX9_fault_r1 ++ wsX9_fault_r2) ++ wsX90)
def wsX9_writes : List Cond := .code yX9_writes cX9_writes 6 (some .boolean) :: ([.fieldLink RX9 23 "AnchoredNotesModel" "pad" "[I", .methodLink RX9 94 yX9_mayWrite, .instanceMethod yX9_mayWrite, .selects RX9 yX9_mayWrite yX9_mayWrite, .initialized RX9, .code yX9_mayWrite cX9_mayWrite 3 (some .int), .fieldLink RX9 7 "AnchoredNotesModel" "now" "[I", .methodLink RX9 41 yX9_in, .static yX9_in, .code yX9_in cX9_in 3 (some .boolean), .methodLink RX9 97 yX9_comes, .instanceMethod yX9_comes, .selects RX9 yX9_comes yX9_comes, .code yX9_comes cX9_comes 5 none] ++ wsX90)
def wsX9_may_r1 : List Cond := [Cond.methodLink RX9 112 yX9_maySpan, Cond.instanceMethod yX9_maySpan, Cond.selects RX9 yX9_maySpan yX9_maySpan, Cond.initialized RX9, Cond.code yX9_maySpan cX9_maySpan 3 (some .int), Cond.methodLink RX9 101 yX9_isPlace, Cond.instanceMethod yX9_isPlace, Cond.selects RX9 yX9_isPlace yX9_isPlace, Cond.code yX9_isPlace cX9_isPlace 2 (some .boolean), Cond.fieldLink RX9 7 "AnchoredNotesModel" "now" "[I", Cond.methodLink RX9 41 yX9_in, Cond.static yX9_in, Cond.code yX9_in cX9_in 3 (some .boolean), Cond.methodLink RX9 118 yX9_mayMove, Cond.instanceMethod yX9_mayMove, Cond.selects RX9 yX9_mayMove yX9_mayMove, Cond.code yX9_mayMove cX9_mayMove 5 (some .int), Cond.methodLink RX9 134 yX9_mayNote, Cond.instanceMethod yX9_mayNote, Cond.selects RX9 yX9_mayNote yX9_mayNote, Cond.code yX9_mayNote cX9_mayNote 4 (some .int), Cond.methodLink RX9 143 yX9_mayReply, Cond.instanceMethod yX9_mayReply, Cond.selects RX9 yX9_mayReply yX9_mayReply]
def wsX9_may_r2 : List Cond := [Cond.code yX9_mayReply cX9_mayReply 2 (some .int), Cond.methodLink RX9 140 yX9_isNote, Cond.instanceMethod yX9_isNote, Cond.selects RX9 yX9_isNote yX9_isNote, Cond.code yX9_isNote cX9_isNote 2 (some .boolean), Cond.methodLink RX9 164 yX9_mayReclaim, Cond.instanceMethod yX9_mayReclaim, Cond.selects RX9 yX9_mayReclaim yX9_mayReclaim, Cond.code yX9_mayReclaim cX9_mayReclaim 2 (some .int), Cond.methodLink RX9 85 yX9_isOrphan, Cond.instanceMethod yX9_isOrphan, Cond.selects RX9 yX9_isOrphan yX9_isOrphan, Cond.code yX9_isOrphan cX9_isOrphan 2 (some .boolean), Cond.methodLink RX9 64 yX9_isReply, Cond.instanceMethod yX9_isReply, Cond.selects RX9 yX9_isReply yX9_isReply, Cond.code yX9_isReply cX9_isReply 2 (some .boolean), Cond.methodLink RX9 45 yX9_of0, Cond.instanceMethod yX9_of0, Cond.selects RX9 yX9_of0 yX9_of0, Cond.code yX9_of0 cX9_of0 3 (some .int), Cond.methodLink RX9 68 yX9_present, Cond.instanceMethod yX9_present, Cond.selects RX9 yX9_present yX9_present]
def wsX9_may_r3 : List Cond := [Cond.code yX9_present cX9_present 4 (some .int), Cond.methodLink RX9 60 yX9_isOf, Cond.instanceMethod yX9_isOf, Cond.selects RX9 yX9_isOf yX9_isOf, Cond.code yX9_isOf cX9_isOf 3 (some .boolean), Cond.methodLink RX9 161 yX9_possible, Cond.instanceMethod yX9_possible, Cond.selects RX9 yX9_possible yX9_possible, Cond.code yX9_possible cX9_possible 7 (some .int), Cond.methodLink RX9 155 yX9_looksLike, Cond.instanceMethod yX9_looksLike, Cond.selects RX9 yX9_looksLike yX9_looksLike, Cond.code yX9_looksLike cX9_looksLike 6 (some .boolean), Cond.methodLink RX9 158 yX9_likeness, Cond.instanceMethod yX9_likeness, Cond.selects RX9 yX9_likeness yX9_likeness, Cond.code yX9_likeness cX9_likeness 6 (some .int)]
def wsX9_may : List Cond := .code yX9_may cX9_may 5 (some .int) :: ((wsX9_may_r1 ++ (wsX9_may_r2 ++ wsX9_may_r3)) ++ wsX90)
def wsX9_does_r1 : List Cond := [Cond.fieldLink RX9 26 "AnchoredNotesModel" "orders" "[I", Cond.methodLink RX9 234 yX9_writes, Cond.instanceMethod yX9_writes, Cond.selects RX9 yX9_writes yX9_writes, Cond.initialized RX9, Cond.code yX9_writes cX9_writes 6 (some .boolean), Cond.fieldLink RX9 23 "AnchoredNotesModel" "pad" "[I", Cond.methodLink RX9 94 yX9_mayWrite, Cond.instanceMethod yX9_mayWrite, Cond.selects RX9 yX9_mayWrite yX9_mayWrite, Cond.code yX9_mayWrite cX9_mayWrite 3 (some .int), Cond.fieldLink RX9 7 "AnchoredNotesModel" "now" "[I", Cond.methodLink RX9 41 yX9_in, Cond.static yX9_in, Cond.code yX9_in cX9_in 3 (some .boolean), Cond.methodLink RX9 97 yX9_comes, Cond.instanceMethod yX9_comes, Cond.selects RX9 yX9_comes yX9_comes, Cond.code yX9_comes cX9_comes 5 none, Cond.methodLink RX9 237 yX9_may, Cond.instanceMethod yX9_may, Cond.selects RX9 yX9_may yX9_may, Cond.code yX9_may cX9_may 5 (some .int), Cond.methodLink RX9 112 yX9_maySpan]
def wsX9_does_r2 : List Cond := [Cond.instanceMethod yX9_maySpan, Cond.selects RX9 yX9_maySpan yX9_maySpan, Cond.code yX9_maySpan cX9_maySpan 3 (some .int), Cond.methodLink RX9 101 yX9_isPlace, Cond.instanceMethod yX9_isPlace, Cond.selects RX9 yX9_isPlace yX9_isPlace, Cond.code yX9_isPlace cX9_isPlace 2 (some .boolean), Cond.methodLink RX9 118 yX9_mayMove, Cond.instanceMethod yX9_mayMove, Cond.selects RX9 yX9_mayMove yX9_mayMove, Cond.code yX9_mayMove cX9_mayMove 5 (some .int), Cond.methodLink RX9 134 yX9_mayNote, Cond.instanceMethod yX9_mayNote, Cond.selects RX9 yX9_mayNote yX9_mayNote, Cond.code yX9_mayNote cX9_mayNote 4 (some .int), Cond.methodLink RX9 143 yX9_mayReply, Cond.instanceMethod yX9_mayReply, Cond.selects RX9 yX9_mayReply yX9_mayReply, Cond.code yX9_mayReply cX9_mayReply 2 (some .int), Cond.methodLink RX9 140 yX9_isNote, Cond.instanceMethod yX9_isNote, Cond.selects RX9 yX9_isNote yX9_isNote, Cond.code yX9_isNote cX9_isNote 2 (some .boolean), Cond.methodLink RX9 164 yX9_mayReclaim]
def wsX9_does_r3 : List Cond := [Cond.instanceMethod yX9_mayReclaim, Cond.selects RX9 yX9_mayReclaim yX9_mayReclaim, Cond.code yX9_mayReclaim cX9_mayReclaim 2 (some .int), Cond.methodLink RX9 85 yX9_isOrphan, Cond.instanceMethod yX9_isOrphan, Cond.selects RX9 yX9_isOrphan yX9_isOrphan, Cond.code yX9_isOrphan cX9_isOrphan 2 (some .boolean), Cond.methodLink RX9 64 yX9_isReply, Cond.instanceMethod yX9_isReply, Cond.selects RX9 yX9_isReply yX9_isReply, Cond.code yX9_isReply cX9_isReply 2 (some .boolean), Cond.methodLink RX9 45 yX9_of0, Cond.instanceMethod yX9_of0, Cond.selects RX9 yX9_of0 yX9_of0, Cond.code yX9_of0 cX9_of0 3 (some .int), Cond.methodLink RX9 68 yX9_present, Cond.instanceMethod yX9_present, Cond.selects RX9 yX9_present yX9_present, Cond.code yX9_present cX9_present 4 (some .int), Cond.methodLink RX9 60 yX9_isOf, Cond.instanceMethod yX9_isOf, Cond.selects RX9 yX9_isOf yX9_isOf, Cond.code yX9_isOf cX9_isOf 3 (some .boolean), Cond.methodLink RX9 161 yX9_possible]
def wsX9_does_r4 : List Cond := [Cond.instanceMethod yX9_possible, Cond.selects RX9 yX9_possible yX9_possible, Cond.code yX9_possible cX9_possible 7 (some .int), Cond.methodLink RX9 155 yX9_looksLike, Cond.instanceMethod yX9_looksLike, Cond.selects RX9 yX9_looksLike yX9_looksLike, Cond.code yX9_looksLike cX9_looksLike 6 (some .boolean), Cond.methodLink RX9 158 yX9_likeness, Cond.instanceMethod yX9_likeness, Cond.selects RX9 yX9_likeness yX9_likeness, Cond.code yX9_likeness cX9_likeness 6 (some .int), Cond.methodLink RX9 108 yX9_goes, Cond.instanceMethod yX9_goes, Cond.selects RX9 yX9_goes yX9_goes, Cond.code yX9_goes cX9_goes 5 none, Cond.methodLink RX9 122 yX9_moves, Cond.instanceMethod yX9_moves, Cond.selects RX9 yX9_moves yX9_moves, Cond.code yX9_moves cX9_moves 6 none, Cond.fieldLink RX9 38 "AnchoredNotesModel" "taken" "[I", Cond.methodLink RX9 137 yX9_notes, Cond.instanceMethod yX9_notes, Cond.selects RX9 yX9_notes yX9_notes, Cond.code yX9_notes cX9_notes 6 (some .int)]
def wsX9_does_r5 : List Cond := [Cond.methodLink RX9 131 yX9_takes, Cond.instanceMethod yX9_takes, Cond.selects RX9 yX9_takes yX9_takes, Cond.code yX9_takes cX9_takes 5 none, Cond.methodLink RX9 128 yX9_remembers, Cond.instanceMethod yX9_remembers, Cond.selects RX9 yX9_remembers yX9_remembers, Cond.code yX9_remembers cX9_remembers 7 none, Cond.methodLink RX9 146 yX9_replies, Cond.instanceMethod yX9_replies, Cond.selects RX9 yX9_replies yX9_replies, Cond.code yX9_replies cX9_replies 3 (some .int), Cond.methodLink RX9 152 yX9_drops, Cond.instanceMethod yX9_drops, Cond.selects RX9 yX9_drops yX9_drops, Cond.code yX9_drops cX9_drops 4 (some .int), Cond.methodLink RX9 88 yX9_isBelow, Cond.instanceMethod yX9_isBelow, Cond.selects RX9 yX9_isBelow yX9_isBelow, Cond.code yX9_isBelow cX9_isBelow 4 (some .boolean), Cond.methodLink RX9 149 yX9_noteGoes, Cond.instanceMethod yX9_noteGoes, Cond.selects RX9 yX9_noteGoes yX9_noteGoes, Cond.code yX9_noteGoes cX9_noteGoes 5 none]
def wsX9_does_r6 : List Cond := [Cond.methodLink RX9 167 yX9_reclaims, Cond.instanceMethod yX9_reclaims, Cond.selects RX9 yX9_reclaims yX9_reclaims, Cond.code yX9_reclaims cX9_reclaims 3 (some .int)]
def wsX9_does : List Cond := .code yX9_does cX9_does 6 (some .boolean) :: ((wsX9_does_r1 ++ (wsX9_does_r2 ++ (wsX9_does_r3 ++ (wsX9_does_r4 ++ (wsX9_does_r5 ++ wsX9_does_r6))))) ++ wsX90)
def wsX9_carryOut_r1 : List Cond := [Cond.fieldLink RX9 186 "AnchoredNotesModel" "padded" "I", Cond.fieldLink RX9 212 "AnchoredNotesModel" "ordered" "I", Cond.methodLink RX9 231 yX9_isText, Cond.instanceMethod yX9_isText, Cond.selects RX9 yX9_isText yX9_isText, Cond.initialized RX9, Cond.code yX9_isText cX9_isText 2 (some .boolean), Cond.fieldLink RX9 206 "AnchoredNotesModel" "at" "I", Cond.methodLink RX9 228 yX9_isOrder, Cond.instanceMethod yX9_isOrder, Cond.selects RX9 yX9_isOrder yX9_isOrder, Cond.code yX9_isOrder cX9_isOrder 2 (some .boolean), Cond.fieldLink RX9 23 "AnchoredNotesModel" "pad" "[I", Cond.fieldLink RX9 26 "AnchoredNotesModel" "orders" "[I", Cond.methodLink RX9 215 yX9_isNumber, Cond.instanceMethod yX9_isNumber, Cond.selects RX9 yX9_isNumber yX9_isNumber, Cond.code yX9_isNumber cX9_isNumber 3 (some .boolean), Cond.methodLink RX9 209 yX9_isAt, Cond.instanceMethod yX9_isAt, Cond.selects RX9 yX9_isAt yX9_isAt, Cond.code yX9_isAt cX9_isAt 3 (some .boolean), Cond.methodLink RX9 41 yX9_in, Cond.static yX9_in]
def wsX9_carryOut_r2 : List Cond := [Cond.code yX9_in cX9_in 3 (some .boolean), Cond.methodLink RX9 218 yX9_isSign, Cond.instanceMethod yX9_isSign, Cond.selects RX9 yX9_isSign yX9_isSign, Cond.code yX9_isSign cX9_isSign 3 (some .boolean), Cond.methodLink RX9 221 yX9_isWord, Cond.instanceMethod yX9_isWord, Cond.selects RX9 yX9_isWord yX9_isWord, Cond.code yX9_isWord cX9_isWord 1 (some .boolean), Cond.methodLink RX9 225 yX9_isSpan, Cond.instanceMethod yX9_isSpan, Cond.selects RX9 yX9_isSpan yX9_isSpan, Cond.code yX9_isSpan cX9_isSpan 1 (some .boolean), Cond.methodLink RX9 57 yX9_records, Cond.instanceMethod yX9_records, Cond.selects RX9 yX9_records yX9_records, Cond.code yX9_records cX9_records 2 none, Cond.fieldLink RX9 49 "AnchoredNotesModel" "kept" "I", Cond.fieldLink RX9 13 "AnchoredNotesModel" "past" "[I", Cond.fieldLink RX9 7 "AnchoredNotesModel" "now" "[I", Cond.methodLink RX9 53 yX9_lays, Cond.static yX9_lays, Cond.code yX9_lays cX9_lays 5 none, Cond.methodLink RX9 241 yX9_does]
def wsX9_carryOut_r3 : List Cond := [Cond.instanceMethod yX9_does, Cond.selects RX9 yX9_does yX9_does, Cond.code yX9_does cX9_does 6 (some .boolean), Cond.methodLink RX9 234 yX9_writes, Cond.instanceMethod yX9_writes, Cond.selects RX9 yX9_writes yX9_writes, Cond.code yX9_writes cX9_writes 6 (some .boolean), Cond.methodLink RX9 94 yX9_mayWrite, Cond.instanceMethod yX9_mayWrite, Cond.selects RX9 yX9_mayWrite yX9_mayWrite, Cond.code yX9_mayWrite cX9_mayWrite 3 (some .int), Cond.methodLink RX9 97 yX9_comes, Cond.instanceMethod yX9_comes, Cond.selects RX9 yX9_comes yX9_comes, Cond.code yX9_comes cX9_comes 5 none, Cond.methodLink RX9 237 yX9_may, Cond.instanceMethod yX9_may, Cond.selects RX9 yX9_may yX9_may, Cond.code yX9_may cX9_may 5 (some .int), Cond.methodLink RX9 112 yX9_maySpan, Cond.instanceMethod yX9_maySpan, Cond.selects RX9 yX9_maySpan yX9_maySpan, Cond.code yX9_maySpan cX9_maySpan 3 (some .int), Cond.methodLink RX9 101 yX9_isPlace]
def wsX9_carryOut_r4 : List Cond := [Cond.instanceMethod yX9_isPlace, Cond.selects RX9 yX9_isPlace yX9_isPlace, Cond.code yX9_isPlace cX9_isPlace 2 (some .boolean), Cond.methodLink RX9 118 yX9_mayMove, Cond.instanceMethod yX9_mayMove, Cond.selects RX9 yX9_mayMove yX9_mayMove, Cond.code yX9_mayMove cX9_mayMove 5 (some .int), Cond.methodLink RX9 134 yX9_mayNote, Cond.instanceMethod yX9_mayNote, Cond.selects RX9 yX9_mayNote yX9_mayNote, Cond.code yX9_mayNote cX9_mayNote 4 (some .int), Cond.methodLink RX9 143 yX9_mayReply, Cond.instanceMethod yX9_mayReply, Cond.selects RX9 yX9_mayReply yX9_mayReply, Cond.code yX9_mayReply cX9_mayReply 2 (some .int), Cond.methodLink RX9 140 yX9_isNote, Cond.instanceMethod yX9_isNote, Cond.selects RX9 yX9_isNote yX9_isNote, Cond.code yX9_isNote cX9_isNote 2 (some .boolean), Cond.methodLink RX9 164 yX9_mayReclaim, Cond.instanceMethod yX9_mayReclaim, Cond.selects RX9 yX9_mayReclaim yX9_mayReclaim, Cond.code yX9_mayReclaim cX9_mayReclaim 2 (some .int), Cond.methodLink RX9 85 yX9_isOrphan]
def wsX9_carryOut_r5 : List Cond := [Cond.instanceMethod yX9_isOrphan, Cond.selects RX9 yX9_isOrphan yX9_isOrphan, Cond.code yX9_isOrphan cX9_isOrphan 2 (some .boolean), Cond.methodLink RX9 64 yX9_isReply, Cond.instanceMethod yX9_isReply, Cond.selects RX9 yX9_isReply yX9_isReply, Cond.code yX9_isReply cX9_isReply 2 (some .boolean), Cond.methodLink RX9 45 yX9_of0, Cond.instanceMethod yX9_of0, Cond.selects RX9 yX9_of0 yX9_of0, Cond.code yX9_of0 cX9_of0 3 (some .int), Cond.methodLink RX9 68 yX9_present, Cond.instanceMethod yX9_present, Cond.selects RX9 yX9_present yX9_present, Cond.code yX9_present cX9_present 4 (some .int), Cond.methodLink RX9 60 yX9_isOf, Cond.instanceMethod yX9_isOf, Cond.selects RX9 yX9_isOf yX9_isOf, Cond.code yX9_isOf cX9_isOf 3 (some .boolean), Cond.methodLink RX9 161 yX9_possible, Cond.instanceMethod yX9_possible, Cond.selects RX9 yX9_possible yX9_possible, Cond.code yX9_possible cX9_possible 7 (some .int), Cond.methodLink RX9 155 yX9_looksLike]
def wsX9_carryOut_r6 : List Cond := [Cond.instanceMethod yX9_looksLike, Cond.selects RX9 yX9_looksLike yX9_looksLike, Cond.code yX9_looksLike cX9_looksLike 6 (some .boolean), Cond.methodLink RX9 158 yX9_likeness, Cond.instanceMethod yX9_likeness, Cond.selects RX9 yX9_likeness yX9_likeness, Cond.code yX9_likeness cX9_likeness 6 (some .int), Cond.methodLink RX9 108 yX9_goes, Cond.instanceMethod yX9_goes, Cond.selects RX9 yX9_goes yX9_goes, Cond.code yX9_goes cX9_goes 5 none, Cond.methodLink RX9 122 yX9_moves, Cond.instanceMethod yX9_moves, Cond.selects RX9 yX9_moves yX9_moves, Cond.code yX9_moves cX9_moves 6 none, Cond.fieldLink RX9 38 "AnchoredNotesModel" "taken" "[I", Cond.methodLink RX9 137 yX9_notes, Cond.instanceMethod yX9_notes, Cond.selects RX9 yX9_notes yX9_notes, Cond.code yX9_notes cX9_notes 6 (some .int), Cond.methodLink RX9 131 yX9_takes, Cond.instanceMethod yX9_takes, Cond.selects RX9 yX9_takes yX9_takes, Cond.code yX9_takes cX9_takes 5 none]
def wsX9_carryOut_r7 : List Cond := [Cond.methodLink RX9 128 yX9_remembers, Cond.instanceMethod yX9_remembers, Cond.selects RX9 yX9_remembers yX9_remembers, Cond.code yX9_remembers cX9_remembers 7 none, Cond.methodLink RX9 146 yX9_replies, Cond.instanceMethod yX9_replies, Cond.selects RX9 yX9_replies yX9_replies, Cond.code yX9_replies cX9_replies 3 (some .int), Cond.methodLink RX9 152 yX9_drops, Cond.instanceMethod yX9_drops, Cond.selects RX9 yX9_drops yX9_drops, Cond.code yX9_drops cX9_drops 4 (some .int), Cond.methodLink RX9 88 yX9_isBelow, Cond.instanceMethod yX9_isBelow, Cond.selects RX9 yX9_isBelow yX9_isBelow, Cond.code yX9_isBelow cX9_isBelow 4 (some .boolean), Cond.methodLink RX9 149 yX9_noteGoes, Cond.instanceMethod yX9_noteGoes, Cond.selects RX9 yX9_noteGoes yX9_noteGoes, Cond.code yX9_noteGoes cX9_noteGoes 5 none, Cond.methodLink RX9 167 yX9_reclaims, Cond.instanceMethod yX9_reclaims, Cond.selects RX9 yX9_reclaims yX9_reclaims, Cond.code yX9_reclaims cX9_reclaims 3 (some .int)]
def wsX9_carryOut : List Cond := .code yX9_carryOut cX9_carryOut 2 (some .int) :: ((wsX9_carryOut_r1 ++ (wsX9_carryOut_r2 ++ (wsX9_carryOut_r3 ++ (wsX9_carryOut_r4 ++ (wsX9_carryOut_r5 ++ (wsX9_carryOut_r6 ++ wsX9_carryOut_r7)))))) ++ wsX90)
def wsJ9_max_7cf53 : List Cond := .code yJ9_max_7cf53 cJ9_max_7cf53 2 (some .int) :: ([])
def wsJ9_min_7cf53 : List Cond := .code yJ9_min_7cf53 cJ9_min_7cf53 2 (some .int) :: ([])
def wsL_law_r1 : List Cond := [Cond.classLink RL 7 RX8, Cond.instantiable RX8 7, Cond.initialized RX8, Cond.classLink RL 10 RX9, Cond.instantiable RX9 17, Cond.initialized RX9, Cond.constantLong RL 84 (4294967295), Cond.methodLink RL 9 yX8_init, Cond.instanceMethod yX8_init, Cond.code yX8_init cX8_init 1 none, Cond.methodLink RX8 1 objectInit, Cond.instanceMethod objectInit, Cond.code objectInit ⟨#[0xb1]⟩ 1 none, Cond.classLink RX8 7 RX4, Cond.instantiable RX4 6, Cond.initialized RX4, Cond.fieldLink RX8 10 "AnchoredNotes" "page" "LAnchoredNotes$Page;", Cond.classLink RX8 16 RX1, Cond.instantiable RX1 7, Cond.initialized RX1, Cond.fieldLink RX8 19 "AnchoredNotes" "margin" "LAnchoredNotes$Margin;", Cond.classLink RX8 23 RX7, Cond.instantiable RX7 3, Cond.initialized RX7]
def wsL_law_r2 : List Cond := [Cond.fieldLink RX8 26 "AnchoredNotes" "search" "LAnchoredNotes$Search;", Cond.classLink RX8 30 RX6, Cond.instantiable RX6 2, Cond.initialized RX6, Cond.fieldLink RX8 35 "AnchoredNotes" "pad" "LAnchoredNotes$Row;", Cond.classLink RX8 39 RX3, Cond.instantiable RX3 4, Cond.initialized RX3, Cond.fieldLink RX8 42 "AnchoredNotes" "reader" "LAnchoredNotes$OrderReader;", Cond.classLink RX8 46 RX0, Cond.instantiable RX0 2, Cond.initialized RX0, Cond.fieldLink RX8 49 "AnchoredNotes" "history" "LAnchoredNotes$History;", Cond.fieldLink RX8 53 "AnchoredNotes" "slots" "[LAnchoredNotes$Page;", Cond.methodLink RX8 9 yX4_init, Cond.instanceMethod yX4_init, Cond.code yX4_init cX4_init 2 none, Cond.methodLink RX4 3 objectInit, Cond.classLink RX4 9 RX6, Cond.fieldLink RX4 14 "AnchoredNotes$Page" "settings" "LAnchoredNotes$Row;", Cond.fieldLink RX4 20 "AnchoredNotes$Page" "letters" "LAnchoredNotes$Row;", Cond.fieldLink RX4 23 "AnchoredNotes$Page" "owners" "LAnchoredNotes$Row;", Cond.classLink RX4 26 RX2, Cond.fieldLink RX4 28 "AnchoredNotes$Page" "notes" "[LAnchoredNotes$Note;"]
def wsL_law_r3 : List Cond := [Cond.classLink RX4 32 RX5, Cond.instantiable RX5 4, Cond.initialized RX5, Cond.fieldLink RX4 35 "AnchoredNotes$Page" "pieces" "LAnchoredNotes$Pieces;", Cond.instantiable RX2 4, Cond.initialized RX2, Cond.methodLink RX4 11 yX6_init, Cond.instanceMethod yX6_init, Cond.code yX6_init cX6_init 2 none, Cond.methodLink RX6 3 objectInit, Cond.arrayClass .int, Cond.fieldLink RX6 9 "AnchoredNotes$Row" "items" "[I", Cond.instanceMethod yX5_init, Cond.code yX5_init cX5_init 1 none, Cond.methodLink RX5 3 objectInit, Cond.methodLink RX4 39 yX6_add, Cond.instanceMethod yX6_add, Cond.selects RX6 yX6_add yX6_add, Cond.code yX6_add cX6_add 2 none, Cond.fieldLink RX6 15 "AnchoredNotes$Row" "length" "I", Cond.instanceMethod yX2_init, Cond.code yX2_init cX2_init 1 none, Cond.methodLink RX2 3 objectInit, Cond.fieldLink RX2 9 "AnchoredNotes$Note" "target" "I"]
def wsL_law_r4 : List Cond := [Cond.classLink RX2 15 RX6, Cond.fieldLink RX2 20 "AnchoredNotes$Note" "words" "LAnchoredNotes$Row;", Cond.fieldLink RX2 24 "AnchoredNotes$Note" "ahead" "LAnchoredNotes$Row;", Cond.fieldLink RX2 27 "AnchoredNotes$Note" "behind" "LAnchoredNotes$Row;", Cond.methodLink RX2 17 yX6_init, Cond.instanceMethod yX1_init, Cond.code yX1_init cX1_init 1 none, Cond.methodLink RX1 3 objectInit, Cond.classLink RX1 9 RX6, Cond.fieldLink RX1 14 "AnchoredNotes$Margin" "lines" "LAnchoredNotes$Row;", Cond.fieldLink RX1 20 "AnchoredNotes$Margin" "leaders" "LAnchoredNotes$Row;", Cond.fieldLink RX1 23 "AnchoredNotes$Margin" "firsts" "LAnchoredNotes$Row;", Cond.fieldLink RX1 26 "AnchoredNotes$Margin" "used" "LAnchoredNotes$Row;", Cond.methodLink RX1 11 yX6_init, Cond.instanceMethod yX7_init, Cond.code yX7_init cX7_init 1 none, Cond.methodLink RX7 3 objectInit, Cond.methodLink RX8 32 yX6_init, Cond.instanceMethod yX3_init, Cond.code yX3_init cX3_init 1 none, Cond.methodLink RX3 3 objectInit, Cond.classLink RX3 9 RX6, Cond.fieldLink RX3 14 "AnchoredNotes$OrderReader" "numbers" "LAnchoredNotes$Row;", Cond.methodLink RX3 11 yX6_init]
def wsL_law_r5 : List Cond := [Cond.instanceMethod yX0_init, Cond.code yX0_init cX0_init 1 none, Cond.methodLink RX0 3 objectInit, Cond.classLink RX0 9 RX4, Cond.fieldLink RX0 11 "AnchoredNotes$History" "states" "[LAnchoredNotes$Page;", Cond.methodLink RL 12 yX9_init, Cond.instanceMethod yX9_init, Cond.code yX9_init cX9_init 1 none, Cond.methodLink RX9 1 objectInit, Cond.fieldLink RX9 7 "AnchoredNotesModel" "now" "[I", Cond.fieldLink RX9 13 "AnchoredNotesModel" "past" "[I", Cond.fieldLink RX9 16 "AnchoredNotesModel" "slots" "[I", Cond.arrayClass .boolean, Cond.fieldLink RX9 19 "AnchoredNotesModel" "held" "[Z", Cond.fieldLink RX9 23 "AnchoredNotesModel" "pad" "[I", Cond.fieldLink RX9 26 "AnchoredNotesModel" "orders" "[I", Cond.fieldLink RX9 29 "AnchoredNotesModel" "lines" "[I", Cond.fieldLink RX9 32 "AnchoredNotesModel" "own" "[I", Cond.fieldLink RX9 35 "AnchoredNotesModel" "full" "[I", Cond.fieldLink RX9 38 "AnchoredNotesModel" "taken" "[I", Cond.methodLink RL 13 yX8_set, Cond.instanceMethod yX8_set, Cond.selects RX8 yX8_set yX8_set, Cond.code yX8_set cX8_set 3 (some .int)]
def wsL_law_r6 : List Cond := [Cond.methodLink RX8 57 yX0_keep, Cond.instanceMethod yX0_keep, Cond.selects RX0 yX0_keep yX0_keep, Cond.code yX0_keep cX0_keep 3 none, Cond.fieldLink RX0 17 "AnchoredNotes$History" "size" "I", Cond.methodLink RX0 21 yX4_init, Cond.methodLink RX0 22 yX4_copyFrom, Cond.instanceMethod yX4_copyFrom, Cond.selects RX4 yX4_copyFrom yX4_copyFrom, Cond.code yX4_copyFrom cX4_copyFrom 5 none, Cond.fieldLink RX4 47 "AnchoredNotes$Page" "noteCount" "I", Cond.methodLink RX4 43 yX6_copyFrom, Cond.instanceMethod yX6_copyFrom, Cond.selects RX6 yX6_copyFrom yX6_copyFrom, Cond.code yX6_copyFrom cX6_copyFrom 2 none, Cond.methodLink RX6 37 Lib.Math.min.name, Cond.static Lib.Math.min.name, Cond.initialized "java/lang/Math", Cond.code Lib.Math.min.name Lib.Math.min.code 2 (some .int), Cond.methodLink RX6 23 arraycopyName, Cond.native arraycopyName, Cond.static arraycopyName, Cond.initialized "java/lang/System", Cond.methodLink RX4 51 yX4_find]
def wsL_law_r7 : List Cond := [Cond.instanceMethod yX4_find, Cond.selects RX4 yX4_find yX4_find, Cond.code yX4_find cX4_find 2 (some (.object "AnchoredNotes$Note")), Cond.methodLink RX4 55 yX2_copyFrom, Cond.instanceMethod yX2_copyFrom, Cond.selects RX2 yX2_copyFrom yX2_copyFrom, Cond.code yX2_copyFrom cX2_copyFrom 2 none, Cond.methodLink RX2 37 yX6_copyFrom, Cond.methodLink RX8 61 yX4_changeSetting, Cond.instanceMethod yX4_changeSetting, Cond.selects RX4 yX4_changeSetting yX4_changeSetting, Cond.code yX4_changeSetting cX4_changeSetting 4 (some .int), Cond.methodLink RX4 58 yX6_has, Cond.instanceMethod yX6_has, Cond.selects RX6 yX6_has yX6_has, Cond.code yX6_has cX6_has 2 (some .boolean), Cond.methodLink RX4 62 yX4_leastOf, Cond.static yX4_leastOf, Cond.code yX4_leastOf cX4_leastOf 1 (some .int), Cond.methodLink RX4 66 yX4_mostOf, Cond.static yX4_mostOf, Cond.code yX4_mostOf cX4_mostOf 1 (some .int), Cond.methodLink RX4 69 yX6_item, Cond.instanceMethod yX6_item]
def wsL_law_r8 : List Cond := [Cond.selects RX6 yX6_item yX6_item, Cond.code yX6_item cX6_item 2 (some .int), Cond.methodLink RX4 72 yX6_replace, Cond.instanceMethod yX6_replace, Cond.selects RX6 yX6_replace yX6_replace, Cond.code yX6_replace cX6_replace 3 none, Cond.methodLink RX6 19 yX6_has, Cond.methodLink RX8 65 yX0_confirm, Cond.instanceMethod yX0_confirm, Cond.selects RX0 yX0_confirm yX0_confirm, Cond.code yX0_confirm cX0_confirm 2 (some .int), Cond.methodLink RX0 26 yX0_forgetOldest, Cond.instanceMethod yX0_forgetOldest, Cond.selects RX0 yX0_forgetOldest yX0_forgetOldest, Cond.code yX0_forgetOldest cX0_forgetOldest 3 none, Cond.methodLink RL 17 yX9_set, Cond.instanceMethod yX9_set, Cond.selects RX9 yX9_set yX9_set, Cond.code yX9_set cX9_set 4 (some .int), Cond.methodLink RX9 41 yX9_in, Cond.static yX9_in, Cond.code yX9_in cX9_in 3 (some .boolean), Cond.methodLink RX9 91 yX9_isFor, Cond.static yX9_isFor]
def wsL_law_r9 : List Cond := [Cond.code yX9_isFor cX9_isFor 2 (some .boolean), Cond.methodLink RX9 57 yX9_records, Cond.instanceMethod yX9_records, Cond.selects RX9 yX9_records yX9_records, Cond.code yX9_records cX9_records 2 none, Cond.fieldLink RX9 49 "AnchoredNotesModel" "kept" "I", Cond.methodLink RX9 53 yX9_lays, Cond.static yX9_lays, Cond.code yX9_lays cX9_lays 5 none, Cond.methodLink RL 18 yX8_write, Cond.instanceMethod yX8_write, Cond.selects RX8 yX8_write yX8_write, Cond.code yX8_write cX8_write 3 (some .int), Cond.methodLink RX8 69 yX4_writeLetter, Cond.instanceMethod yX4_writeLetter, Cond.selects RX4 yX4_writeLetter yX4_writeLetter, Cond.code yX4_writeLetter cX4_writeLetter 3 (some .int), Cond.fieldLink RX4 76 "AnchoredNotes$Row" "length" "I", Cond.methodLink RX4 79 yX6_insert, Cond.instanceMethod yX6_insert, Cond.selects RX6 yX6_insert yX6_insert, Cond.code yX6_insert cX6_insert 3 none, Cond.methodLink RL 21 yX9_write, Cond.instanceMethod yX9_write]
def wsL_law_r10 : List Cond := [Cond.selects RX9 yX9_write yX9_write, Cond.code yX9_write cX9_write 4 (some .int), Cond.methodLink RX9 94 yX9_mayWrite, Cond.instanceMethod yX9_mayWrite, Cond.selects RX9 yX9_mayWrite yX9_mayWrite, Cond.code yX9_mayWrite cX9_mayWrite 3 (some .int), Cond.methodLink RX9 97 yX9_comes, Cond.instanceMethod yX9_comes, Cond.selects RX9 yX9_comes yX9_comes, Cond.code yX9_comes cX9_comes 5 none, Cond.methodLink RL 22 yX8_erase, Cond.instanceMethod yX8_erase, Cond.selects RX8 yX8_erase yX8_erase, Cond.code yX8_erase cX8_erase 3 (some .int), Cond.methodLink RX8 72 yX4_eraseLetters, Cond.instanceMethod yX4_eraseLetters, Cond.selects RX4 yX4_eraseLetters yX4_eraseLetters, Cond.code yX4_eraseLetters cX4_eraseLetters 4 (some .int), Cond.methodLink RX4 82 yX4_orphanedBy, Cond.instanceMethod yX4_orphanedBy, Cond.selects RX4 yX4_orphanedBy yX4_orphanedBy, Cond.code yX4_orphanedBy cX4_orphanedBy 7 (some .int), Cond.methodLink RX4 94 yX4_passageError, Cond.instanceMethod yX4_passageError]
def wsL_law_r11 : List Cond := [Cond.selects RX4 yX4_passageError yX4_passageError, Cond.code yX4_passageError cX4_passageError 3 (some .int), Cond.methodLink RX4 86 yX6_cut, Cond.instanceMethod yX6_cut, Cond.selects RX6 yX6_cut yX6_cut, Cond.code yX6_cut cX6_cut 3 none, Cond.methodLink RX4 89 yJ6_bitCount_0f7a4, Cond.static yJ6_bitCount_0f7a4, Cond.initialized RJ6, Cond.code yJ6_bitCount_0f7a4 cJ6_bitCount_0f7a4 1 (some .int), Cond.constant RJ6 265 (1431655765), Cond.constant RJ6 266 (858993459), Cond.constant RJ6 267 (252645135), Cond.methodLink RL 25 yX9_erase, Cond.instanceMethod yX9_erase, Cond.selects RX9 yX9_erase yX9_erase, Cond.code yX9_erase cX9_erase 4 (some .int), Cond.methodLink RX9 112 yX9_maySpan, Cond.instanceMethod yX9_maySpan, Cond.selects RX9 yX9_maySpan yX9_maySpan, Cond.code yX9_maySpan cX9_maySpan 3 (some .int), Cond.methodLink RX9 101 yX9_isPlace, Cond.instanceMethod yX9_isPlace, Cond.selects RX9 yX9_isPlace yX9_isPlace]
def wsL_law_r12 : List Cond := [Cond.code yX9_isPlace cX9_isPlace 2 (some .boolean), Cond.methodLink RX9 115 yX9_erases, Cond.instanceMethod yX9_erases, Cond.selects RX9 yX9_erases yX9_erases, Cond.code yX9_erases cX9_erases 4 (some .int), Cond.methodLink RX9 104 yX9_orphans, Cond.instanceMethod yX9_orphans, Cond.selects RX9 yX9_orphans yX9_orphans, Cond.code yX9_orphans cX9_orphans 3 (some .int), Cond.methodLink RX9 85 yX9_isOrphan, Cond.instanceMethod yX9_isOrphan, Cond.selects RX9 yX9_isOrphan yX9_isOrphan, Cond.code yX9_isOrphan cX9_isOrphan 2 (some .boolean), Cond.methodLink RX9 64 yX9_isReply, Cond.instanceMethod yX9_isReply, Cond.selects RX9 yX9_isReply yX9_isReply, Cond.code yX9_isReply cX9_isReply 2 (some .boolean), Cond.methodLink RX9 45 yX9_of0, Cond.instanceMethod yX9_of0, Cond.selects RX9 yX9_of0 yX9_of0, Cond.code yX9_of0 cX9_of0 3 (some .int), Cond.methodLink RX9 68 yX9_present, Cond.instanceMethod yX9_present, Cond.selects RX9 yX9_present yX9_present]
def wsL_law_r13 : List Cond := [Cond.code yX9_present cX9_present 4 (some .int), Cond.methodLink RX9 60 yX9_isOf, Cond.instanceMethod yX9_isOf, Cond.selects RX9 yX9_isOf yX9_isOf, Cond.code yX9_isOf cX9_isOf 3 (some .boolean), Cond.methodLink RX9 108 yX9_goes, Cond.instanceMethod yX9_goes, Cond.selects RX9 yX9_goes yX9_goes, Cond.code yX9_goes cX9_goes 5 none, Cond.methodLink RL 26 yX8_move, Cond.instanceMethod yX8_move, Cond.selects RX8 yX8_move yX8_move, Cond.code yX8_move cX8_move 4 (some .int), Cond.methodLink RX8 75 yX4_moveLetters, Cond.instanceMethod yX4_moveLetters, Cond.selects RX4 yX4_moveLetters yX4_moveLetters, Cond.code yX4_moveLetters cX4_moveLetters 6 (some .int), Cond.methodLink RX4 97 yX6_shift, Cond.instanceMethod yX6_shift, Cond.selects RX6 yX6_shift yX6_shift, Cond.code yX6_shift cX6_shift 4 none, Cond.methodLink RX6 29 yX6_exchange, Cond.instanceMethod yX6_exchange, Cond.selects RX6 yX6_exchange yX6_exchange]
def wsL_law_r14 : List Cond := [Cond.code yX6_exchange cX6_exchange 4 none, Cond.methodLink RX6 33 yX6_turn, Cond.instanceMethod yX6_turn, Cond.selects RX6 yX6_turn yX6_turn, Cond.code yX6_turn cX6_turn 6 none, Cond.methodLink RX4 101 yX4_countParted, Cond.instanceMethod yX4_countParted, Cond.selects RX4 yX4_countParted yX4_countParted, Cond.code yX4_countParted cX4_countParted 3 (some .int), Cond.fieldLink RX4 163 "AnchoredNotes$Pieces" "pieces" "I", Cond.methodLink RX4 150 yX4_piecesOf, Cond.instanceMethod yX4_piecesOf, Cond.selects RX4 yX4_piecesOf yX4_piecesOf, Cond.code yX4_piecesOf cX4_piecesOf 2 (some (.object "AnchoredNotes$Pieces")), Cond.methodLink RX4 156 yX5_gather, Cond.instanceMethod yX5_gather, Cond.selects RX5 yX5_gather yX5_gather, Cond.code yX5_gather cX5_gather 7 none, Cond.fieldLink RX5 9 "AnchoredNotes$Pieces" "pieces" "I", Cond.fieldLink RX5 15 "AnchoredNotes$Pieces" "letters" "I", Cond.fieldLink RX5 18 "AnchoredNotes$Pieces" "first" "I", Cond.fieldLink RX5 21 "AnchoredNotes$Pieces" "last" "I", Cond.fieldLink RX5 24 "AnchoredNotes$Row" "length" "I", Cond.methodLink RX5 29 yX6_item]
def wsL_law_r15 : List Cond := [Cond.static yX8_isIn, Cond.code yX8_isIn cX8_isIn 2 (some .boolean), Cond.methodLink RL 30 yX9_move, Cond.instanceMethod yX9_move, Cond.selects RX9 yX9_move yX9_move, Cond.code yX9_move cX9_move 5 (some .int), Cond.methodLink RX9 118 yX9_mayMove, Cond.instanceMethod yX9_mayMove, Cond.selects RX9 yX9_mayMove yX9_mayMove, Cond.code yX9_mayMove cX9_mayMove 5 (some .int), Cond.methodLink RX9 122 yX9_moves, Cond.instanceMethod yX9_moves, Cond.selects RX9 yX9_moves yX9_moves, Cond.code yX9_moves cX9_moves 6 none, Cond.methodLink RX9 125 yX9_torn, Cond.instanceMethod yX9_torn, Cond.selects RX9 yX9_torn yX9_torn, Cond.code yX9_torn cX9_torn 3 (some .int), Cond.fieldLink RX9 72 "AnchoredNotesModel" "pieces" "I", Cond.methodLink RX9 81 yX9_finds, Cond.instanceMethod yX9_finds, Cond.selects RX9 yX9_finds yX9_finds, Cond.code yX9_finds cX9_finds 5 none, Cond.fieldLink RX9 75 "AnchoredNotesModel" "first" "I"]
def wsL_law_r16 : List Cond := [Cond.fieldLink RX9 78 "AnchoredNotesModel" "last" "I", Cond.methodLink RL 31 yX8_note, Cond.instanceMethod yX8_note, Cond.selects RX8 yX8_note yX8_note, Cond.code yX8_note cX8_note 3 (some .int), Cond.methodLink RX8 79 yX4_addNote, Cond.instanceMethod yX4_addNote, Cond.selects RX4 yX4_addNote yX4_addNote, Cond.code yX4_addNote cX4_addNote 5 (some .int), Cond.methodLink RX4 105 yX4_anchor, Cond.instanceMethod yX4_anchor, Cond.selects RX4 yX4_anchor yX4_anchor, Cond.code yX4_anchor cX4_anchor 6 none, Cond.methodLink RX4 108 yX2_remember, Cond.instanceMethod yX2_remember, Cond.selects RX2 yX2_remember yX2_remember, Cond.code yX2_remember cX2_remember 5 none, Cond.methodLink RX2 33 yX6_copyPart, Cond.instanceMethod yX6_copyPart, Cond.selects RX6 yX6_copyPart yX6_copyPart, Cond.code yX6_copyPart cX6_copyPart 6 none, Cond.methodLink RX6 43 yX6_clear, Cond.instanceMethod yX6_clear, Cond.selects RX6 yX6_clear yX6_clear]
def wsL_law_r17 : List Cond := [Cond.code yX6_clear cX6_clear 1 none, Cond.methodLink RX6 46 yX6_item, Cond.methodLink RX6 50 yX6_add, Cond.methodLink RL 34 yX9_note, Cond.instanceMethod yX9_note, Cond.selects RX9 yX9_note yX9_note, Cond.code yX9_note cX9_note 4 (some .int), Cond.methodLink RX9 134 yX9_mayNote, Cond.instanceMethod yX9_mayNote, Cond.selects RX9 yX9_mayNote yX9_mayNote, Cond.code yX9_mayNote cX9_mayNote 4 (some .int), Cond.methodLink RX9 137 yX9_notes, Cond.instanceMethod yX9_notes, Cond.selects RX9 yX9_notes yX9_notes, Cond.code yX9_notes cX9_notes 6 (some .int), Cond.methodLink RX9 131 yX9_takes, Cond.instanceMethod yX9_takes, Cond.selects RX9 yX9_takes yX9_takes, Cond.code yX9_takes cX9_takes 5 none, Cond.methodLink RX9 128 yX9_remembers, Cond.instanceMethod yX9_remembers, Cond.selects RX9 yX9_remembers yX9_remembers, Cond.code yX9_remembers cX9_remembers 7 none, Cond.methodLink RL 35 yX8_reply]
def wsL_law_r18 : List Cond := [Cond.instanceMethod yX8_reply, Cond.selects RX8 yX8_reply yX8_reply, Cond.code yX8_reply cX8_reply 2 (some .int), Cond.methodLink RX8 82 yX4_addReply, Cond.instanceMethod yX4_addReply, Cond.selects RX4 yX4_addReply yX4_addReply, Cond.code yX4_addReply cX4_addReply 4 (some .int), Cond.methodLink RX4 112 yX2_becomeReply, Cond.instanceMethod yX2_becomeReply, Cond.selects RX2 yX2_becomeReply yX2_becomeReply, Cond.code yX2_becomeReply cX2_becomeReply 2 none, Cond.methodLink RX2 30 yX6_clear, Cond.methodLink RL 39 yX9_reply, Cond.instanceMethod yX9_reply, Cond.selects RX9 yX9_reply yX9_reply, Cond.code yX9_reply cX9_reply 3 (some .int), Cond.methodLink RX9 143 yX9_mayReply, Cond.instanceMethod yX9_mayReply, Cond.selects RX9 yX9_mayReply yX9_mayReply, Cond.code yX9_mayReply cX9_mayReply 2 (some .int), Cond.methodLink RX9 140 yX9_isNote, Cond.instanceMethod yX9_isNote, Cond.selects RX9 yX9_isNote yX9_isNote, Cond.code yX9_isNote cX9_isNote 2 (some .boolean)]
def wsL_law_r19 : List Cond := [Cond.methodLink RX9 146 yX9_replies, Cond.instanceMethod yX9_replies, Cond.selects RX9 yX9_replies yX9_replies, Cond.code yX9_replies cX9_replies 3 (some .int), Cond.methodLink RL 40 yX8_drop, Cond.instanceMethod yX8_drop, Cond.selects RX8 yX8_drop yX8_drop, Cond.code yX8_drop cX8_drop 2 (some .int), Cond.methodLink RX8 85 yX4_dropFamily, Cond.instanceMethod yX4_dropFamily, Cond.selects RX4 yX4_dropFamily yX4_dropFamily, Cond.code yX4_dropFamily cX4_dropFamily 4 (some .int), Cond.methodLink RX4 115 yX4_family, Cond.instanceMethod yX4_family, Cond.selects RX4 yX4_family yX4_family, Cond.code yX4_family cX4_family 5 (some .int), Cond.fieldLink RX4 125 "AnchoredNotes$Note" "target" "I", Cond.methodLink RX4 122 yX4_remove, Cond.instanceMethod yX4_remove, Cond.selects RX4 yX4_remove yX4_remove, Cond.code yX4_remove cX4_remove 6 none, Cond.methodLink RL 43 yX9_drop, Cond.instanceMethod yX9_drop, Cond.selects RX9 yX9_drop yX9_drop]
def wsL_law_r20 : List Cond := [Cond.code yX9_drop cX9_drop 2 (some .int), Cond.methodLink RX9 152 yX9_drops, Cond.instanceMethod yX9_drops, Cond.selects RX9 yX9_drops yX9_drops, Cond.code yX9_drops cX9_drops 4 (some .int), Cond.methodLink RX9 88 yX9_isBelow, Cond.instanceMethod yX9_isBelow, Cond.selects RX9 yX9_isBelow yX9_isBelow, Cond.code yX9_isBelow cX9_isBelow 4 (some .boolean), Cond.methodLink RX9 149 yX9_noteGoes, Cond.instanceMethod yX9_noteGoes, Cond.selects RX9 yX9_noteGoes yX9_noteGoes, Cond.code yX9_noteGoes cX9_noteGoes 5 none, Cond.methodLink RL 44 yX8_reclaim, Cond.instanceMethod yX8_reclaim, Cond.selects RX8 yX8_reclaim yX8_reclaim, Cond.code yX8_reclaim cX8_reclaim 2 (some .int), Cond.methodLink RX8 88 yX4_reclaimNote, Cond.instanceMethod yX4_reclaimNote, Cond.selects RX4 yX4_reclaimNote yX4_reclaimNote, Cond.code yX4_reclaimNote cX4_reclaimNote 4 (some .int), Cond.fieldLink RX4 137 "AnchoredNotes$Search" "places" "I", Cond.fieldLink RX4 140 "AnchoredNotes$Search" "place" "I", Cond.fieldLink RX4 143 "AnchoredNotes$Note" "words" "LAnchoredNotes$Row;"]
def wsL_law_r21 : List Cond := [Cond.methodLink RX4 128 yX4_state, Cond.instanceMethod yX4_state, Cond.selects RX4 yX4_state yX4_state, Cond.code yX4_state cX4_state 3 (some .int), Cond.fieldLink RX4 154 "AnchoredNotes$Pieces" "letters" "I", Cond.methodLink RX4 146 yX2_isReply, Cond.instanceMethod yX2_isReply, Cond.selects RX2 yX2_isReply yX2_isReply, Cond.code yX2_isReply cX2_isReply 1 (some .boolean), Cond.methodLink RX4 131 yX7_look, Cond.instanceMethod yX7_look, Cond.selects RX7 yX7_look yX7_look, Cond.code yX7_look cX7_look 6 none, Cond.fieldLink RX7 9 "AnchoredNotes$Search" "place" "I", Cond.fieldLink RX7 15 "AnchoredNotes$Search" "likeness" "I", Cond.fieldLink RX7 18 "AnchoredNotes$Search" "places" "I", Cond.fieldLink RX7 21 "AnchoredNotes$Note" "words" "LAnchoredNotes$Row;", Cond.fieldLink RX7 27 "AnchoredNotes$Row" "length" "I", Cond.fieldLink RX7 36 "AnchoredNotes$Note" "ahead" "LAnchoredNotes$Row;", Cond.fieldLink RX7 39 "AnchoredNotes$Note" "behind" "LAnchoredNotes$Row;", Cond.methodLink RX7 32 yX6_countAlike, Cond.instanceMethod yX6_countAlike, Cond.selects RX6 yX6_countAlike yX6_countAlike, Cond.code yX6_countAlike cX6_countAlike 5 (some .int)]
def wsL_law_r22 : List Cond := [Cond.methodLink RL 47 yX9_reclaim, Cond.instanceMethod yX9_reclaim, Cond.selects RX9 yX9_reclaim yX9_reclaim, Cond.code yX9_reclaim cX9_reclaim 3 (some .int), Cond.methodLink RX9 164 yX9_mayReclaim, Cond.instanceMethod yX9_mayReclaim, Cond.selects RX9 yX9_mayReclaim yX9_mayReclaim, Cond.code yX9_mayReclaim cX9_mayReclaim 2 (some .int), Cond.methodLink RX9 161 yX9_possible, Cond.instanceMethod yX9_possible, Cond.selects RX9 yX9_possible yX9_possible, Cond.code yX9_possible cX9_possible 7 (some .int), Cond.methodLink RX9 155 yX9_looksLike, Cond.instanceMethod yX9_looksLike, Cond.selects RX9 yX9_looksLike yX9_looksLike, Cond.code yX9_looksLike cX9_looksLike 6 (some .boolean), Cond.methodLink RX9 158 yX9_likeness, Cond.instanceMethod yX9_likeness, Cond.selects RX9 yX9_likeness yX9_likeness, Cond.code yX9_likeness cX9_likeness 6 (some .int), Cond.methodLink RX9 167 yX9_reclaims, Cond.instanceMethod yX9_reclaims, Cond.selects RX9 yX9_reclaims yX9_reclaims, Cond.code yX9_reclaims cX9_reclaims 3 (some .int)]
def wsL_law_r23 : List Cond := [Cond.methodLink RL 48 yX8_letter, Cond.instanceMethod yX8_letter, Cond.selects RX8 yX8_letter yX8_letter, Cond.code yX8_letter cX8_letter 2 (some .int), Cond.fieldLink RX8 92 "AnchoredNotes$Page" "letters" "LAnchoredNotes$Row;", Cond.methodLink RX8 95 yX6_item, Cond.methodLink RL 51 yX9_letter, Cond.instanceMethod yX9_letter, Cond.selects RX9 yX9_letter yX9_letter, Cond.code yX9_letter cX9_letter 2 (some .int), Cond.methodLink RL 52 yX8_of, Cond.instanceMethod yX8_of, Cond.selects RX8 yX8_of yX8_of, Cond.code yX8_of cX8_of 4 (some .int), Cond.fieldLink RX8 112 "AnchoredNotes$Pieces" "first" "I", Cond.fieldLink RX8 118 "AnchoredNotes$Pieces" "last" "I", Cond.fieldLink RX8 127 "AnchoredNotes$Note" "words" "LAnchoredNotes$Row;", Cond.fieldLink RX8 130 "AnchoredNotes$Row" "length" "I", Cond.fieldLink RX8 133 "AnchoredNotes$Pieces" "letters" "I", Cond.fieldLink RX8 135 "AnchoredNotes$Pieces" "pieces" "I", Cond.fieldLink RX8 138 "AnchoredNotes$Note" "target" "I", Cond.methodLink RX8 98 yX4_find, Cond.methodLink RX8 102 yX4_state, Cond.methodLink RX8 105 yX4_root]
def wsL_law_r24 : List Cond := [Cond.instanceMethod yX4_root, Cond.selects RX4 yX4_root yX4_root, Cond.code yX4_root cX4_root 5 (some .int), Cond.methodLink RX4 160 yX4_depth, Cond.instanceMethod yX4_depth, Cond.selects RX4 yX4_depth yX4_depth, Cond.code yX4_depth cX4_depth 4 (some .int), Cond.methodLink RX8 108 yX4_piecesOf, Cond.methodLink RX8 121 yX2_isReply, Cond.methodLink RX8 141 yX4_family, Cond.methodLink RX8 144 yJ6_bitCount_0f7a4, Cond.methodLink RX8 149 yX4_depth, Cond.methodLink RL 55 yX9_of, Cond.instanceMethod yX9_of, Cond.selects RX9 yX9_of yX9_of, Cond.code yX9_of cX9_of 3 (some .int), Cond.methodLink RX9 177 yX9_ofNote, Cond.instanceMethod yX9_ofNote, Cond.selects RX9 yX9_ofNote yX9_ofNote, Cond.code yX9_ofNote cX9_ofNote 3 (some .int), Cond.methodLink RX9 170 yX9_rootOf, Cond.instanceMethod yX9_rootOf, Cond.selects RX9 yX9_rootOf yX9_rootOf, Cond.code yX9_rootOf cX9_rootOf 5 (some .int)]
def wsL_law_r25 : List Cond := [Cond.methodLink RX9 174 yX9_below, Cond.instanceMethod yX9_below, Cond.selects RX9 yX9_below yX9_below, Cond.code yX9_below cX9_below 4 (some .int), Cond.methodLink RL 56 yX8_word, Cond.instanceMethod yX8_word, Cond.selects RX8 yX8_word yX8_word, Cond.code yX8_word cX8_word 4 (some .int), Cond.methodLink RL 59 yX9_word, Cond.instanceMethod yX9_word, Cond.selects RX9 yX9_word yX9_word, Cond.code yX9_word cX9_word 3 (some .int), Cond.methodLink RL 60 yX8_at, Cond.instanceMethod yX8_at, Cond.selects RX8 yX8_at yX8_at, Cond.code yX8_at cX8_at 2 (some .int), Cond.fieldLink RX8 152 "AnchoredNotes$Page" "owners" "LAnchoredNotes$Row;", Cond.methodLink RL 63 yX9_at, Cond.instanceMethod yX9_at, Cond.selects RX9 yX9_at yX9_at, Cond.code yX9_at cX9_at 2 (some .int), Cond.methodLink RL 64 yX8_printed, Cond.instanceMethod yX8_printed, Cond.selects RX8 yX8_printed yX8_printed]
def wsL_law_r26 : List Cond := [Cond.code yX8_printed cX8_printed 3 (some .int), Cond.fieldLink RX8 155 "AnchoredNotes$Page" "settings" "LAnchoredNotes$Row;", Cond.fieldLink RX8 162 "AnchoredNotes$Margin" "lines" "LAnchoredNotes$Row;", Cond.fieldLink RX8 165 "AnchoredNotes$Margin" "leaders" "LAnchoredNotes$Row;", Cond.methodLink RX8 158 yX1_layOut, Cond.instanceMethod yX1_layOut, Cond.selects RX1 yX1_layOut yX1_layOut, Cond.code yX1_layOut cX1_layOut 5 none, Cond.fieldLink RX1 32 "AnchoredNotes$Page" "noteCount" "I", Cond.fieldLink RX1 42 "AnchoredNotes$Pieces" "first" "I", Cond.fieldLink RX1 50 "AnchoredNotes$Page" "letters" "LAnchoredNotes$Row;", Cond.fieldLink RX1 53 "AnchoredNotes$Row" "length" "I", Cond.methodLink RX1 29 yX1_empty, Cond.instanceMethod yX1_empty, Cond.selects RX1 yX1_empty yX1_empty, Cond.code yX1_empty cX1_empty 2 none, Cond.fieldLink RX1 70 "AnchoredNotes$Margin" "lastLine" "I", Cond.fieldLink RX1 73 "AnchoredNotes$Margin" "allLeaders" "I", Cond.fieldLink RX1 76 "AnchoredNotes$Margin" "longestLeader" "I", Cond.methodLink RX1 67 yX6_clear, Cond.methodLink RX1 47 yX6_add, Cond.methodLink RX1 38 yX4_piecesOf, Cond.methodLink RX1 56 yX6_item, Cond.methodLink RX1 60 yX4_lineOf]
def wsL_law_r27 : List Cond := [Cond.instanceMethod yX4_lineOf, Cond.selects RX4 yX4_lineOf yX4_lineOf, Cond.code yX4_lineOf cX4_lineOf 3 (some .int), Cond.methodLink RX1 63 yX1_print, Cond.instanceMethod yX1_print, Cond.selects RX1 yX1_print yX1_print, Cond.code yX1_print cX1_print 5 none, Cond.methodLink RX1 83 Lib.Math.max.name, Cond.static Lib.Math.max.name, Cond.code Lib.Math.max.name Lib.Math.max.code 2 (some .int), Cond.methodLink RX1 79 yX6_replace, Cond.methodLink RL 67 yX9_printed, Cond.instanceMethod yX9_printed, Cond.selects RX9 yX9_printed yX9_printed, Cond.code yX9_printed cX9_printed 3 (some .int), Cond.methodLink RX9 180 yX9_prints, Cond.instanceMethod yX9_prints, Cond.selects RX9 yX9_prints yX9_prints, Cond.code yX9_prints cX9_prints 5 none, Cond.methodLink RL 68 yX8_count, Cond.instanceMethod yX8_count, Cond.selects RX8 yX8_count yX8_count, Cond.code yX8_count cX8_count 2 (some .int), Cond.fieldLink RX8 168 "AnchoredNotes$Page" "noteCount" "I"]
def wsL_law_r28 : List Cond := [Cond.fieldLink RX8 181 "AnchoredNotes$Margin" "lastLine" "I", Cond.fieldLink RX8 184 "AnchoredNotes$Margin" "allLeaders" "I", Cond.fieldLink RX8 187 "AnchoredNotes$History" "size" "I", Cond.methodLink RX8 171 yX4_countState, Cond.instanceMethod yX4_countState, Cond.selects RX4 yX4_countState yX4_countState, Cond.code yX4_countState cX4_countState 4 (some .int), Cond.methodLink RX8 174 yX4_countParted, Cond.methodLink RX8 178 yX4_countLines, Cond.instanceMethod yX4_countLines, Cond.selects RX4 yX4_countLines yX4_countLines, Cond.code yX4_countLines cX4_countLines 1 (some .int), Cond.methodLink RX4 165 yX4_lineOf, Cond.methodLink RL 71 yX9_count, Cond.instanceMethod yX9_count, Cond.selects RX9 yX9_count yX9_count, Cond.code yX9_count cX9_count 2 (some .int), Cond.fieldLink RX9 186 "AnchoredNotesModel" "padded" "I", Cond.methodLink RX9 183 yX9_replyCount, Cond.instanceMethod yX9_replyCount, Cond.selects RX9 yX9_replyCount yX9_replyCount, Cond.code yX9_replyCount cX9_replyCount 3 (some .int), Cond.methodLink RX9 189 yX9_lastLine, Cond.instanceMethod yX9_lastLine]
def wsL_law_r29 : List Cond := [Cond.selects RX9 yX9_lastLine yX9_lastLine, Cond.code yX9_lastLine cX9_lastLine 3 (some .int), Cond.methodLink RX9 192 yX9_leaders, Cond.instanceMethod yX9_leaders, Cond.selects RX9 yX9_leaders yX9_leaders, Cond.code yX9_leaders cX9_leaders 6 (some .int), Cond.methodLink RL 72 yX8_orphansIf, Cond.instanceMethod yX8_orphansIf, Cond.selects RX8 yX8_orphansIf yX8_orphansIf, Cond.code yX8_orphansIf cX8_orphansIf 3 (some .int), Cond.methodLink RX8 190 yX4_orphanedBy, Cond.methodLink RL 75 yX9_orphansIf, Cond.instanceMethod yX9_orphansIf, Cond.selects RX9 yX9_orphansIf yX9_orphansIf, Cond.code yX9_orphansIf cX9_orphansIf 7 (some .int), Cond.methodLink RL 76 yX8_could, Cond.instanceMethod yX8_could, Cond.selects RX8 yX8_could yX8_could, Cond.code yX8_could cX8_could 4 (some .int), Cond.fieldLink RX8 197 "AnchoredNotes$Search" "places" "I", Cond.fieldLink RX8 200 "AnchoredNotes$Search" "place" "I", Cond.fieldLink RX8 203 "AnchoredNotes$Search" "likeness" "I", Cond.methodLink RX8 193 yX7_look, Cond.methodLink RL 79 yX9_could]
def wsL_law_r30 : List Cond := [Cond.instanceMethod yX9_could, Cond.selects RX9 yX9_could yX9_could, Cond.code yX9_could cX9_could 3 (some .int), Cond.methodLink RL 80 yX8_leastRoom, Cond.instanceMethod yX8_leastRoom, Cond.selects RX8 yX8_leastRoom yX8_leastRoom, Cond.code yX8_leastRoom cX8_leastRoom 3 (some .int), Cond.fieldLink RX8 206 "AnchoredNotes$Margin" "longestLeader" "I", Cond.methodLink RL 83 yX9_leastRoom, Cond.instanceMethod yX9_leastRoom, Cond.selects RX9 yX9_leastRoom yX9_leastRoom, Cond.code yX9_leastRoom cX9_leastRoom 3 (some .int), Cond.methodLink RL 86 yX8_put, Cond.instanceMethod yX8_put, Cond.selects RX8 yX8_put yX8_put, Cond.code yX8_put cX8_put 5 (some .int), Cond.constantLong RX8 213 (255), Cond.methodLink RX8 209 yX8_countCharacters, Cond.static yX8_countCharacters, Cond.code yX8_countCharacters cX8_countCharacters 6 (some .int), Cond.methodLink RX8 215 yX6_add, Cond.methodLink RL 90 yX9_put, Cond.instanceMethod yX9_put, Cond.selects RX9 yX9_put yX9_put]
def wsL_law_r31 : List Cond := [Cond.code yX9_put cX9_put 5 (some .int), Cond.methodLink RX9 202 yX9_toldBy, Cond.static yX9_toldBy, Cond.code yX9_toldBy cX9_toldBy 4 (some .int), Cond.methodLink RX9 198 yX9_byteOf, Cond.static yX9_byteOf, Cond.code yX9_byteOf cX9_byteOf 3 (some .int), Cond.constantLong RX9 196 (255), Cond.methodLink RL 91 yX8_wipe, Cond.instanceMethod yX8_wipe, Cond.selects RX8 yX8_wipe yX8_wipe, Cond.code yX8_wipe cX8_wipe 2 (some .int), Cond.methodLink RX8 218 yX6_clear, Cond.methodLink RL 95 yX9_wipe, Cond.instanceMethod yX9_wipe, Cond.selects RX9 yX9_wipe yX9_wipe, Cond.code yX9_wipe cX9_wipe 2 (some .int), Cond.methodLink RL 96 yX8_fault, Cond.instanceMethod yX8_fault, Cond.selects RX8 yX8_fault yX8_fault, Cond.code yX8_fault cX8_fault 1 (some .int), Cond.methodLink RX8 221 yX3_findFault, Cond.instanceMethod yX3_findFault, Cond.selects RX3 yX3_findFault yX3_findFault]
def wsL_law_r32 : List Cond := [Cond.code yX3_findFault cX3_findFault 3 (some .int), Cond.fieldLink RX3 20 "AnchoredNotes$OrderReader" "next" "I", Cond.fieldLink RX3 31 "AnchoredNotes$Row" "length" "I", Cond.methodLink RX3 24 yX3_start, Cond.instanceMethod yX3_start, Cond.selects RX3 yX3_start yX3_start, Cond.code yX3_start cX3_start 1 none, Cond.methodLink RX3 27 yX3_readOrder, Cond.instanceMethod yX3_readOrder, Cond.selects RX3 yX3_readOrder yX3_readOrder, Cond.code yX3_readOrder cX3_readOrder 2 (some .boolean), Cond.fieldLink RX3 42 "AnchoredNotes$OrderReader" "kind" "I", Cond.methodLink RX3 38 yX6_item, Cond.methodLink RX3 45 yX6_clear, Cond.methodLink RX3 48 yX3_readNumber, Cond.instanceMethod yX3_readNumber, Cond.selects RX3 yX3_readNumber yX3_readNumber, Cond.code yX3_readNumber cX3_readNumber 3 (some .boolean), Cond.methodLink RX3 54 yX3_isDigit, Cond.static yX3_isDigit, Cond.code yX3_isDigit cX3_isDigit 1 (some .boolean), Cond.methodLink RX3 58 yX6_add, Cond.methodLink RX3 34 yX3_skip, Cond.instanceMethod yX3_skip]
def wsL_law_r33 : List Cond := [Cond.selects RX3 yX3_skip yX3_skip, Cond.code yX3_skip cX3_skip 3 (some .boolean), Cond.methodLink RX3 51 yX3_readLetters, Cond.instanceMethod yX3_readLetters, Cond.selects RX3 yX3_readLetters yX3_readLetters, Cond.code yX3_readLetters cX3_readLetters 2 (some .boolean), Cond.fieldLink RX3 61 "AnchoredNotes$OrderReader" "lettersFrom" "I", Cond.methodLink RX3 64 yX3_isLetter, Cond.static yX3_isLetter, Cond.code yX3_isLetter cX3_isLetter 1 (some .boolean), Cond.methodLink RL 99 yX9_fault, Cond.instanceMethod yX9_fault, Cond.selects RX9 yX9_fault yX9_fault, Cond.code yX9_fault cX9_fault 1 (some .int), Cond.fieldLink RX9 206 "AnchoredNotesModel" "at" "I", Cond.methodLink RX9 231 yX9_isText, Cond.instanceMethod yX9_isText, Cond.selects RX9 yX9_isText yX9_isText, Cond.code yX9_isText cX9_isText 2 (some .boolean), Cond.fieldLink RX9 212 "AnchoredNotesModel" "ordered" "I", Cond.methodLink RX9 228 yX9_isOrder, Cond.instanceMethod yX9_isOrder, Cond.selects RX9 yX9_isOrder yX9_isOrder, Cond.code yX9_isOrder cX9_isOrder 2 (some .boolean)]
def wsL_law_r34 : List Cond := [Cond.methodLink RX9 215 yX9_isNumber, Cond.instanceMethod yX9_isNumber, Cond.selects RX9 yX9_isNumber yX9_isNumber, Cond.code yX9_isNumber cX9_isNumber 3 (some .boolean), Cond.methodLink RX9 209 yX9_isAt, Cond.instanceMethod yX9_isAt, Cond.selects RX9 yX9_isAt yX9_isAt, Cond.code yX9_isAt cX9_isAt 3 (some .boolean), Cond.methodLink RX9 218 yX9_isSign, Cond.instanceMethod yX9_isSign, Cond.selects RX9 yX9_isSign yX9_isSign, Cond.code yX9_isSign cX9_isSign 3 (some .boolean), Cond.methodLink RX9 221 yX9_isWord, Cond.instanceMethod yX9_isWord, Cond.selects RX9 yX9_isWord yX9_isWord, Cond.code yX9_isWord cX9_isWord 1 (some .boolean), Cond.methodLink RX9 225 yX9_isSpan, Cond.instanceMethod yX9_isSpan, Cond.selects RX9 yX9_isSpan yX9_isSpan, Cond.code yX9_isSpan cX9_isSpan 1 (some .boolean), Cond.methodLink RL 100 yX8_carryOut, Cond.instanceMethod yX8_carryOut, Cond.selects RX8 yX8_carryOut yX8_carryOut, Cond.code yX8_carryOut cX8_carryOut 2 (some .int)]
def wsL_law_r35 : List Cond := [Cond.methodLink RX8 225 yX3_start, Cond.methodLink RX8 228 yX3_readOrder, Cond.methodLink RX8 232 yX8_obey, Cond.instanceMethod yX8_obey, Cond.selects RX8 yX8_obey yX8_obey, Cond.code yX8_obey cX8_obey 3 (some .int), Cond.fieldLink RX8 246 "AnchoredNotes$OrderReader" "numbers" "LAnchoredNotes$Row;", Cond.fieldLink RX8 249 "AnchoredNotes$OrderReader" "kind" "I", Cond.methodLink RX8 252 yX8_writeRow, Cond.instanceMethod yX8_writeRow, Cond.selects RX8 yX8_writeRow yX8_writeRow, Cond.code yX8_writeRow cX8_writeRow 4 (some .int), Cond.fieldLink RX8 255 "AnchoredNotes$OrderReader" "lettersFrom" "I", Cond.fieldLink RX8 258 "AnchoredNotes$OrderReader" "next" "I", Cond.methodLink RX8 235 yX3_skip, Cond.methodLink RL 103 yX9_carryOut, Cond.instanceMethod yX9_carryOut, Cond.selects RX9 yX9_carryOut yX9_carryOut, Cond.code yX9_carryOut cX9_carryOut 2 (some .int), Cond.methodLink RX9 241 yX9_does, Cond.instanceMethod yX9_does, Cond.selects RX9 yX9_does yX9_does, Cond.code yX9_does cX9_does 6 (some .boolean), Cond.methodLink RX9 234 yX9_writes]
def wsL_law_r36 : List Cond := [Cond.instanceMethod yX9_writes, Cond.selects RX9 yX9_writes yX9_writes, Cond.code yX9_writes cX9_writes 6 (some .boolean), Cond.methodLink RX9 237 yX9_may, Cond.instanceMethod yX9_may, Cond.selects RX9 yX9_may yX9_may, Cond.code yX9_may cX9_may 5 (some .int), Cond.methodLink RL 104 yX8_undo, Cond.instanceMethod yX8_undo, Cond.selects RX8 yX8_undo yX8_undo, Cond.code yX8_undo cX8_undo 1 (some .int), Cond.methodLink RX8 239 yX0_goBack, Cond.instanceMethod yX0_goBack, Cond.selects RX0 yX0_goBack yX0_goBack, Cond.code yX0_goBack cX0_goBack 4 (some .boolean), Cond.methodLink RL 107 yX9_undo, Cond.instanceMethod yX9_undo, Cond.selects RX9 yX9_undo yX9_undo, Cond.code yX9_undo cX9_undo 1 (some .int), Cond.methodLink RL 108 yX8_save, Cond.instanceMethod yX8_save, Cond.selects RX8 yX8_save yX8_save, Cond.code yX8_save cX8_save 3 (some .int), Cond.methodLink RX8 243 yX4_copyFrom]
def wsL_law_r37 : List Cond := [Cond.methodLink RL 111 yX9_save, Cond.instanceMethod yX9_save, Cond.selects RX9 yX9_save yX9_save, Cond.code yX9_save cX9_save 2 (some .int), Cond.methodLink RL 112 yX8_restore, Cond.instanceMethod yX8_restore, Cond.selects RX8 yX8_restore yX8_restore, Cond.code yX8_restore cX8_restore 3 (some .int), Cond.methodLink RL 115 yX9_restore, Cond.instanceMethod yX9_restore, Cond.selects RX9 yX9_restore yX9_restore, Cond.code yX9_restore cX9_restore 2 (some .int)]
def wsL_law : List Cond := (wsL_law_r1 ++ (wsL_law_r2 ++ (wsL_law_r3 ++ (wsL_law_r4 ++ (wsL_law_r5 ++ (wsL_law_r6 ++ (wsL_law_r7 ++ (wsL_law_r8 ++ (wsL_law_r9 ++ (wsL_law_r10 ++ (wsL_law_r11 ++ (wsL_law_r12 ++ (wsL_law_r13 ++ (wsL_law_r14 ++ (wsL_law_r15 ++ (wsL_law_r16 ++ (wsL_law_r17 ++ (wsL_law_r18 ++ (wsL_law_r19 ++ (wsL_law_r20 ++ (wsL_law_r21 ++ (wsL_law_r22 ++ (wsL_law_r23 ++ (wsL_law_r24 ++ (wsL_law_r25 ++ (wsL_law_r26 ++ (wsL_law_r27 ++ (wsL_law_r28 ++ (wsL_law_r29 ++ (wsL_law_r30 ++ (wsL_law_r31 ++ (wsL_law_r32 ++ (wsL_law_r33 ++ (wsL_law_r34 ++ (wsL_law_r35 ++ (wsL_law_r36 ++ wsL_law_r37)))))))))))))))))))))))))))))))))))) ++ wsX80 ++ wsX90 ++ wsX40 ++ wsX10 ++ wsX70 ++ wsX60 ++ wsX30 ++ wsX00 ++ wsX50 ++ wsX20 ++ ([] : List Cond)
abbrev vwCl : List vw_C := [(RX0, TX0, 2), (RX1, TX1, 7), (RX2, TX2, 4), (RX3, TX3, 4), (RX4, TX4, 6), (RX5, TX5, 4), (RX6, TX6, 2), (RX7, TX7, 3), (RX8, TX8, 7), (RX9, TX9, 17)]
end
section
set_option maxRecDepth 20000 in
theorem ggX6_replace_X6_has : GoodIn wsX6_replace wsX6_has := goodIn_r _ [6, 7, 1, 8, 9] (by decide +kernel) (by decide +kernel)
set_option maxRecDepth 20000 in
theorem gX6_replace_X6_has : GoodIn wsX6_replace (wsV RX6 19 RX6 yX6_has wsX6_has) := goodIn_app (goodIn_of _ (by decide +kernel)) ggX6_replace_X6_has
set_option maxRecDepth 20000 in
theorem ggX6_cut_X6_has : GoodIn wsX6_cut wsX6_has := goodIn_r _ [11, 2, 1, 12, 13] (by decide +kernel) (by decide +kernel)
set_option maxRecDepth 20000 in
theorem gX6_cut_X6_has : GoodIn wsX6_cut (wsV RX6 19 RX6 yX6_has wsX6_has) := goodIn_app (goodIn_of _ (by decide +kernel)) ggX6_cut_X6_has
set_option maxRecDepth 20000 in
theorem ggX6_shift_X6_exchange : GoodIn wsX6_shift wsX6_exchange := goodIn_r _ [5, 6, 7, 8, 4, 9, 10, 11, 12, 13, 14, 15, 16, 17] (by decide +kernel) (by decide +kernel)
set_option maxRecDepth 20000 in
theorem gX6_shift_X6_exchange : GoodIn wsX6_shift (wsV RX6 29 RX6 yX6_exchange wsX6_exchange) := goodIn_app (goodIn_of _ (by decide +kernel)) ggX6_shift_X6_exchange
set_option maxRecDepth 20000 in
theorem ggX6_exchange_X6_turn : GoodIn wsX6_exchange wsX6_turn := goodIn_r _ [5, 6, 7, 8, 9, 4, 10, 11, 12, 13] (by decide +kernel) (by decide +kernel)
set_option maxRecDepth 20000 in
theorem gX6_exchange_X6_turn : GoodIn wsX6_exchange (wsV RX6 33 RX6 yX6_turn wsX6_turn) := goodIn_app (goodIn_of _ (by decide +kernel)) ggX6_exchange_X6_turn
set_option maxRecDepth 20000 in
theorem ggX6_turn_X6_has : GoodIn wsX6_turn wsX6_has := goodIn_r _ [6, 7, 1, 8, 9] (by decide +kernel) (by decide +kernel)
set_option maxRecDepth 20000 in
theorem gX6_turn_X6_has : GoodIn wsX6_turn (wsV RX6 19 RX6 yX6_has wsX6_has) := goodIn_app (goodIn_of _ (by decide +kernel)) ggX6_turn_X6_has
set_option maxRecDepth 20000 in
theorem ggX6_copyPart_X6_clear : GoodIn wsX6_copyPart wsX6_clear := goodIn_r _ [5, 6, 20, 21] (by decide +kernel) (by decide +kernel)
set_option maxRecDepth 20000 in
theorem gX6_copyPart_X6_clear : GoodIn wsX6_copyPart (wsV RX6 43 RX6 yX6_clear wsX6_clear) := goodIn_app (goodIn_of _ (by decide +kernel)) ggX6_copyPart_X6_clear
set_option maxRecDepth 20000 in
theorem ggX6_copyPart_X6_has : GoodIn wsX6_copyPart wsX6_has := goodIn_r _ [10, 6, 11, 20, 21] (by decide +kernel) (by decide +kernel)
set_option maxRecDepth 20000 in
theorem gX6_copyPart_X6_has : GoodIn wsX6_copyPart (wsV RX6 19 RX6 yX6_has wsX6_has) := goodIn_app (goodIn_of _ (by decide +kernel)) ggX6_copyPart_X6_has
set_option maxRecDepth 20000 in
theorem ggX6_copyPart_X6_item : GoodIn wsX6_copyPart wsX6_item := goodIn_r _ [15, 6, 11, 20, 21] (by decide +kernel) (by decide +kernel)
set_option maxRecDepth 20000 in
theorem gX6_copyPart_X6_item : GoodIn wsX6_copyPart (wsV RX6 46 RX6 yX6_item wsX6_item) := goodIn_app (goodIn_of _ (by decide +kernel)) ggX6_copyPart_X6_item
set_option maxRecDepth 20000 in
theorem ggX6_copyPart_X6_add : GoodIn wsX6_copyPart wsX6_add := goodIn_r _ [19, 6, 11, 20, 21] (by decide +kernel) (by decide +kernel)
set_option maxRecDepth 20000 in
theorem gX6_copyPart_X6_add : GoodIn wsX6_copyPart (wsV RX6 50 RX6 yX6_add wsX6_add) := goodIn_app (goodIn_of _ (by decide +kernel)) ggX6_copyPart_X6_add
set_option maxRecDepth 20000 in
theorem ggX6_countAlike_X6_item : GoodIn wsX6_countAlike wsX6_item := goodIn_r _ [6, 1, 7, 8, 9] (by decide +kernel) (by decide +kernel)
set_option maxRecDepth 20000 in
theorem gX6_countAlike_X6_item : GoodIn wsX6_countAlike (wsV RX6 46 RX6 yX6_item wsX6_item) := goodIn_app (goodIn_of _ (by decide +kernel)) ggX6_countAlike_X6_item
theorem dX6_init_0 : decode cX6_init 0 = .ok (.aload_n 0, 1) := by decide +kernel
theorem dX6_init_1 : decode cX6_init 1 = .ok (.invokespecial 3, 3) := by decide +kernel
theorem dX6_init_4 : decode cX6_init 4 = .ok (.aload_n 0, 1) := by decide +kernel
theorem dX6_init_5 : decode cX6_init 5 = .ok (.iload_n 1, 1) := by decide +kernel
theorem dX6_init_6 : decode cX6_init 6 = .ok (.ifCond .ge 7, 3) := by decide +kernel
theorem dX6_init_9 : decode cX6_init 9 = .ok (.iconst 0, 1) := by decide +kernel
theorem dX6_init_10 : decode cX6_init 10 = .ok (.goto 4, 3) := by decide +kernel
theorem dX6_init_13 : decode cX6_init 13 = .ok (.iload_n 1, 1) := by decide +kernel
theorem dX6_init_14 : decode cX6_init 14 = .ok (.newarray .int, 2) := by decide +kernel
theorem dX6_init_16 : decode cX6_init 16 = .ok (.putfield 9, 3) := by decide +kernel
theorem dX6_init_19 : decode cX6_init 19 = .ok (.return_, 1) := by decide +kernel
theorem dX6_has_0 : decode cX6_has 0 = .ok (.iload_n 1, 1) := by decide +kernel
theorem dX6_has_1 : decode cX6_has 1 = .ok (.ifCond .lt 24, 3) := by decide +kernel
theorem dX6_has_4 : decode cX6_has 4 = .ok (.iload_n 1, 1) := by decide +kernel
theorem dX6_has_5 : decode cX6_has 5 = .ok (.aload_n 0, 1) := by decide +kernel
theorem dX6_has_6 : decode cX6_has 6 = .ok (.getfield 15, 3) := by decide +kernel
theorem dX6_has_9 : decode cX6_has 9 = .ok (.if_icmp .ge 16, 3) := by decide +kernel
theorem dX6_has_12 : decode cX6_has 12 = .ok (.iload_n 1, 1) := by decide +kernel
theorem dX6_has_13 : decode cX6_has 13 = .ok (.aload_n 0, 1) := by decide +kernel
theorem dX6_has_14 : decode cX6_has 14 = .ok (.getfield 9, 3) := by decide +kernel
theorem dX6_has_17 : decode cX6_has 17 = .ok (.arraylength, 1) := by decide +kernel
theorem dX6_has_18 : decode cX6_has 18 = .ok (.if_icmp .ge 7, 3) := by decide +kernel
theorem dX6_has_21 : decode cX6_has 21 = .ok (.iconst 1, 1) := by decide +kernel
theorem dX6_has_22 : decode cX6_has 22 = .ok (.goto 4, 3) := by decide +kernel
theorem dX6_has_25 : decode cX6_has 25 = .ok (.iconst 0, 1) := by decide +kernel
theorem dX6_has_26 : decode cX6_has 26 = .ok (.ireturn, 1) := by decide +kernel
theorem dX6_item_0 : decode cX6_item 0 = .ok (.iload_n 1, 1) := by decide +kernel
theorem dX6_item_1 : decode cX6_item 1 = .ok (.ifCond .lt 29, 3) := by decide +kernel
theorem dX6_item_4 : decode cX6_item 4 = .ok (.iload_n 1, 1) := by decide +kernel
theorem dX6_item_5 : decode cX6_item 5 = .ok (.aload_n 0, 1) := by decide +kernel
theorem dX6_item_6 : decode cX6_item 6 = .ok (.getfield 15, 3) := by decide +kernel
theorem dX6_item_9 : decode cX6_item 9 = .ok (.if_icmp .ge 21, 3) := by decide +kernel
theorem dX6_item_12 : decode cX6_item 12 = .ok (.iload_n 1, 1) := by decide +kernel
theorem dX6_item_13 : decode cX6_item 13 = .ok (.aload_n 0, 1) := by decide +kernel
theorem dX6_item_14 : decode cX6_item 14 = .ok (.getfield 9, 3) := by decide +kernel
theorem dX6_item_17 : decode cX6_item 17 = .ok (.arraylength, 1) := by decide +kernel
theorem dX6_item_18 : decode cX6_item 18 = .ok (.if_icmp .ge 12, 3) := by decide +kernel
theorem dX6_item_21 : decode cX6_item 21 = .ok (.aload_n 0, 1) := by decide +kernel
theorem dX6_item_22 : decode cX6_item 22 = .ok (.getfield 9, 3) := by decide +kernel
theorem dX6_item_25 : decode cX6_item 25 = .ok (.iload_n 1, 1) := by decide +kernel
theorem dX6_item_26 : decode cX6_item 26 = .ok (.iaload, 1) := by decide +kernel
theorem dX6_item_27 : decode cX6_item 27 = .ok (.goto 4, 3) := by decide +kernel
theorem dX6_item_30 : decode cX6_item 30 = .ok (.iconst (-1), 1) := by decide +kernel
theorem dX6_item_31 : decode cX6_item 31 = .ok (.ireturn, 1) := by decide +kernel
theorem dX6_replace_0 : decode cX6_replace 0 = .ok (.aload_n 0, 1) := by decide +kernel
theorem dX6_replace_1 : decode cX6_replace 1 = .ok (.iload_n 1, 1) := by decide +kernel
theorem dX6_replace_2 : decode cX6_replace 2 = .ok (.invokevirtual 19, 3) := by decide +kernel
theorem dX6_replace_5 : decode cX6_replace 5 = .ok (.ifCond .eq 10, 3) := by decide +kernel
theorem dX6_replace_8 : decode cX6_replace 8 = .ok (.aload_n 0, 1) := by decide +kernel
theorem dX6_replace_9 : decode cX6_replace 9 = .ok (.getfield 9, 3) := by decide +kernel
theorem dX6_replace_12 : decode cX6_replace 12 = .ok (.iload_n 1, 1) := by decide +kernel
theorem dX6_replace_13 : decode cX6_replace 13 = .ok (.iload_n 2, 1) := by decide +kernel
theorem dX6_replace_14 : decode cX6_replace 14 = .ok (.iastore, 1) := by decide +kernel
theorem dX6_replace_15 : decode cX6_replace 15 = .ok (.return_, 1) := by decide +kernel
theorem dX6_insert_0 : decode cX6_insert 0 = .ok (.iload_n 1, 1) := by decide +kernel
theorem dX6_insert_1 : decode cX6_insert 1 = .ok (.ifCond .lt 23, 3) := by decide +kernel
theorem dX6_insert_4 : decode cX6_insert 4 = .ok (.iload_n 1, 1) := by decide +kernel
theorem dX6_insert_5 : decode cX6_insert 5 = .ok (.aload_n 0, 1) := by decide +kernel
theorem dX6_insert_6 : decode cX6_insert 6 = .ok (.getfield 15, 3) := by decide +kernel
theorem dX6_insert_9 : decode cX6_insert 9 = .ok (.if_icmp .gt 15, 3) := by decide +kernel
theorem dX6_insert_12 : decode cX6_insert 12 = .ok (.aload_n 0, 1) := by decide +kernel
theorem dX6_insert_13 : decode cX6_insert 13 = .ok (.getfield 15, 3) := by decide +kernel
theorem dX6_insert_16 : decode cX6_insert 16 = .ok (.aload_n 0, 1) := by decide +kernel
theorem dX6_insert_17 : decode cX6_insert 17 = .ok (.getfield 9, 3) := by decide +kernel
theorem dX6_insert_20 : decode cX6_insert 20 = .ok (.arraylength, 1) := by decide +kernel
theorem dX6_insert_21 : decode cX6_insert 21 = .ok (.if_icmp .lt 4, 3) := by decide +kernel
theorem dX6_insert_24 : decode cX6_insert 24 = .ok (.return_, 1) := by decide +kernel
theorem dX6_insert_25 : decode cX6_insert 25 = .ok (.aload_n 0, 1) := by decide +kernel
theorem dX6_insert_26 : decode cX6_insert 26 = .ok (.getfield 9, 3) := by decide +kernel
theorem dX6_insert_29 : decode cX6_insert 29 = .ok (.iload_n 1, 1) := by decide +kernel
theorem dX6_insert_30 : decode cX6_insert 30 = .ok (.aload_n 0, 1) := by decide +kernel
theorem dX6_insert_31 : decode cX6_insert 31 = .ok (.getfield 9, 3) := by decide +kernel
theorem dX6_insert_34 : decode cX6_insert 34 = .ok (.iload_n 1, 1) := by decide +kernel
theorem dX6_insert_35 : decode cX6_insert 35 = .ok (.iconst 1, 1) := by decide +kernel
theorem dX6_insert_36 : decode cX6_insert 36 = .ok (.iadd, 1) := by decide +kernel
theorem dX6_insert_37 : decode cX6_insert 37 = .ok (.aload_n 0, 1) := by decide +kernel
theorem dX6_insert_38 : decode cX6_insert 38 = .ok (.getfield 15, 3) := by decide +kernel
theorem dX6_insert_41 : decode cX6_insert 41 = .ok (.iload_n 1, 1) := by decide +kernel
theorem dX6_insert_42 : decode cX6_insert 42 = .ok (.isub, 1) := by decide +kernel
theorem dX6_insert_43 : decode cX6_insert 43 = .ok (.invokestatic 23, 3) := by decide +kernel
theorem dX6_insert_46 : decode cX6_insert 46 = .ok (.aload_n 0, 1) := by decide +kernel
theorem dX6_insert_47 : decode cX6_insert 47 = .ok (.getfield 9, 3) := by decide +kernel
theorem dX6_insert_50 : decode cX6_insert 50 = .ok (.iload_n 1, 1) := by decide +kernel
theorem dX6_insert_51 : decode cX6_insert 51 = .ok (.iload_n 2, 1) := by decide +kernel
theorem dX6_insert_52 : decode cX6_insert 52 = .ok (.iastore, 1) := by decide +kernel
theorem dX6_insert_53 : decode cX6_insert 53 = .ok (.aload_n 0, 1) := by decide +kernel
theorem dX6_insert_54 : decode cX6_insert 54 = .ok (.dup, 1) := by decide +kernel
theorem dX6_insert_55 : decode cX6_insert 55 = .ok (.getfield 15, 3) := by decide +kernel
theorem dX6_insert_58 : decode cX6_insert 58 = .ok (.iconst 1, 1) := by decide +kernel
theorem dX6_insert_59 : decode cX6_insert 59 = .ok (.iadd, 1) := by decide +kernel
theorem dX6_insert_60 : decode cX6_insert 60 = .ok (.putfield 15, 3) := by decide +kernel
theorem dX6_insert_63 : decode cX6_insert 63 = .ok (.return_, 1) := by decide +kernel
theorem dX6_add_0 : decode cX6_add 0 = .ok (.aload_n 0, 1) := by decide +kernel
theorem dX6_add_1 : decode cX6_add 1 = .ok (.getfield 15, 3) := by decide +kernel
theorem dX6_add_4 : decode cX6_add 4 = .ok (.ifCond .lt 35, 3) := by decide +kernel
theorem dX6_add_7 : decode cX6_add 7 = .ok (.aload_n 0, 1) := by decide +kernel
theorem dX6_add_8 : decode cX6_add 8 = .ok (.getfield 15, 3) := by decide +kernel
theorem dX6_add_11 : decode cX6_add 11 = .ok (.aload_n 0, 1) := by decide +kernel
theorem dX6_add_12 : decode cX6_add 12 = .ok (.getfield 9, 3) := by decide +kernel
theorem dX6_add_15 : decode cX6_add 15 = .ok (.arraylength, 1) := by decide +kernel
theorem dX6_add_16 : decode cX6_add 16 = .ok (.if_icmp .ge 23, 3) := by decide +kernel
theorem dX6_add_19 : decode cX6_add 19 = .ok (.aload_n 0, 1) := by decide +kernel
theorem dX6_add_20 : decode cX6_add 20 = .ok (.getfield 9, 3) := by decide +kernel
theorem dX6_add_23 : decode cX6_add 23 = .ok (.aload_n 0, 1) := by decide +kernel
theorem dX6_add_24 : decode cX6_add 24 = .ok (.getfield 15, 3) := by decide +kernel
theorem dX6_add_27 : decode cX6_add 27 = .ok (.iload_n 1, 1) := by decide +kernel
theorem dX6_add_28 : decode cX6_add 28 = .ok (.iastore, 1) := by decide +kernel
theorem dX6_add_29 : decode cX6_add 29 = .ok (.aload_n 0, 1) := by decide +kernel
theorem dX6_add_30 : decode cX6_add 30 = .ok (.dup, 1) := by decide +kernel
theorem dX6_add_31 : decode cX6_add 31 = .ok (.getfield 15, 3) := by decide +kernel
theorem dX6_add_34 : decode cX6_add 34 = .ok (.iconst 1, 1) := by decide +kernel
theorem dX6_add_35 : decode cX6_add 35 = .ok (.iadd, 1) := by decide +kernel
theorem dX6_add_36 : decode cX6_add 36 = .ok (.putfield 15, 3) := by decide +kernel
theorem dX6_add_39 : decode cX6_add 39 = .ok (.return_, 1) := by decide +kernel
theorem dX6_cut_0 : decode cX6_cut 0 = .ok (.aload_n 0, 1) := by decide +kernel
theorem dX6_cut_1 : decode cX6_cut 1 = .ok (.iload_n 1, 1) := by decide +kernel
theorem dX6_cut_2 : decode cX6_cut 2 = .ok (.invokevirtual 19, 3) := by decide +kernel
theorem dX6_cut_5 : decode cX6_cut 5 = .ok (.ifCond .eq 16, 3) := by decide +kernel
theorem dX6_cut_8 : decode cX6_cut 8 = .ok (.aload_n 0, 1) := by decide +kernel
theorem dX6_cut_9 : decode cX6_cut 9 = .ok (.iload_n 2, 1) := by decide +kernel
theorem dX6_cut_10 : decode cX6_cut 10 = .ok (.invokevirtual 19, 3) := by decide +kernel
theorem dX6_cut_13 : decode cX6_cut 13 = .ok (.ifCond .eq 8, 3) := by decide +kernel
theorem dX6_cut_16 : decode cX6_cut 16 = .ok (.iload_n 2, 1) := by decide +kernel
theorem dX6_cut_17 : decode cX6_cut 17 = .ok (.iload_n 1, 1) := by decide +kernel
theorem dX6_cut_18 : decode cX6_cut 18 = .ok (.if_icmp .ge 4, 3) := by decide +kernel
theorem dX6_cut_21 : decode cX6_cut 21 = .ok (.return_, 1) := by decide +kernel
theorem dX6_cut_22 : decode cX6_cut 22 = .ok (.aload_n 0, 1) := by decide +kernel
theorem dX6_cut_23 : decode cX6_cut 23 = .ok (.getfield 9, 3) := by decide +kernel
theorem dX6_cut_26 : decode cX6_cut 26 = .ok (.iload_n 2, 1) := by decide +kernel
theorem dX6_cut_27 : decode cX6_cut 27 = .ok (.iconst 1, 1) := by decide +kernel
theorem dX6_cut_28 : decode cX6_cut 28 = .ok (.iadd, 1) := by decide +kernel
theorem dX6_cut_29 : decode cX6_cut 29 = .ok (.aload_n 0, 1) := by decide +kernel
theorem dX6_cut_30 : decode cX6_cut 30 = .ok (.getfield 9, 3) := by decide +kernel
theorem dX6_cut_33 : decode cX6_cut 33 = .ok (.iload_n 1, 1) := by decide +kernel
theorem dX6_cut_34 : decode cX6_cut 34 = .ok (.aload_n 0, 1) := by decide +kernel
theorem dX6_cut_35 : decode cX6_cut 35 = .ok (.getfield 15, 3) := by decide +kernel
theorem dX6_cut_38 : decode cX6_cut 38 = .ok (.iload_n 2, 1) := by decide +kernel
theorem dX6_cut_39 : decode cX6_cut 39 = .ok (.isub, 1) := by decide +kernel
theorem dX6_cut_40 : decode cX6_cut 40 = .ok (.iconst 1, 1) := by decide +kernel
theorem dX6_cut_41 : decode cX6_cut 41 = .ok (.isub, 1) := by decide +kernel
theorem dX6_cut_42 : decode cX6_cut 42 = .ok (.invokestatic 23, 3) := by decide +kernel
theorem dX6_cut_45 : decode cX6_cut 45 = .ok (.aload_n 0, 1) := by decide +kernel
theorem dX6_cut_46 : decode cX6_cut 46 = .ok (.dup, 1) := by decide +kernel
theorem dX6_cut_47 : decode cX6_cut 47 = .ok (.getfield 15, 3) := by decide +kernel
theorem dX6_cut_50 : decode cX6_cut 50 = .ok (.iload_n 2, 1) := by decide +kernel
theorem dX6_cut_51 : decode cX6_cut 51 = .ok (.iload_n 1, 1) := by decide +kernel
theorem dX6_cut_52 : decode cX6_cut 52 = .ok (.isub, 1) := by decide +kernel
theorem dX6_cut_53 : decode cX6_cut 53 = .ok (.iconst 1, 1) := by decide +kernel
theorem dX6_cut_54 : decode cX6_cut 54 = .ok (.iadd, 1) := by decide +kernel
theorem dX6_cut_55 : decode cX6_cut 55 = .ok (.isub, 1) := by decide +kernel
theorem dX6_cut_56 : decode cX6_cut 56 = .ok (.putfield 15, 3) := by decide +kernel
theorem dX6_cut_59 : decode cX6_cut 59 = .ok (.return_, 1) := by decide +kernel
theorem dX6_clear_0 : decode cX6_clear 0 = .ok (.aload_n 0, 1) := by decide +kernel
theorem dX6_clear_1 : decode cX6_clear 1 = .ok (.iconst 0, 1) := by decide +kernel
theorem dX6_clear_2 : decode cX6_clear 2 = .ok (.putfield 15, 3) := by decide +kernel
theorem dX6_clear_5 : decode cX6_clear 5 = .ok (.return_, 1) := by decide +kernel
theorem dX6_shift_0 : decode cX6_shift 0 = .ok (.iload_n 3, 1) := by decide +kernel
theorem dX6_shift_1 : decode cX6_shift 1 = .ok (.iload_n 1, 1) := by decide +kernel
theorem dX6_shift_2 : decode cX6_shift 2 = .ok (.if_icmp .ge 13, 3) := by decide +kernel
theorem dX6_shift_5 : decode cX6_shift 5 = .ok (.aload_n 0, 1) := by decide +kernel
theorem dX6_shift_6 : decode cX6_shift 6 = .ok (.iload_n 3, 1) := by decide +kernel
theorem dX6_shift_7 : decode cX6_shift 7 = .ok (.iload_n 1, 1) := by decide +kernel
theorem dX6_shift_8 : decode cX6_shift 8 = .ok (.iload_n 2, 1) := by decide +kernel
theorem dX6_shift_9 : decode cX6_shift 9 = .ok (.invokevirtual 29, 3) := by decide +kernel
theorem dX6_shift_12 : decode cX6_shift 12 = .ok (.goto 16, 3) := by decide +kernel
theorem dX6_shift_15 : decode cX6_shift 15 = .ok (.aload_n 0, 1) := by decide +kernel
theorem dX6_shift_16 : decode cX6_shift 16 = .ok (.iload_n 1, 1) := by decide +kernel
theorem dX6_shift_17 : decode cX6_shift 17 = .ok (.iload_n 2, 1) := by decide +kernel
theorem dX6_shift_18 : decode cX6_shift 18 = .ok (.iconst 1, 1) := by decide +kernel
theorem dX6_shift_19 : decode cX6_shift 19 = .ok (.iadd, 1) := by decide +kernel
theorem dX6_shift_20 : decode cX6_shift 20 = .ok (.iload_n 3, 1) := by decide +kernel
theorem dX6_shift_21 : decode cX6_shift 21 = .ok (.iload_n 2, 1) := by decide +kernel
theorem dX6_shift_22 : decode cX6_shift 22 = .ok (.iadd, 1) := by decide +kernel
theorem dX6_shift_23 : decode cX6_shift 23 = .ok (.iload_n 1, 1) := by decide +kernel
theorem dX6_shift_24 : decode cX6_shift 24 = .ok (.isub, 1) := by decide +kernel
theorem dX6_shift_25 : decode cX6_shift 25 = .ok (.invokevirtual 29, 3) := by decide +kernel
theorem dX6_shift_28 : decode cX6_shift 28 = .ok (.return_, 1) := by decide +kernel
theorem dX6_exchange_0 : decode cX6_exchange 0 = .ok (.aload_n 0, 1) := by decide +kernel
theorem dX6_exchange_1 : decode cX6_exchange 1 = .ok (.iload_n 1, 1) := by decide +kernel
theorem dX6_exchange_2 : decode cX6_exchange 2 = .ok (.iload_n 2, 1) := by decide +kernel
theorem dX6_exchange_3 : decode cX6_exchange 3 = .ok (.iconst 1, 1) := by decide +kernel
theorem dX6_exchange_4 : decode cX6_exchange 4 = .ok (.isub, 1) := by decide +kernel
theorem dX6_exchange_5 : decode cX6_exchange 5 = .ok (.invokevirtual 33, 3) := by decide +kernel
theorem dX6_exchange_8 : decode cX6_exchange 8 = .ok (.aload_n 0, 1) := by decide +kernel
theorem dX6_exchange_9 : decode cX6_exchange 9 = .ok (.iload_n 2, 1) := by decide +kernel
theorem dX6_exchange_10 : decode cX6_exchange 10 = .ok (.iload_n 3, 1) := by decide +kernel
theorem dX6_exchange_11 : decode cX6_exchange 11 = .ok (.invokevirtual 33, 3) := by decide +kernel
theorem dX6_exchange_14 : decode cX6_exchange 14 = .ok (.aload_n 0, 1) := by decide +kernel
theorem dX6_exchange_15 : decode cX6_exchange 15 = .ok (.iload_n 1, 1) := by decide +kernel
theorem dX6_exchange_16 : decode cX6_exchange 16 = .ok (.iload_n 3, 1) := by decide +kernel
theorem dX6_exchange_17 : decode cX6_exchange 17 = .ok (.invokevirtual 33, 3) := by decide +kernel
theorem dX6_exchange_20 : decode cX6_exchange 20 = .ok (.return_, 1) := by decide +kernel
theorem dX6_turn_0 : decode cX6_turn 0 = .ok (.iload_n 1, 1) := by decide +kernel
theorem dX6_turn_1 : decode cX6_turn 1 = .ok (.istore_n 3, 1) := by decide +kernel
theorem dX6_turn_2 : decode cX6_turn 2 = .ok (.iload_n 2, 1) := by decide +kernel
theorem dX6_turn_3 : decode cX6_turn 3 = .ok (.istore 4, 2) := by decide +kernel
theorem dX6_turn_5 : decode cX6_turn 5 = .ok (.iload_n 3, 1) := by decide +kernel
theorem dX6_turn_6 : decode cX6_turn 6 = .ok (.iload 4, 2) := by decide +kernel
theorem dX6_turn_8 : decode cX6_turn 8 = .ok (.if_icmp .ge 59, 3) := by decide +kernel
theorem dX6_turn_11 : decode cX6_turn 11 = .ok (.aload_n 0, 1) := by decide +kernel
theorem dX6_turn_12 : decode cX6_turn 12 = .ok (.iload_n 3, 1) := by decide +kernel
theorem dX6_turn_13 : decode cX6_turn 13 = .ok (.invokevirtual 19, 3) := by decide +kernel
theorem dX6_turn_16 : decode cX6_turn 16 = .ok (.ifCond .eq 51, 3) := by decide +kernel
theorem dX6_turn_19 : decode cX6_turn 19 = .ok (.aload_n 0, 1) := by decide +kernel
theorem dX6_turn_20 : decode cX6_turn 20 = .ok (.iload 4, 2) := by decide +kernel
theorem dX6_turn_22 : decode cX6_turn 22 = .ok (.invokevirtual 19, 3) := by decide +kernel
theorem dX6_turn_25 : decode cX6_turn 25 = .ok (.ifCond .eq 42, 3) := by decide +kernel
theorem dX6_turn_28 : decode cX6_turn 28 = .ok (.aload_n 0, 1) := by decide +kernel
theorem dX6_turn_29 : decode cX6_turn 29 = .ok (.getfield 9, 3) := by decide +kernel
theorem dX6_turn_32 : decode cX6_turn 32 = .ok (.iload_n 3, 1) := by decide +kernel
theorem dX6_turn_33 : decode cX6_turn 33 = .ok (.iaload, 1) := by decide +kernel
theorem dX6_turn_34 : decode cX6_turn 34 = .ok (.istore 5, 2) := by decide +kernel
theorem dX6_turn_36 : decode cX6_turn 36 = .ok (.aload_n 0, 1) := by decide +kernel
theorem dX6_turn_37 : decode cX6_turn 37 = .ok (.getfield 9, 3) := by decide +kernel
theorem dX6_turn_40 : decode cX6_turn 40 = .ok (.iload_n 3, 1) := by decide +kernel
theorem dX6_turn_41 : decode cX6_turn 41 = .ok (.aload_n 0, 1) := by decide +kernel
theorem dX6_turn_42 : decode cX6_turn 42 = .ok (.getfield 9, 3) := by decide +kernel
theorem dX6_turn_45 : decode cX6_turn 45 = .ok (.iload 4, 2) := by decide +kernel
theorem dX6_turn_47 : decode cX6_turn 47 = .ok (.iaload, 1) := by decide +kernel
theorem dX6_turn_48 : decode cX6_turn 48 = .ok (.iastore, 1) := by decide +kernel
theorem dX6_turn_49 : decode cX6_turn 49 = .ok (.aload_n 0, 1) := by decide +kernel
theorem dX6_turn_50 : decode cX6_turn 50 = .ok (.getfield 9, 3) := by decide +kernel
theorem dX6_turn_53 : decode cX6_turn 53 = .ok (.iload 4, 2) := by decide +kernel
theorem dX6_turn_55 : decode cX6_turn 55 = .ok (.iload 5, 2) := by decide +kernel
theorem dX6_turn_57 : decode cX6_turn 57 = .ok (.iastore, 1) := by decide +kernel
theorem dX6_turn_58 : decode cX6_turn 58 = .ok (.iinc 3 1, 3) := by decide +kernel
theorem dX6_turn_61 : decode cX6_turn 61 = .ok (.iinc 4 (-1), 3) := by decide +kernel
theorem dX6_turn_64 : decode cX6_turn 64 = .ok (.goto (-59), 3) := by decide +kernel
theorem dX6_turn_67 : decode cX6_turn 67 = .ok (.return_, 1) := by decide +kernel
theorem dX6_copyFrom_0 : decode cX6_copyFrom 0 = .ok (.aload_n 0, 1) := by decide +kernel
theorem dX6_copyFrom_1 : decode cX6_copyFrom 1 = .ok (.aload_n 1, 1) := by decide +kernel
theorem dX6_copyFrom_2 : decode cX6_copyFrom 2 = .ok (.getfield 15, 3) := by decide +kernel
theorem dX6_copyFrom_5 : decode cX6_copyFrom 5 = .ok (.aload_n 0, 1) := by decide +kernel
theorem dX6_copyFrom_6 : decode cX6_copyFrom 6 = .ok (.getfield 9, 3) := by decide +kernel
theorem dX6_copyFrom_9 : decode cX6_copyFrom 9 = .ok (.arraylength, 1) := by decide +kernel
theorem dX6_copyFrom_10 : decode cX6_copyFrom 10 = .ok (.invokestatic 37, 3) := by decide +kernel
theorem dX6_copyFrom_13 : decode cX6_copyFrom 13 = .ok (.putfield 15, 3) := by decide +kernel
theorem dX6_copyFrom_16 : decode cX6_copyFrom 16 = .ok (.aload_n 1, 1) := by decide +kernel
theorem dX6_copyFrom_17 : decode cX6_copyFrom 17 = .ok (.getfield 9, 3) := by decide +kernel
theorem dX6_copyFrom_20 : decode cX6_copyFrom 20 = .ok (.iconst 0, 1) := by decide +kernel
theorem dX6_copyFrom_21 : decode cX6_copyFrom 21 = .ok (.aload_n 0, 1) := by decide +kernel
theorem dX6_copyFrom_22 : decode cX6_copyFrom 22 = .ok (.getfield 9, 3) := by decide +kernel
theorem dX6_copyFrom_25 : decode cX6_copyFrom 25 = .ok (.iconst 0, 1) := by decide +kernel
theorem dX6_copyFrom_26 : decode cX6_copyFrom 26 = .ok (.aload_n 0, 1) := by decide +kernel
theorem dX6_copyFrom_27 : decode cX6_copyFrom 27 = .ok (.getfield 15, 3) := by decide +kernel
theorem dX6_copyFrom_30 : decode cX6_copyFrom 30 = .ok (.invokestatic 23, 3) := by decide +kernel
theorem dX6_copyFrom_33 : decode cX6_copyFrom 33 = .ok (.return_, 1) := by decide +kernel
theorem dX6_copyPart_0 : decode cX6_copyPart 0 = .ok (.aload_n 0, 1) := by decide +kernel
theorem dX6_copyPart_1 : decode cX6_copyPart 1 = .ok (.invokevirtual 43, 3) := by decide +kernel
theorem dX6_copyPart_4 : decode cX6_copyPart 4 = .ok (.iconst 0, 1) := by decide +kernel
theorem dX6_copyPart_5 : decode cX6_copyPart 5 = .ok (.istore 5, 2) := by decide +kernel
theorem dX6_copyPart_7 : decode cX6_copyPart 7 = .ok (.iload 5, 2) := by decide +kernel
theorem dX6_copyPart_9 : decode cX6_copyPart 9 = .ok (.iload 4, 2) := by decide +kernel
theorem dX6_copyPart_11 : decode cX6_copyPart 11 = .ok (.if_icmp .ge 36, 3) := by decide +kernel
theorem dX6_copyPart_14 : decode cX6_copyPart 14 = .ok (.aload_n 1, 1) := by decide +kernel
theorem dX6_copyPart_15 : decode cX6_copyPart 15 = .ok (.iload_n 2, 1) := by decide +kernel
theorem dX6_copyPart_16 : decode cX6_copyPart 16 = .ok (.iload 5, 2) := by decide +kernel
theorem dX6_copyPart_18 : decode cX6_copyPart 18 = .ok (.iload_n 3, 1) := by decide +kernel
theorem dX6_copyPart_19 : decode cX6_copyPart 19 = .ok (.imul, 1) := by decide +kernel
theorem dX6_copyPart_20 : decode cX6_copyPart 20 = .ok (.iadd, 1) := by decide +kernel
theorem dX6_copyPart_21 : decode cX6_copyPart 21 = .ok (.invokevirtual 19, 3) := by decide +kernel
theorem dX6_copyPart_24 : decode cX6_copyPart 24 = .ok (.ifCond .eq 23, 3) := by decide +kernel
theorem dX6_copyPart_27 : decode cX6_copyPart 27 = .ok (.aload_n 0, 1) := by decide +kernel
theorem dX6_copyPart_28 : decode cX6_copyPart 28 = .ok (.aload_n 1, 1) := by decide +kernel
theorem dX6_copyPart_29 : decode cX6_copyPart 29 = .ok (.iload_n 2, 1) := by decide +kernel
theorem dX6_copyPart_30 : decode cX6_copyPart 30 = .ok (.iload 5, 2) := by decide +kernel
theorem dX6_copyPart_32 : decode cX6_copyPart 32 = .ok (.iload_n 3, 1) := by decide +kernel
theorem dX6_copyPart_33 : decode cX6_copyPart 33 = .ok (.imul, 1) := by decide +kernel
theorem dX6_copyPart_34 : decode cX6_copyPart 34 = .ok (.iadd, 1) := by decide +kernel
theorem dX6_copyPart_35 : decode cX6_copyPart 35 = .ok (.invokevirtual 46, 3) := by decide +kernel
theorem dX6_copyPart_38 : decode cX6_copyPart 38 = .ok (.invokevirtual 50, 3) := by decide +kernel
theorem dX6_copyPart_41 : decode cX6_copyPart 41 = .ok (.iinc 5 1, 3) := by decide +kernel
theorem dX6_copyPart_44 : decode cX6_copyPart 44 = .ok (.goto (-37), 3) := by decide +kernel
theorem dX6_copyPart_47 : decode cX6_copyPart 47 = .ok (.return_, 1) := by decide +kernel
theorem dX6_countAlike_0 : decode cX6_countAlike 0 = .ok (.iconst 0, 1) := by decide +kernel
theorem dX6_countAlike_1 : decode cX6_countAlike 1 = .ok (.istore 4, 2) := by decide +kernel
theorem dX6_countAlike_3 : decode cX6_countAlike 3 = .ok (.iload 4, 2) := by decide +kernel
theorem dX6_countAlike_5 : decode cX6_countAlike 5 = .ok (.aload_n 1, 1) := by decide +kernel
theorem dX6_countAlike_6 : decode cX6_countAlike 6 = .ok (.getfield 15, 3) := by decide +kernel
theorem dX6_countAlike_9 : decode cX6_countAlike 9 = .ok (.if_icmp .ge 28, 3) := by decide +kernel
theorem dX6_countAlike_12 : decode cX6_countAlike 12 = .ok (.aload_n 0, 1) := by decide +kernel
theorem dX6_countAlike_13 : decode cX6_countAlike 13 = .ok (.iload_n 2, 1) := by decide +kernel
theorem dX6_countAlike_14 : decode cX6_countAlike 14 = .ok (.iload 4, 2) := by decide +kernel
theorem dX6_countAlike_16 : decode cX6_countAlike 16 = .ok (.iload_n 3, 1) := by decide +kernel
theorem dX6_countAlike_17 : decode cX6_countAlike 17 = .ok (.imul, 1) := by decide +kernel
theorem dX6_countAlike_18 : decode cX6_countAlike 18 = .ok (.iadd, 1) := by decide +kernel
theorem dX6_countAlike_19 : decode cX6_countAlike 19 = .ok (.invokevirtual 46, 3) := by decide +kernel
theorem dX6_countAlike_22 : decode cX6_countAlike 22 = .ok (.aload_n 1, 1) := by decide +kernel
theorem dX6_countAlike_23 : decode cX6_countAlike 23 = .ok (.iload 4, 2) := by decide +kernel
theorem dX6_countAlike_25 : decode cX6_countAlike 25 = .ok (.invokevirtual 46, 3) := by decide +kernel
theorem dX6_countAlike_28 : decode cX6_countAlike 28 = .ok (.if_icmp .ne 9, 3) := by decide +kernel
theorem dX6_countAlike_31 : decode cX6_countAlike 31 = .ok (.iinc 4 1, 3) := by decide +kernel
theorem dX6_countAlike_34 : decode cX6_countAlike 34 = .ok (.goto (-31), 3) := by decide +kernel
theorem dX6_countAlike_37 : decode cX6_countAlike 37 = .ok (.iload 4, 2) := by decide +kernel
theorem dX6_countAlike_39 : decode cX6_countAlike 39 = .ok (.ireturn, 1) := by decide +kernel
end
section
set_option maxRecDepth 20000 in
theorem ggX2_init_X6_init : GoodIn wsX2_init wsX6_init := goodIn_r _ [13, 14, 2, 3, 15, 16, 21, 22] (by decide +kernel) (by decide +kernel)
set_option maxRecDepth 20000 in
theorem gX2_init_X6_init : GoodIn wsX2_init (wsX6_init) := ggX2_init_X6_init
set_option maxRecDepth 20000 in
theorem ggX2_becomeReply_X6_clear : GoodIn wsX2_becomeReply wsX6_clear := goodIn_r _ [9, 10, 15, 16] (by decide +kernel) (by decide +kernel)
set_option maxRecDepth 20000 in
theorem gX2_becomeReply_X6_clear : GoodIn wsX2_becomeReply (wsV RX2 30 RX6 yX6_clear wsX6_clear) := goodIn_app (goodIn_of _ (by decide +kernel)) ggX2_becomeReply_X6_clear
set_option maxRecDepth 20000 in
theorem ggX2_remember_X6_copyPart : GoodIn wsX2_remember wsX6_copyPart := goodIn_r _ [9, 10, 11, 12, 8, 13, 14, 15, 16, 17, 18, 19, 20, 21, 22, 23, 24, 25, 26, 27, 32, 33] (by decide +kernel) (by decide +kernel)
set_option maxRecDepth 20000 in
theorem gX2_remember_X6_copyPart : GoodIn wsX2_remember (wsV RX2 33 RX6 yX6_copyPart wsX6_copyPart) := goodIn_app (goodIn_of _ (by decide +kernel)) ggX2_remember_X6_copyPart
set_option maxRecDepth 20000 in
theorem ggX2_copyFrom_X6_copyFrom : GoodIn wsX2_copyFrom wsX6_copyFrom := goodIn_r _ [9, 10, 11, 12, 13, 14, 15, 16, 17, 18, 19, 24, 25] (by decide +kernel) (by decide +kernel)
set_option maxRecDepth 20000 in
theorem gX2_copyFrom_X6_copyFrom : GoodIn wsX2_copyFrom (wsV RX2 37 RX6 yX6_copyFrom wsX6_copyFrom) := goodIn_app (goodIn_of _ (by decide +kernel)) ggX2_copyFrom_X6_copyFrom
theorem dX2_init_0 : decode cX2_init 0 = .ok (.aload_n 0, 1) := by decide +kernel
theorem dX2_init_1 : decode cX2_init 1 = .ok (.invokespecial 3, 3) := by decide +kernel
theorem dX2_init_4 : decode cX2_init 4 = .ok (.aload_n 0, 1) := by decide +kernel
theorem dX2_init_5 : decode cX2_init 5 = .ok (.bipush (-6), 2) := by decide +kernel
theorem dX2_init_7 : decode cX2_init 7 = .ok (.putfield 9, 3) := by decide +kernel
theorem dX2_init_10 : decode cX2_init 10 = .ok (.aload_n 0, 1) := by decide +kernel
theorem dX2_init_11 : decode cX2_init 11 = .ok (.new 15, 3) := by decide +kernel
theorem dX2_init_14 : decode cX2_init 14 = .ok (.dup, 1) := by decide +kernel
theorem dX2_init_15 : decode cX2_init 15 = .ok (.bipush 60, 2) := by decide +kernel
theorem dX2_init_17 : decode cX2_init 17 = .ok (.invokespecial 17, 3) := by decide +kernel
theorem dX2_init_20 : decode cX2_init 20 = .ok (.putfield 20, 3) := by decide +kernel
theorem dX2_init_23 : decode cX2_init 23 = .ok (.aload_n 0, 1) := by decide +kernel
theorem dX2_init_24 : decode cX2_init 24 = .ok (.new 15, 3) := by decide +kernel
theorem dX2_init_27 : decode cX2_init 27 = .ok (.dup, 1) := by decide +kernel
theorem dX2_init_28 : decode cX2_init 28 = .ok (.bipush 8, 2) := by decide +kernel
theorem dX2_init_30 : decode cX2_init 30 = .ok (.invokespecial 17, 3) := by decide +kernel
theorem dX2_init_33 : decode cX2_init 33 = .ok (.putfield 24, 3) := by decide +kernel
theorem dX2_init_36 : decode cX2_init 36 = .ok (.aload_n 0, 1) := by decide +kernel
theorem dX2_init_37 : decode cX2_init 37 = .ok (.new 15, 3) := by decide +kernel
theorem dX2_init_40 : decode cX2_init 40 = .ok (.dup, 1) := by decide +kernel
theorem dX2_init_41 : decode cX2_init 41 = .ok (.bipush 8, 2) := by decide +kernel
theorem dX2_init_43 : decode cX2_init 43 = .ok (.invokespecial 17, 3) := by decide +kernel
theorem dX2_init_46 : decode cX2_init 46 = .ok (.putfield 27, 3) := by decide +kernel
theorem dX2_init_49 : decode cX2_init 49 = .ok (.return_, 1) := by decide +kernel
theorem dX2_isReply_0 : decode cX2_isReply 0 = .ok (.aload_n 0, 1) := by decide +kernel
theorem dX2_isReply_1 : decode cX2_isReply 1 = .ok (.getfield 9, 3) := by decide +kernel
theorem dX2_isReply_4 : decode cX2_isReply 4 = .ok (.bipush (-6), 2) := by decide +kernel
theorem dX2_isReply_6 : decode cX2_isReply 6 = .ok (.if_icmp .eq 7, 3) := by decide +kernel
theorem dX2_isReply_9 : decode cX2_isReply 9 = .ok (.iconst 1, 1) := by decide +kernel
theorem dX2_isReply_10 : decode cX2_isReply 10 = .ok (.goto 4, 3) := by decide +kernel
theorem dX2_isReply_13 : decode cX2_isReply 13 = .ok (.iconst 0, 1) := by decide +kernel
theorem dX2_isReply_14 : decode cX2_isReply 14 = .ok (.ireturn, 1) := by decide +kernel
theorem dX2_becomeReply_0 : decode cX2_becomeReply 0 = .ok (.aload_n 0, 1) := by decide +kernel
theorem dX2_becomeReply_1 : decode cX2_becomeReply 1 = .ok (.iload_n 1, 1) := by decide +kernel
theorem dX2_becomeReply_2 : decode cX2_becomeReply 2 = .ok (.putfield 9, 3) := by decide +kernel
theorem dX2_becomeReply_5 : decode cX2_becomeReply 5 = .ok (.aload_n 0, 1) := by decide +kernel
theorem dX2_becomeReply_6 : decode cX2_becomeReply 6 = .ok (.getfield 20, 3) := by decide +kernel
theorem dX2_becomeReply_9 : decode cX2_becomeReply 9 = .ok (.invokevirtual 30, 3) := by decide +kernel
theorem dX2_becomeReply_12 : decode cX2_becomeReply 12 = .ok (.aload_n 0, 1) := by decide +kernel
theorem dX2_becomeReply_13 : decode cX2_becomeReply 13 = .ok (.getfield 24, 3) := by decide +kernel
theorem dX2_becomeReply_16 : decode cX2_becomeReply 16 = .ok (.invokevirtual 30, 3) := by decide +kernel
theorem dX2_becomeReply_19 : decode cX2_becomeReply 19 = .ok (.aload_n 0, 1) := by decide +kernel
theorem dX2_becomeReply_20 : decode cX2_becomeReply 20 = .ok (.getfield 27, 3) := by decide +kernel
theorem dX2_becomeReply_23 : decode cX2_becomeReply 23 = .ok (.invokevirtual 30, 3) := by decide +kernel
theorem dX2_becomeReply_26 : decode cX2_becomeReply 26 = .ok (.return_, 1) := by decide +kernel
theorem dX2_remember_0 : decode cX2_remember 0 = .ok (.aload_n 0, 1) := by decide +kernel
theorem dX2_remember_1 : decode cX2_remember 1 = .ok (.bipush (-6), 2) := by decide +kernel
theorem dX2_remember_3 : decode cX2_remember 3 = .ok (.putfield 9, 3) := by decide +kernel
theorem dX2_remember_6 : decode cX2_remember 6 = .ok (.aload_n 0, 1) := by decide +kernel
theorem dX2_remember_7 : decode cX2_remember 7 = .ok (.getfield 20, 3) := by decide +kernel
theorem dX2_remember_10 : decode cX2_remember 10 = .ok (.aload_n 1, 1) := by decide +kernel
theorem dX2_remember_11 : decode cX2_remember 11 = .ok (.iload_n 2, 1) := by decide +kernel
theorem dX2_remember_12 : decode cX2_remember 12 = .ok (.iconst 1, 1) := by decide +kernel
theorem dX2_remember_13 : decode cX2_remember 13 = .ok (.iload_n 3, 1) := by decide +kernel
theorem dX2_remember_14 : decode cX2_remember 14 = .ok (.iload_n 2, 1) := by decide +kernel
theorem dX2_remember_15 : decode cX2_remember 15 = .ok (.isub, 1) := by decide +kernel
theorem dX2_remember_16 : decode cX2_remember 16 = .ok (.iconst 1, 1) := by decide +kernel
theorem dX2_remember_17 : decode cX2_remember 17 = .ok (.iadd, 1) := by decide +kernel
theorem dX2_remember_18 : decode cX2_remember 18 = .ok (.invokevirtual 33, 3) := by decide +kernel
theorem dX2_remember_21 : decode cX2_remember 21 = .ok (.aload_n 0, 1) := by decide +kernel
theorem dX2_remember_22 : decode cX2_remember 22 = .ok (.getfield 24, 3) := by decide +kernel
theorem dX2_remember_25 : decode cX2_remember 25 = .ok (.aload_n 1, 1) := by decide +kernel
theorem dX2_remember_26 : decode cX2_remember 26 = .ok (.iload_n 2, 1) := by decide +kernel
theorem dX2_remember_27 : decode cX2_remember 27 = .ok (.iconst 1, 1) := by decide +kernel
theorem dX2_remember_28 : decode cX2_remember 28 = .ok (.isub, 1) := by decide +kernel
theorem dX2_remember_29 : decode cX2_remember 29 = .ok (.iconst (-1), 1) := by decide +kernel
theorem dX2_remember_30 : decode cX2_remember 30 = .ok (.iload 4, 2) := by decide +kernel
theorem dX2_remember_32 : decode cX2_remember 32 = .ok (.invokevirtual 33, 3) := by decide +kernel
theorem dX2_remember_35 : decode cX2_remember 35 = .ok (.aload_n 0, 1) := by decide +kernel
theorem dX2_remember_36 : decode cX2_remember 36 = .ok (.getfield 27, 3) := by decide +kernel
theorem dX2_remember_39 : decode cX2_remember 39 = .ok (.aload_n 1, 1) := by decide +kernel
theorem dX2_remember_40 : decode cX2_remember 40 = .ok (.iload_n 3, 1) := by decide +kernel
theorem dX2_remember_41 : decode cX2_remember 41 = .ok (.iconst 1, 1) := by decide +kernel
theorem dX2_remember_42 : decode cX2_remember 42 = .ok (.iadd, 1) := by decide +kernel
theorem dX2_remember_43 : decode cX2_remember 43 = .ok (.iconst 1, 1) := by decide +kernel
theorem dX2_remember_44 : decode cX2_remember 44 = .ok (.iload 4, 2) := by decide +kernel
theorem dX2_remember_46 : decode cX2_remember 46 = .ok (.invokevirtual 33, 3) := by decide +kernel
theorem dX2_remember_49 : decode cX2_remember 49 = .ok (.return_, 1) := by decide +kernel
theorem dX2_copyFrom_0 : decode cX2_copyFrom 0 = .ok (.aload_n 0, 1) := by decide +kernel
theorem dX2_copyFrom_1 : decode cX2_copyFrom 1 = .ok (.aload_n 1, 1) := by decide +kernel
theorem dX2_copyFrom_2 : decode cX2_copyFrom 2 = .ok (.getfield 9, 3) := by decide +kernel
theorem dX2_copyFrom_5 : decode cX2_copyFrom 5 = .ok (.putfield 9, 3) := by decide +kernel
theorem dX2_copyFrom_8 : decode cX2_copyFrom 8 = .ok (.aload_n 0, 1) := by decide +kernel
theorem dX2_copyFrom_9 : decode cX2_copyFrom 9 = .ok (.getfield 20, 3) := by decide +kernel
theorem dX2_copyFrom_12 : decode cX2_copyFrom 12 = .ok (.aload_n 1, 1) := by decide +kernel
theorem dX2_copyFrom_13 : decode cX2_copyFrom 13 = .ok (.getfield 20, 3) := by decide +kernel
theorem dX2_copyFrom_16 : decode cX2_copyFrom 16 = .ok (.invokevirtual 37, 3) := by decide +kernel
theorem dX2_copyFrom_19 : decode cX2_copyFrom 19 = .ok (.aload_n 0, 1) := by decide +kernel
theorem dX2_copyFrom_20 : decode cX2_copyFrom 20 = .ok (.getfield 24, 3) := by decide +kernel
theorem dX2_copyFrom_23 : decode cX2_copyFrom 23 = .ok (.aload_n 1, 1) := by decide +kernel
theorem dX2_copyFrom_24 : decode cX2_copyFrom 24 = .ok (.getfield 24, 3) := by decide +kernel
theorem dX2_copyFrom_27 : decode cX2_copyFrom 27 = .ok (.invokevirtual 37, 3) := by decide +kernel
theorem dX2_copyFrom_30 : decode cX2_copyFrom 30 = .ok (.aload_n 0, 1) := by decide +kernel
theorem dX2_copyFrom_31 : decode cX2_copyFrom 31 = .ok (.getfield 27, 3) := by decide +kernel
theorem dX2_copyFrom_34 : decode cX2_copyFrom 34 = .ok (.aload_n 1, 1) := by decide +kernel
theorem dX2_copyFrom_35 : decode cX2_copyFrom 35 = .ok (.getfield 27, 3) := by decide +kernel
theorem dX2_copyFrom_38 : decode cX2_copyFrom 38 = .ok (.invokevirtual 37, 3) := by decide +kernel
theorem dX2_copyFrom_41 : decode cX2_copyFrom 41 = .ok (.return_, 1) := by decide +kernel
set_option maxRecDepth 20000 in
theorem ggX5_gather_X6_item : GoodIn wsX5_gather wsX6_item := goodIn_r _ [10, 11, 12, 20, 21] (by decide +kernel) (by decide +kernel)
set_option maxRecDepth 20000 in
theorem gX5_gather_X6_item : GoodIn wsX5_gather (wsV RX5 29 RX6 yX6_item wsX6_item) := goodIn_app (goodIn_of _ (by decide +kernel)) ggX5_gather_X6_item
set_option maxRecDepth 20000 in
theorem ggX5_gather_X8_isIn : GoodIn wsX5_gather wsX8_isIn := goodIn_r _ [15] (by decide +kernel) (by decide +kernel)
set_option maxRecDepth 20000 in
theorem gX5_gather_X8_isIn_n33 : GoodIn wsX5_gather (wsX8_isIn) := ggX5_gather_X8_isIn
theorem dX5_init_0 : decode cX5_init 0 = .ok (.aload_n 0, 1) := by decide +kernel
theorem dX5_init_1 : decode cX5_init 1 = .ok (.invokespecial 3, 3) := by decide +kernel
theorem dX5_init_4 : decode cX5_init 4 = .ok (.return_, 1) := by decide +kernel
theorem dX5_gather_0 : decode cX5_gather 0 = .ok (.aload_n 0, 1) := by decide +kernel
theorem dX5_gather_1 : decode cX5_gather 1 = .ok (.iconst 0, 1) := by decide +kernel
theorem dX5_gather_2 : decode cX5_gather 2 = .ok (.putfield 9, 3) := by decide +kernel
theorem dX5_gather_5 : decode cX5_gather 5 = .ok (.aload_n 0, 1) := by decide +kernel
theorem dX5_gather_6 : decode cX5_gather 6 = .ok (.iconst 0, 1) := by decide +kernel
theorem dX5_gather_7 : decode cX5_gather 7 = .ok (.putfield 15, 3) := by decide +kernel
theorem dX5_gather_10 : decode cX5_gather 10 = .ok (.aload_n 0, 1) := by decide +kernel
theorem dX5_gather_11 : decode cX5_gather 11 = .ok (.bipush (-6), 2) := by decide +kernel
theorem dX5_gather_13 : decode cX5_gather 13 = .ok (.putfield 18, 3) := by decide +kernel
theorem dX5_gather_16 : decode cX5_gather 16 = .ok (.aload_n 0, 1) := by decide +kernel
theorem dX5_gather_17 : decode cX5_gather 17 = .ok (.bipush (-6), 2) := by decide +kernel
theorem dX5_gather_19 : decode cX5_gather 19 = .ok (.putfield 21, 3) := by decide +kernel
theorem dX5_gather_22 : decode cX5_gather 22 = .ok (.iconst 0, 1) := by decide +kernel
theorem dX5_gather_23 : decode cX5_gather 23 = .ok (.istore_n 3, 1) := by decide +kernel
theorem dX5_gather_24 : decode cX5_gather 24 = .ok (.iconst 0, 1) := by decide +kernel
theorem dX5_gather_25 : decode cX5_gather 25 = .ok (.istore 4, 2) := by decide +kernel
theorem dX5_gather_27 : decode cX5_gather 27 = .ok (.iconst 0, 1) := by decide +kernel
theorem dX5_gather_28 : decode cX5_gather 28 = .ok (.istore 5, 2) := by decide +kernel
theorem dX5_gather_30 : decode cX5_gather 30 = .ok (.iload 5, 2) := by decide +kernel
theorem dX5_gather_32 : decode cX5_gather 32 = .ok (.aload_n 1, 1) := by decide +kernel
theorem dX5_gather_33 : decode cX5_gather 33 = .ok (.getfield 24, 3) := by decide +kernel
theorem dX5_gather_36 : decode cX5_gather 36 = .ok (.if_icmp .ge 86, 3) := by decide +kernel
theorem dX5_gather_39 : decode cX5_gather 39 = .ok (.aload_n 1, 1) := by decide +kernel
theorem dX5_gather_40 : decode cX5_gather 40 = .ok (.iload 5, 2) := by decide +kernel
theorem dX5_gather_42 : decode cX5_gather 42 = .ok (.invokevirtual 29, 3) := by decide +kernel
theorem dX5_gather_45 : decode cX5_gather 45 = .ok (.iload_n 2, 1) := by decide +kernel
theorem dX5_gather_46 : decode cX5_gather 46 = .ok (.invokestatic 33, 3) := by decide +kernel
theorem dX5_gather_49 : decode cX5_gather 49 = .ok (.ifCond .ne 11, 3) := by decide +kernel
theorem dX5_gather_52 : decode cX5_gather 52 = .ok (.iload 5, 2) := by decide +kernel
theorem dX5_gather_54 : decode cX5_gather 54 = .ok (.iconst 1, 1) := by decide +kernel
theorem dX5_gather_55 : decode cX5_gather 55 = .ok (.iadd, 1) := by decide +kernel
theorem dX5_gather_56 : decode cX5_gather 56 = .ok (.istore_n 3, 1) := by decide +kernel
theorem dX5_gather_57 : decode cX5_gather 57 = .ok (.goto 59, 3) := by decide +kernel
theorem dX5_gather_60 : decode cX5_gather 60 = .ok (.aload_n 0, 1) := by decide +kernel
theorem dX5_gather_61 : decode cX5_gather 61 = .ok (.dup, 1) := by decide +kernel
theorem dX5_gather_62 : decode cX5_gather 62 = .ok (.getfield 15, 3) := by decide +kernel
theorem dX5_gather_65 : decode cX5_gather 65 = .ok (.iconst 1, 1) := by decide +kernel
theorem dX5_gather_66 : decode cX5_gather 66 = .ok (.iadd, 1) := by decide +kernel
theorem dX5_gather_67 : decode cX5_gather 67 = .ok (.putfield 15, 3) := by decide +kernel
theorem dX5_gather_70 : decode cX5_gather 70 = .ok (.iload_n 3, 1) := by decide +kernel
theorem dX5_gather_71 : decode cX5_gather 71 = .ok (.iload 5, 2) := by decide +kernel
theorem dX5_gather_73 : decode cX5_gather 73 = .ok (.if_icmp .ne 13, 3) := by decide +kernel
theorem dX5_gather_76 : decode cX5_gather 76 = .ok (.aload_n 0, 1) := by decide +kernel
theorem dX5_gather_77 : decode cX5_gather 77 = .ok (.dup, 1) := by decide +kernel
theorem dX5_gather_78 : decode cX5_gather 78 = .ok (.getfield 9, 3) := by decide +kernel
theorem dX5_gather_81 : decode cX5_gather 81 = .ok (.iconst 1, 1) := by decide +kernel
theorem dX5_gather_82 : decode cX5_gather 82 = .ok (.iadd, 1) := by decide +kernel
theorem dX5_gather_83 : decode cX5_gather 83 = .ok (.putfield 9, 3) := by decide +kernel
theorem dX5_gather_86 : decode cX5_gather 86 = .ok (.iload 5, 2) := by decide +kernel
theorem dX5_gather_88 : decode cX5_gather 88 = .ok (.iload_n 3, 1) := by decide +kernel
theorem dX5_gather_89 : decode cX5_gather 89 = .ok (.isub, 1) := by decide +kernel
theorem dX5_gather_90 : decode cX5_gather 90 = .ok (.iconst 1, 1) := by decide +kernel
theorem dX5_gather_91 : decode cX5_gather 91 = .ok (.iadd, 1) := by decide +kernel
theorem dX5_gather_92 : decode cX5_gather 92 = .ok (.istore 6, 2) := by decide +kernel
theorem dX5_gather_94 : decode cX5_gather 94 = .ok (.iload 6, 2) := by decide +kernel
theorem dX5_gather_96 : decode cX5_gather 96 = .ok (.iload 4, 2) := by decide +kernel
theorem dX5_gather_98 : decode cX5_gather 98 = .ok (.if_icmp .le 18, 3) := by decide +kernel
theorem dX5_gather_101 : decode cX5_gather 101 = .ok (.iload 6, 2) := by decide +kernel
theorem dX5_gather_103 : decode cX5_gather 103 = .ok (.istore 4, 2) := by decide +kernel
theorem dX5_gather_105 : decode cX5_gather 105 = .ok (.aload_n 0, 1) := by decide +kernel
theorem dX5_gather_106 : decode cX5_gather 106 = .ok (.iload_n 3, 1) := by decide +kernel
theorem dX5_gather_107 : decode cX5_gather 107 = .ok (.putfield 18, 3) := by decide +kernel
theorem dX5_gather_110 : decode cX5_gather 110 = .ok (.aload_n 0, 1) := by decide +kernel
theorem dX5_gather_111 : decode cX5_gather 111 = .ok (.iload 5, 2) := by decide +kernel
theorem dX5_gather_113 : decode cX5_gather 113 = .ok (.putfield 21, 3) := by decide +kernel
theorem dX5_gather_116 : decode cX5_gather 116 = .ok (.iinc 5 1, 3) := by decide +kernel
theorem dX5_gather_119 : decode cX5_gather 119 = .ok (.goto (-89), 3) := by decide +kernel
theorem dX5_gather_122 : decode cX5_gather 122 = .ok (.return_, 1) := by decide +kernel
set_option maxRecDepth 20000 in
theorem ggX7_look_X6_countAlike : GoodIn wsX7_look wsX6_countAlike := goodIn_r _ [12, 13, 14, 15, 16, 11, 17, 18, 26, 27] (by decide +kernel) (by decide +kernel)
set_option maxRecDepth 20000 in
theorem gX7_look_X6_countAlike : GoodIn wsX7_look (wsV RX7 32 RX6 yX6_countAlike wsX6_countAlike) := goodIn_app (goodIn_of _ (by decide +kernel)) ggX7_look_X6_countAlike
theorem dX7_init_0 : decode cX7_init 0 = .ok (.aload_n 0, 1) := by decide +kernel
theorem dX7_init_1 : decode cX7_init 1 = .ok (.invokespecial 3, 3) := by decide +kernel
theorem dX7_init_4 : decode cX7_init 4 = .ok (.return_, 1) := by decide +kernel
theorem dX7_look_0 : decode cX7_look 0 = .ok (.aload_n 0, 1) := by decide +kernel
theorem dX7_look_1 : decode cX7_look 1 = .ok (.bipush (-6), 2) := by decide +kernel
theorem dX7_look_3 : decode cX7_look 3 = .ok (.putfield 9, 3) := by decide +kernel
theorem dX7_look_6 : decode cX7_look 6 = .ok (.aload_n 0, 1) := by decide +kernel
theorem dX7_look_7 : decode cX7_look 7 = .ok (.bipush (-6), 2) := by decide +kernel
theorem dX7_look_9 : decode cX7_look 9 = .ok (.putfield 15, 3) := by decide +kernel
theorem dX7_look_12 : decode cX7_look 12 = .ok (.aload_n 0, 1) := by decide +kernel
theorem dX7_look_13 : decode cX7_look 13 = .ok (.iconst 0, 1) := by decide +kernel
theorem dX7_look_14 : decode cX7_look 14 = .ok (.putfield 18, 3) := by decide +kernel
theorem dX7_look_17 : decode cX7_look 17 = .ok (.aload_n 2, 1) := by decide +kernel
theorem dX7_look_18 : decode cX7_look 18 = .ok (.getfield 21, 3) := by decide +kernel
theorem dX7_look_21 : decode cX7_look 21 = .ok (.getfield 27, 3) := by decide +kernel
theorem dX7_look_24 : decode cX7_look 24 = .ok (.istore_n 3, 1) := by decide +kernel
theorem dX7_look_25 : decode cX7_look 25 = .ok (.iconst 0, 1) := by decide +kernel
theorem dX7_look_26 : decode cX7_look 26 = .ok (.istore 4, 2) := by decide +kernel
theorem dX7_look_28 : decode cX7_look 28 = .ok (.iload 4, 2) := by decide +kernel
theorem dX7_look_30 : decode cX7_look 30 = .ok (.iload_n 3, 1) := by decide +kernel
theorem dX7_look_31 : decode cX7_look 31 = .ok (.iadd, 1) := by decide +kernel
theorem dX7_look_32 : decode cX7_look 32 = .ok (.aload_n 1, 1) := by decide +kernel
theorem dX7_look_33 : decode cX7_look 33 = .ok (.getfield 27, 3) := by decide +kernel
theorem dX7_look_36 : decode cX7_look 36 = .ok (.if_icmp .gt 91, 3) := by decide +kernel
theorem dX7_look_39 : decode cX7_look 39 = .ok (.aload_n 1, 1) := by decide +kernel
theorem dX7_look_40 : decode cX7_look 40 = .ok (.aload_n 2, 1) := by decide +kernel
theorem dX7_look_41 : decode cX7_look 41 = .ok (.getfield 21, 3) := by decide +kernel
theorem dX7_look_44 : decode cX7_look 44 = .ok (.iload 4, 2) := by decide +kernel
theorem dX7_look_46 : decode cX7_look 46 = .ok (.iconst 1, 1) := by decide +kernel
theorem dX7_look_47 : decode cX7_look 47 = .ok (.invokevirtual 32, 3) := by decide +kernel
theorem dX7_look_50 : decode cX7_look 50 = .ok (.iload_n 3, 1) := by decide +kernel
theorem dX7_look_51 : decode cX7_look 51 = .ok (.if_icmp .ne 70, 3) := by decide +kernel
theorem dX7_look_54 : decode cX7_look 54 = .ok (.aload_n 1, 1) := by decide +kernel
theorem dX7_look_55 : decode cX7_look 55 = .ok (.aload_n 2, 1) := by decide +kernel
theorem dX7_look_56 : decode cX7_look 56 = .ok (.getfield 36, 3) := by decide +kernel
theorem dX7_look_59 : decode cX7_look 59 = .ok (.iload 4, 2) := by decide +kernel
theorem dX7_look_61 : decode cX7_look 61 = .ok (.iconst 1, 1) := by decide +kernel
theorem dX7_look_62 : decode cX7_look 62 = .ok (.isub, 1) := by decide +kernel
theorem dX7_look_63 : decode cX7_look 63 = .ok (.iconst (-1), 1) := by decide +kernel
theorem dX7_look_64 : decode cX7_look 64 = .ok (.invokevirtual 32, 3) := by decide +kernel
theorem dX7_look_67 : decode cX7_look 67 = .ok (.aload_n 1, 1) := by decide +kernel
theorem dX7_look_68 : decode cX7_look 68 = .ok (.aload_n 2, 1) := by decide +kernel
theorem dX7_look_69 : decode cX7_look 69 = .ok (.getfield 39, 3) := by decide +kernel
theorem dX7_look_72 : decode cX7_look 72 = .ok (.iload 4, 2) := by decide +kernel
theorem dX7_look_74 : decode cX7_look 74 = .ok (.iload_n 3, 1) := by decide +kernel
theorem dX7_look_75 : decode cX7_look 75 = .ok (.iadd, 1) := by decide +kernel
theorem dX7_look_76 : decode cX7_look 76 = .ok (.iconst 1, 1) := by decide +kernel
theorem dX7_look_77 : decode cX7_look 77 = .ok (.invokevirtual 32, 3) := by decide +kernel
theorem dX7_look_80 : decode cX7_look 80 = .ok (.iadd, 1) := by decide +kernel
theorem dX7_look_81 : decode cX7_look 81 = .ok (.istore 5, 2) := by decide +kernel
theorem dX7_look_83 : decode cX7_look 83 = .ok (.aload_n 0, 1) := by decide +kernel
theorem dX7_look_84 : decode cX7_look 84 = .ok (.getfield 18, 3) := by decide +kernel
theorem dX7_look_87 : decode cX7_look 87 = .ok (.ifCond .eq 12, 3) := by decide +kernel
theorem dX7_look_90 : decode cX7_look 90 = .ok (.iload 5, 2) := by decide +kernel
theorem dX7_look_92 : decode cX7_look 92 = .ok (.aload_n 0, 1) := by decide +kernel
theorem dX7_look_93 : decode cX7_look 93 = .ok (.getfield 15, 3) := by decide +kernel
theorem dX7_look_96 : decode cX7_look 96 = .ok (.if_icmp .le 15, 3) := by decide +kernel
theorem dX7_look_99 : decode cX7_look 99 = .ok (.aload_n 0, 1) := by decide +kernel
theorem dX7_look_100 : decode cX7_look 100 = .ok (.iload 4, 2) := by decide +kernel
theorem dX7_look_102 : decode cX7_look 102 = .ok (.putfield 9, 3) := by decide +kernel
theorem dX7_look_105 : decode cX7_look 105 = .ok (.aload_n 0, 1) := by decide +kernel
theorem dX7_look_106 : decode cX7_look 106 = .ok (.iload 5, 2) := by decide +kernel
theorem dX7_look_108 : decode cX7_look 108 = .ok (.putfield 15, 3) := by decide +kernel
theorem dX7_look_111 : decode cX7_look 111 = .ok (.aload_n 0, 1) := by decide +kernel
theorem dX7_look_112 : decode cX7_look 112 = .ok (.dup, 1) := by decide +kernel
theorem dX7_look_113 : decode cX7_look 113 = .ok (.getfield 18, 3) := by decide +kernel
theorem dX7_look_116 : decode cX7_look 116 = .ok (.iconst 1, 1) := by decide +kernel
theorem dX7_look_117 : decode cX7_look 117 = .ok (.iadd, 1) := by decide +kernel
theorem dX7_look_118 : decode cX7_look 118 = .ok (.putfield 18, 3) := by decide +kernel
theorem dX7_look_121 : decode cX7_look 121 = .ok (.iinc 4 1, 3) := by decide +kernel
theorem dX7_look_124 : decode cX7_look 124 = .ok (.goto (-96), 3) := by decide +kernel
theorem dX7_look_127 : decode cX7_look 127 = .ok (.return_, 1) := by decide +kernel
theorem dJ6_bitCount_0f7a4_0 : decode cJ6_bitCount_0f7a4 0 = .ok (.iload_n 0, 1) := by decide +kernel
theorem dJ6_bitCount_0f7a4_1 : decode cJ6_bitCount_0f7a4 1 = .ok (.iload_n 0, 1) := by decide +kernel
theorem dJ6_bitCount_0f7a4_2 : decode cJ6_bitCount_0f7a4 2 = .ok (.iconst 1, 1) := by decide +kernel
theorem dJ6_bitCount_0f7a4_3 : decode cJ6_bitCount_0f7a4 3 = .ok (.iushr, 1) := by decide +kernel
theorem dJ6_bitCount_0f7a4_4 : decode cJ6_bitCount_0f7a4 4 = .ok (.ldc_w 265, 3) := by decide +kernel
theorem dJ6_bitCount_0f7a4_7 : decode cJ6_bitCount_0f7a4 7 = .ok (.iand, 1) := by decide +kernel
theorem dJ6_bitCount_0f7a4_8 : decode cJ6_bitCount_0f7a4 8 = .ok (.isub, 1) := by decide +kernel
theorem dJ6_bitCount_0f7a4_9 : decode cJ6_bitCount_0f7a4 9 = .ok (.istore_n 0, 1) := by decide +kernel
theorem dJ6_bitCount_0f7a4_10 : decode cJ6_bitCount_0f7a4 10 = .ok (.iload_n 0, 1) := by decide +kernel
theorem dJ6_bitCount_0f7a4_11 : decode cJ6_bitCount_0f7a4 11 = .ok (.ldc_w 266, 3) := by decide +kernel
theorem dJ6_bitCount_0f7a4_14 : decode cJ6_bitCount_0f7a4 14 = .ok (.iand, 1) := by decide +kernel
theorem dJ6_bitCount_0f7a4_15 : decode cJ6_bitCount_0f7a4 15 = .ok (.iload_n 0, 1) := by decide +kernel
theorem dJ6_bitCount_0f7a4_16 : decode cJ6_bitCount_0f7a4 16 = .ok (.iconst 2, 1) := by decide +kernel
theorem dJ6_bitCount_0f7a4_17 : decode cJ6_bitCount_0f7a4 17 = .ok (.iushr, 1) := by decide +kernel
theorem dJ6_bitCount_0f7a4_18 : decode cJ6_bitCount_0f7a4 18 = .ok (.ldc_w 266, 3) := by decide +kernel
theorem dJ6_bitCount_0f7a4_21 : decode cJ6_bitCount_0f7a4 21 = .ok (.iand, 1) := by decide +kernel
theorem dJ6_bitCount_0f7a4_22 : decode cJ6_bitCount_0f7a4 22 = .ok (.iadd, 1) := by decide +kernel
theorem dJ6_bitCount_0f7a4_23 : decode cJ6_bitCount_0f7a4 23 = .ok (.istore_n 0, 1) := by decide +kernel
theorem dJ6_bitCount_0f7a4_24 : decode cJ6_bitCount_0f7a4 24 = .ok (.iload_n 0, 1) := by decide +kernel
theorem dJ6_bitCount_0f7a4_25 : decode cJ6_bitCount_0f7a4 25 = .ok (.iload_n 0, 1) := by decide +kernel
theorem dJ6_bitCount_0f7a4_26 : decode cJ6_bitCount_0f7a4 26 = .ok (.iconst 4, 1) := by decide +kernel
theorem dJ6_bitCount_0f7a4_27 : decode cJ6_bitCount_0f7a4 27 = .ok (.iushr, 1) := by decide +kernel
theorem dJ6_bitCount_0f7a4_28 : decode cJ6_bitCount_0f7a4 28 = .ok (.iadd, 1) := by decide +kernel
theorem dJ6_bitCount_0f7a4_29 : decode cJ6_bitCount_0f7a4 29 = .ok (.ldc_w 267, 3) := by decide +kernel
theorem dJ6_bitCount_0f7a4_32 : decode cJ6_bitCount_0f7a4 32 = .ok (.iand, 1) := by decide +kernel
theorem dJ6_bitCount_0f7a4_33 : decode cJ6_bitCount_0f7a4 33 = .ok (.istore_n 0, 1) := by decide +kernel
theorem dJ6_bitCount_0f7a4_34 : decode cJ6_bitCount_0f7a4 34 = .ok (.iload_n 0, 1) := by decide +kernel
theorem dJ6_bitCount_0f7a4_35 : decode cJ6_bitCount_0f7a4 35 = .ok (.iload_n 0, 1) := by decide +kernel
theorem dJ6_bitCount_0f7a4_36 : decode cJ6_bitCount_0f7a4 36 = .ok (.bipush 8, 2) := by decide +kernel
theorem dJ6_bitCount_0f7a4_38 : decode cJ6_bitCount_0f7a4 38 = .ok (.iushr, 1) := by decide +kernel
theorem dJ6_bitCount_0f7a4_39 : decode cJ6_bitCount_0f7a4 39 = .ok (.iadd, 1) := by decide +kernel
theorem dJ6_bitCount_0f7a4_40 : decode cJ6_bitCount_0f7a4 40 = .ok (.istore_n 0, 1) := by decide +kernel
theorem dJ6_bitCount_0f7a4_41 : decode cJ6_bitCount_0f7a4 41 = .ok (.iload_n 0, 1) := by decide +kernel
theorem dJ6_bitCount_0f7a4_42 : decode cJ6_bitCount_0f7a4 42 = .ok (.iload_n 0, 1) := by decide +kernel
theorem dJ6_bitCount_0f7a4_43 : decode cJ6_bitCount_0f7a4 43 = .ok (.bipush 16, 2) := by decide +kernel
theorem dJ6_bitCount_0f7a4_45 : decode cJ6_bitCount_0f7a4 45 = .ok (.iushr, 1) := by decide +kernel
theorem dJ6_bitCount_0f7a4_46 : decode cJ6_bitCount_0f7a4 46 = .ok (.iadd, 1) := by decide +kernel
theorem dJ6_bitCount_0f7a4_47 : decode cJ6_bitCount_0f7a4 47 = .ok (.istore_n 0, 1) := by decide +kernel
theorem dJ6_bitCount_0f7a4_48 : decode cJ6_bitCount_0f7a4 48 = .ok (.iload_n 0, 1) := by decide +kernel
theorem dJ6_bitCount_0f7a4_49 : decode cJ6_bitCount_0f7a4 49 = .ok (.bipush 63, 2) := by decide +kernel
theorem dJ6_bitCount_0f7a4_51 : decode cJ6_bitCount_0f7a4 51 = .ok (.iand, 1) := by decide +kernel
theorem dJ6_bitCount_0f7a4_52 : decode cJ6_bitCount_0f7a4 52 = .ok (.ireturn, 1) := by decide +kernel
set_option maxRecDepth 20000 in
theorem ggX4_init_X6_init : GoodIn wsX4_init wsX6_init := goodIn_r _ [20, 21, 2, 3, 22, 23, 41, 42] (by decide +kernel) (by decide +kernel)
set_option maxRecDepth 20000 in
theorem gX4_init_X6_init : GoodIn wsX4_init (wsX6_init) := ggX4_init_X6_init
set_option maxRecDepth 20000 in
theorem ggX4_init_X5_init : GoodIn wsX4_init wsX5_init := goodIn_r _ [25, 26, 2, 3] (by decide +kernel) (by decide +kernel)
set_option maxRecDepth 20000 in
theorem gX4_init_X5_init_n34 : GoodIn wsX4_init (wsX5_init) := ggX4_init_X5_init
set_option maxRecDepth 20000 in
theorem ggX4_init_X6_add : GoodIn wsX4_init wsX6_add := goodIn_r _ [30, 31, 23, 41, 42] (by decide +kernel) (by decide +kernel)
set_option maxRecDepth 20000 in
theorem gX4_init_X6_add : GoodIn wsX4_init (wsV RX4 39 RX6 yX6_add wsX6_add) := goodIn_app (goodIn_of _ (by decide +kernel)) ggX4_init_X6_add
set_option maxRecDepth 20000 in
theorem ggX4_init_X2_init : GoodIn wsX4_init wsX2_init := goodIn_r _ [33, 34, 2, 3, 35, 36, 5, 6, 37, 38, 39, 40, 19, 20, 21, 22, 23, 53, 54, 55, 56, 41, 42] (by decide +kernel) (by decide +kernel)
set_option maxRecDepth 20000 in
theorem gX4_init_X2_init_n42 : GoodIn wsX4_init (wsX2_init) := ggX4_init_X2_init
set_option maxRecDepth 20000 in
theorem ggX4_copyFrom_X6_copyFrom : GoodIn wsX4_copyFrom wsX6_copyFrom := goodIn_r _ [9, 10, 11, 12, 13, 14, 15, 16, 17, 18, 19, 42, 43] (by decide +kernel) (by decide +kernel)
set_option maxRecDepth 20000 in
theorem gX4_copyFrom_X6_copyFrom : GoodIn wsX4_copyFrom (wsV RX4 43 RX6 yX6_copyFrom wsX6_copyFrom) := goodIn_app (goodIn_of _ (by decide +kernel)) ggX4_copyFrom_X6_copyFrom
set_option maxRecDepth 20000 in
theorem ggX4_copyFrom_X4_find : GoodIn wsX4_copyFrom wsX4_find := goodIn_r _ [24, 4, 25, 36, 37, 38, 39, 40, 41] (by decide +kernel) (by decide +kernel)
set_option maxRecDepth 20000 in
theorem gX4_copyFrom_X4_find : GoodIn wsX4_copyFrom (wsV RX4 51 RX4 yX4_find wsX4_find) := goodIn_app (goodIn_of _ (by decide +kernel)) ggX4_copyFrom_X4_find
set_option maxRecDepth 20000 in
theorem ggX4_copyFrom_X2_copyFrom : GoodIn wsX4_copyFrom wsX2_copyFrom := goodIn_r _ [30, 31, 32, 33, 34, 35, 6, 7, 8, 9, 10, 11, 12, 13, 14, 15, 16, 17, 18, 19, 44, 45, 46, 47, 42, 43] (by decide +kernel) (by decide +kernel)
set_option maxRecDepth 20000 in
theorem gX4_copyFrom_X2_copyFrom : GoodIn wsX4_copyFrom (wsV RX4 55 RX2 yX2_copyFrom wsX2_copyFrom) := goodIn_app (goodIn_of _ (by decide +kernel)) ggX4_copyFrom_X2_copyFrom
set_option maxRecDepth 20000 in
theorem ggX4_changeSetting_X6_has : GoodIn wsX4_changeSetting wsX6_has := goodIn_r _ [6, 7, 8, 31, 32] (by decide +kernel) (by decide +kernel)
set_option maxRecDepth 20000 in
theorem gX4_changeSetting_X6_has : GoodIn wsX4_changeSetting (wsV RX4 58 RX6 yX6_has wsX6_has) := goodIn_app (goodIn_of _ (by decide +kernel)) ggX4_changeSetting_X6_has
set_option maxRecDepth 20000 in
theorem ggX4_changeSetting_X4_leastOf : GoodIn wsX4_changeSetting wsX4_leastOf := goodIn_r _ [12] (by decide +kernel) (by decide +kernel)
set_option maxRecDepth 20000 in
theorem gX4_changeSetting_X4_leastOf : GoodIn wsX4_changeSetting (va_wsS RX4 62 yX4_leastOf wsX4_leastOf) := goodIn_app (goodIn_of _ (by decide +kernel)) ggX4_changeSetting_X4_leastOf
set_option maxRecDepth 20000 in
theorem ggX4_changeSetting_X4_mostOf : GoodIn wsX4_changeSetting wsX4_mostOf := goodIn_r _ [15] (by decide +kernel) (by decide +kernel)
set_option maxRecDepth 20000 in
theorem gX4_changeSetting_X4_mostOf : GoodIn wsX4_changeSetting (va_wsS RX4 66 yX4_mostOf wsX4_mostOf) := goodIn_app (goodIn_of _ (by decide +kernel)) ggX4_changeSetting_X4_mostOf
set_option maxRecDepth 20000 in
theorem ggX4_changeSetting_X6_item : GoodIn wsX4_changeSetting wsX6_item := goodIn_r _ [19, 7, 8, 31, 32] (by decide +kernel) (by decide +kernel)
set_option maxRecDepth 20000 in
theorem gX4_changeSetting_X6_item : GoodIn wsX4_changeSetting (wsV RX4 69 RX6 yX6_item wsX6_item) := goodIn_app (goodIn_of _ (by decide +kernel)) ggX4_changeSetting_X6_item
set_option maxRecDepth 20000 in
theorem ggX4_changeSetting_X6_replace : GoodIn wsX4_changeSetting wsX6_replace := goodIn_r _ [23, 8, 24, 3, 4, 5, 6, 7, 31, 32] (by decide +kernel) (by decide +kernel)
set_option maxRecDepth 20000 in
theorem gX4_changeSetting_X6_replace : GoodIn wsX4_changeSetting (wsV RX4 72 RX6 yX6_replace wsX6_replace) := goodIn_app (goodIn_of _ (by decide +kernel)) ggX4_changeSetting_X6_replace
set_option maxRecDepth 20000 in
theorem ggX4_writeLetter_X6_insert : GoodIn wsX4_writeLetter wsX6_insert := goodIn_r _ [8, 9, 10, 11, 12, 13, 14, 21, 22] (by decide +kernel) (by decide +kernel)
set_option maxRecDepth 20000 in
theorem gX4_writeLetter_X6_insert : GoodIn wsX4_writeLetter (wsV RX4 79 RX6 yX6_insert wsX6_insert) := goodIn_app (goodIn_of _ (by decide +kernel)) ggX4_writeLetter_X6_insert
set_option maxRecDepth 20000 in
theorem ggX4_eraseLetters_X4_orphanedBy : GoodIn wsX4_eraseLetters wsX4_orphanedBy := goodIn_r _ [7, 2, 8, 9, 10, 11, 6, 12, 1, 13, 14, 15, 16, 17, 18, 19, 20, 21, 22, 23, 40, 41, 42, 43, 44, 45, 46, 47] (by decide +kernel) (by decide +kernel)
set_option maxRecDepth 20000 in
theorem gX4_eraseLetters_X4_orphanedBy : GoodIn wsX4_eraseLetters (wsV RX4 82 RX4 yX4_orphanedBy wsX4_orphanedBy) := goodIn_app (goodIn_of _ (by decide +kernel)) ggX4_eraseLetters_X4_orphanedBy
set_option maxRecDepth 20000 in
theorem ggX4_eraseLetters_X6_cut : GoodIn wsX4_eraseLetters wsX6_cut := goodIn_r _ [27, 19, 18, 28, 29, 30, 31, 32, 14, 15, 16, 17, 46, 47] (by decide +kernel) (by decide +kernel)
set_option maxRecDepth 20000 in
theorem gX4_eraseLetters_X6_cut : GoodIn wsX4_eraseLetters (wsV RX4 86 RX6 yX6_cut wsX6_cut) := goodIn_app (goodIn_of _ (by decide +kernel)) ggX4_eraseLetters_X6_cut
set_option maxRecDepth 20000 in
theorem ggX4_eraseLetters_J6_bitCount_0f7a4 : GoodIn wsX4_eraseLetters wsJ6_bitCount_0f7a4 := goodIn_r _ [36, 37, 38, 39] (by decide +kernel) (by decide +kernel)
set_option maxRecDepth 20000 in
theorem gX4_eraseLetters_J6_bitCount_0f7a4 : GoodIn wsX4_eraseLetters (va_wsS RX4 89 yJ6_bitCount_0f7a4 wsJ6_bitCount_0f7a4) := goodIn_app (goodIn_of _ (by decide +kernel)) ggX4_eraseLetters_J6_bitCount_0f7a4
set_option maxRecDepth 20000 in
theorem ggX4_orphanedBy_X4_passageError : GoodIn wsX4_orphanedBy wsX4_passageError := goodIn_r _ [7, 8, 9, 10, 11, 12, 13, 14, 15, 20, 21, 22, 23, 24, 25, 26, 27] (by decide +kernel) (by decide +kernel)
set_option maxRecDepth 20000 in
theorem gX4_orphanedBy_X4_passageError : GoodIn wsX4_orphanedBy (wsV RX4 94 RX4 yX4_passageError wsX4_passageError) := goodIn_app (goodIn_of _ (by decide +kernel)) ggX4_orphanedBy_X4_passageError
set_option maxRecDepth 20000 in
theorem ggX4_orphanedBy_X6_item : GoodIn wsX4_orphanedBy wsX6_item := goodIn_r _ [19, 14, 15, 26, 27] (by decide +kernel) (by decide +kernel)
set_option maxRecDepth 20000 in
theorem gX4_orphanedBy_X6_item : GoodIn wsX4_orphanedBy (wsV RX4 69 RX6 yX6_item wsX6_item) := goodIn_app (goodIn_of _ (by decide +kernel)) ggX4_orphanedBy_X6_item
set_option maxRecDepth 20000 in
theorem ggX4_moveLetters_X4_passageError : GoodIn wsX4_moveLetters wsX4_passageError := goodIn_r _ [8, 1, 9, 10, 11, 12, 13, 14, 15, 57, 58, 59, 60, 61, 62, 63, 64] (by decide +kernel) (by decide +kernel)
set_option maxRecDepth 20000 in
theorem gX4_moveLetters_X4_passageError : GoodIn wsX4_moveLetters (wsV RX4 94 RX4 yX4_passageError wsX4_passageError) := goodIn_app (goodIn_of _ (by decide +kernel)) ggX4_moveLetters_X4_passageError
set_option maxRecDepth 20000 in
theorem ggX4_moveLetters_X6_shift : GoodIn wsX4_moveLetters wsX6_shift := goodIn_r _ [19, 20, 21, 22, 12, 23, 24, 25, 26, 27, 15, 28, 10, 11, 13, 14, 63, 64] (by decide +kernel) (by decide +kernel)
set_option maxRecDepth 20000 in
theorem gX4_moveLetters_X6_shift : GoodIn wsX4_moveLetters (wsV RX4 97 RX6 yX6_shift wsX6_shift) := goodIn_app (goodIn_of _ (by decide +kernel)) ggX4_moveLetters_X6_shift
set_option maxRecDepth 20000 in
theorem ggX4_moveLetters_X4_countParted : GoodIn wsX4_moveLetters wsX4_countParted := goodIn_r _ [32, 33, 34, 35, 36, 37, 7, 38, 39, 3, 40, 41, 42, 43, 44, 45, 46, 47, 48, 49, 50, 51, 52, 12, 53, 14, 15, 54, 55, 56, 57, 58, 59, 60, 61, 62, 65, 66, 67, 68, 63, 64] (by decide +kernel) (by decide +kernel)
set_option maxRecDepth 20000 in
theorem gX4_moveLetters_X4_countParted : GoodIn wsX4_moveLetters (wsV RX4 101 RX4 yX4_countParted wsX4_countParted) := goodIn_app (goodIn_of _ (by decide +kernel)) ggX4_moveLetters_X4_countParted
set_option maxRecDepth 20000 in
theorem ggX4_passageError_X6_has : GoodIn wsX4_passageError wsX6_has := goodIn_r _ [6, 7, 8, 15, 16] (by decide +kernel) (by decide +kernel)
set_option maxRecDepth 20000 in
theorem gX4_passageError_X6_has : GoodIn wsX4_passageError (wsV RX4 58 RX6 yX6_has wsX6_has) := goodIn_app (goodIn_of _ (by decide +kernel)) ggX4_passageError_X6_has
set_option maxRecDepth 20000 in
theorem ggX4_addNote_X4_passageError : GoodIn wsX4_addNote wsX4_passageError := goodIn_r _ [6, 7, 8, 9, 10, 11, 12, 13, 14, 58, 59, 60, 61, 62, 63, 64, 65] (by decide +kernel) (by decide +kernel)
set_option maxRecDepth 20000 in
theorem gX4_addNote_X4_passageError : GoodIn wsX4_addNote (wsV RX4 94 RX4 yX4_passageError wsX4_passageError) := goodIn_app (goodIn_of _ (by decide +kernel)) ggX4_addNote_X4_passageError
set_option maxRecDepth 20000 in
theorem ggX4_addNote_X4_anchor : GoodIn wsX4_addNote wsX4_anchor := goodIn_r _ [18, 7, 19, 20, 21, 22, 23, 24, 5, 25, 1, 26, 27, 28, 29, 11, 30, 13, 14, 31, 32, 33, 34, 35, 36, 37, 38, 39, 40, 41, 42, 43, 44, 45, 46, 47, 48, 9, 10, 12, 49, 50, 51, 52, 53, 54, 55, 56, 57, 58, 59, 60, 61, 62, 63, 64, 65, 66, 67, 68, 69] (by decide +kernel) (by decide +kernel)
set_option maxRecDepth 20000 in
theorem gX4_addNote_X4_anchor : GoodIn wsX4_addNote (wsV RX4 105 RX4 yX4_anchor wsX4_anchor) := goodIn_app (goodIn_of _ (by decide +kernel)) ggX4_addNote_X4_anchor
set_option maxRecDepth 20000 in
theorem ggX4_anchor_X4_find : GoodIn wsX4_anchor wsX4_find := goodIn_r _ [9, 10, 11, 49, 50, 51, 52, 53, 54] (by decide +kernel) (by decide +kernel)
set_option maxRecDepth 20000 in
theorem gX4_anchor_X4_find : GoodIn wsX4_anchor (wsV RX4 51 RX4 yX4_find wsX4_find) := goodIn_app (goodIn_of _ (by decide +kernel)) ggX4_anchor_X4_find
set_option maxRecDepth 20000 in
theorem ggX4_anchor_X6_item : GoodIn wsX4_anchor wsX6_item := goodIn_r _ [16, 17, 18, 55, 56] (by decide +kernel) (by decide +kernel)
set_option maxRecDepth 20000 in
theorem gX4_anchor_X6_item : GoodIn wsX4_anchor (wsV RX4 69 RX6 yX6_item wsX6_item) := goodIn_app (goodIn_of _ (by decide +kernel)) ggX4_anchor_X6_item
set_option maxRecDepth 20000 in
theorem ggX4_anchor_X2_remember : GoodIn wsX4_anchor wsX2_remember := goodIn_r _ [23, 24, 25, 26, 27, 28, 29, 30, 15, 31, 32, 33, 34, 35, 17, 36, 37, 38, 39, 18, 40, 13, 14, 16, 41, 42, 43, 44, 57, 58, 59, 60, 55, 56] (by decide +kernel) (by decide +kernel)
set_option maxRecDepth 20000 in
theorem gX4_anchor_X2_remember : GoodIn wsX4_anchor (wsV RX4 108 RX2 yX2_remember wsX2_remember) := goodIn_app (goodIn_of _ (by decide +kernel)) ggX4_anchor_X2_remember
set_option maxRecDepth 20000 in
theorem ggX4_anchor_X6_replace : GoodIn wsX4_anchor wsX6_replace := goodIn_r _ [48, 18, 36, 37, 38, 15, 39, 17, 55, 56] (by decide +kernel) (by decide +kernel)
set_option maxRecDepth 20000 in
theorem gX4_anchor_X6_replace : GoodIn wsX4_anchor (wsV RX4 72 RX6 yX6_replace wsX6_replace) := goodIn_app (goodIn_of _ (by decide +kernel)) ggX4_anchor_X6_replace
set_option maxRecDepth 20000 in
theorem ggX4_addReply_X4_find : GoodIn wsX4_addReply wsX4_find := goodIn_r _ [6, 1, 7, 23, 24, 25, 26, 27, 28] (by decide +kernel) (by decide +kernel)
set_option maxRecDepth 20000 in
theorem gX4_addReply_X4_find : GoodIn wsX4_addReply (wsV RX4 51 RX4 yX4_find wsX4_find) := goodIn_app (goodIn_of _ (by decide +kernel)) ggX4_addReply_X4_find
set_option maxRecDepth 20000 in
theorem ggX4_addReply_X2_becomeReply : GoodIn wsX4_addReply wsX2_becomeReply := goodIn_r _ [12, 13, 14, 15, 16, 17, 18, 19, 20, 21, 22, 29, 30, 31, 32, 33, 34] (by decide +kernel) (by decide +kernel)
set_option maxRecDepth 20000 in
theorem gX4_addReply_X2_becomeReply : GoodIn wsX4_addReply (wsV RX4 112 RX2 yX2_becomeReply wsX2_becomeReply) := goodIn_app (goodIn_of _ (by decide +kernel)) ggX4_addReply_X2_becomeReply
set_option maxRecDepth 20000 in
theorem ggX4_dropFamily_X4_find : GoodIn wsX4_dropFamily wsX4_find := goodIn_r _ [6, 1, 7, 44, 45, 46, 47, 48, 49] (by decide +kernel) (by decide +kernel)
set_option maxRecDepth 20000 in
theorem gX4_dropFamily_X4_find : GoodIn wsX4_dropFamily (wsV RX4 51 RX4 yX4_find wsX4_find) := goodIn_app (goodIn_of _ (by decide +kernel)) ggX4_dropFamily_X4_find
set_option maxRecDepth 20000 in
theorem ggX4_dropFamily_X4_family : GoodIn wsX4_dropFamily wsX4_family := goodIn_r _ [11, 1, 12, 2, 3, 4, 5, 6, 7, 13, 14, 15, 44, 45, 46, 47, 48, 49, 50, 51, 52, 53] (by decide +kernel) (by decide +kernel)
set_option maxRecDepth 20000 in
theorem gX4_dropFamily_X4_family : GoodIn wsX4_dropFamily (wsV RX4 115 RX4 yX4_family wsX4_family) := goodIn_app (goodIn_of _ (by decide +kernel)) ggX4_dropFamily_X4_family
set_option maxRecDepth 20000 in
theorem ggX4_dropFamily_X8_isIn : GoodIn wsX4_dropFamily wsX8_isIn := goodIn_r _ [15] (by decide +kernel) (by decide +kernel)
set_option maxRecDepth 20000 in
theorem gX4_dropFamily_X8_isIn_n118 : GoodIn wsX4_dropFamily (wsX8_isIn) := ggX4_dropFamily_X8_isIn
set_option maxRecDepth 20000 in
theorem ggX4_dropFamily_X4_remove : GoodIn wsX4_dropFamily wsX4_remove := goodIn_r _ [19, 1, 7, 12, 20, 21, 2, 3, 4, 5, 6, 22, 23, 24, 25, 26, 27, 28, 29, 30, 31, 32, 33, 34, 35, 36, 44, 45, 46, 47, 48, 49, 50, 51, 52, 53, 54, 55] (by decide +kernel) (by decide +kernel)
set_option maxRecDepth 20000 in
theorem gX4_dropFamily_X4_remove : GoodIn wsX4_dropFamily (wsV RX4 122 RX4 yX4_remove wsX4_remove) := goodIn_app (goodIn_of _ (by decide +kernel)) ggX4_dropFamily_X4_remove
set_option maxRecDepth 20000 in
theorem ggX4_dropFamily_J6_bitCount_0f7a4 : GoodIn wsX4_dropFamily wsJ6_bitCount_0f7a4 := goodIn_r _ [40, 41, 42, 43] (by decide +kernel) (by decide +kernel)
set_option maxRecDepth 20000 in
theorem gX4_dropFamily_J6_bitCount_0f7a4 : GoodIn wsX4_dropFamily (va_wsS RX4 89 yJ6_bitCount_0f7a4 wsJ6_bitCount_0f7a4) := goodIn_app (goodIn_of _ (by decide +kernel)) ggX4_dropFamily_J6_bitCount_0f7a4
set_option maxRecDepth 20000 in
theorem ggX4_remove_X4_find : GoodIn wsX4_remove wsX4_find := goodIn_r _ [10, 1, 2, 26, 27, 28, 29, 30, 31] (by decide +kernel) (by decide +kernel)
set_option maxRecDepth 20000 in
theorem gX4_remove_X4_find : GoodIn wsX4_remove (wsV RX4 51 RX4 yX4_find wsX4_find) := goodIn_app (goodIn_of _ (by decide +kernel)) ggX4_remove_X4_find
set_option maxRecDepth 20000 in
theorem ggX4_remove_X6_item : GoodIn wsX4_remove wsX6_item := goodIn_r _ [15, 16, 17, 36, 37] (by decide +kernel) (by decide +kernel)
set_option maxRecDepth 20000 in
theorem gX4_remove_X6_item : GoodIn wsX4_remove (wsV RX4 69 RX6 yX6_item wsX6_item) := goodIn_app (goodIn_of _ (by decide +kernel)) ggX4_remove_X6_item
set_option maxRecDepth 20000 in
theorem ggX4_remove_X6_replace : GoodIn wsX4_remove wsX6_replace := goodIn_r _ [21, 17, 22, 23, 24, 14, 25, 16, 36, 37] (by decide +kernel) (by decide +kernel)
set_option maxRecDepth 20000 in
theorem gX4_remove_X6_replace : GoodIn wsX4_remove (wsV RX4 72 RX6 yX6_replace wsX6_replace) := goodIn_app (goodIn_of _ (by decide +kernel)) ggX4_remove_X6_replace
set_option maxRecDepth 20000 in
theorem ggX4_reclaimNote_X4_find : GoodIn wsX4_reclaimNote wsX4_find := goodIn_r _ [10, 11, 12, 100, 101, 102, 103, 104, 105] (by decide +kernel) (by decide +kernel)
set_option maxRecDepth 20000 in
theorem gX4_reclaimNote_X4_find : GoodIn wsX4_reclaimNote (wsV RX4 51 RX4 yX4_find wsX4_find) := goodIn_app (goodIn_of _ (by decide +kernel)) ggX4_reclaimNote_X4_find
set_option maxRecDepth 20000 in
theorem ggX4_reclaimNote_X4_state : GoodIn wsX4_reclaimNote wsX4_state := goodIn_r _ [16, 17, 6, 7, 8, 9, 10, 11, 12, 18, 19, 20, 21, 22, 23, 24, 25, 26, 27, 28, 29, 30, 31, 32, 33, 34, 35, 36, 37, 38, 39, 40, 41, 42, 43, 44, 45, 46, 47, 48, 49, 115, 116, 117, 118, 100, 101, 102, 103, 104, 105, 109, 110, 111, 112, 113, 114] (by decide +kernel) (by decide +kernel)
set_option maxRecDepth 20000 in
theorem gX4_reclaimNote_X4_state : GoodIn wsX4_reclaimNote (wsV RX4 128 RX4 yX4_state wsX4_state) := goodIn_app (goodIn_of _ (by decide +kernel)) ggX4_reclaimNote_X4_state
set_option maxRecDepth 20000 in
theorem ggX4_reclaimNote_X7_look : GoodIn wsX4_reclaimNote wsX7_look := goodIn_r _ [54, 55, 56, 57, 58, 59, 60, 61, 62, 63, 64, 43, 65, 45, 66, 41, 42, 44, 46, 106, 107, 108, 109, 110, 111, 112, 113, 114] (by decide +kernel) (by decide +kernel)
set_option maxRecDepth 20000 in
theorem gX4_reclaimNote_X7_look : GoodIn wsX4_reclaimNote (wsV RX4 131 RX7 yX7_look wsX7_look) := goodIn_app (goodIn_of _ (by decide +kernel)) ggX4_reclaimNote_X7_look
set_option maxRecDepth 20000 in
theorem ggX4_reclaimNote_X4_anchor : GoodIn wsX4_reclaimNote wsX4_anchor := goodIn_r _ [70, 1, 71, 29, 5, 6, 7, 8, 9, 10, 11, 12, 72, 41, 42, 43, 44, 45, 46, 73, 74, 75, 21, 76, 23, 77, 78, 79, 80, 81, 82, 83, 84, 85, 86, 87, 88, 89, 90, 91, 66, 92, 93, 94, 95, 96, 97, 98, 99, 100, 101, 102, 103, 104, 105, 113, 114, 109, 110, 111, 112] (by decide +kernel) (by decide +kernel)
set_option maxRecDepth 20000 in
theorem gX4_reclaimNote_X4_anchor : GoodIn wsX4_reclaimNote (wsV RX4 105 RX4 yX4_anchor wsX4_anchor) := goodIn_app (goodIn_of _ (by decide +kernel)) ggX4_reclaimNote_X4_anchor
set_option maxRecDepth 20000 in
theorem ggX4_state_X4_find : GoodIn wsX4_state wsX4_find := goodIn_r _ [6, 7, 8, 45, 46, 47, 48, 49, 50] (by decide +kernel) (by decide +kernel)
set_option maxRecDepth 20000 in
theorem gX4_state_X4_find : GoodIn wsX4_state (wsV RX4 51 RX4 yX4_find wsX4_find) := goodIn_app (goodIn_of _ (by decide +kernel)) ggX4_state_X4_find
set_option maxRecDepth 20000 in
theorem ggX4_state_X2_isReply : GoodIn wsX4_state wsX2_isReply := goodIn_r _ [13, 14, 51, 52, 53, 54] (by decide +kernel) (by decide +kernel)
set_option maxRecDepth 20000 in
theorem gX4_state_X2_isReply : GoodIn wsX4_state (wsV RX4 146 RX2 yX2_isReply wsX2_isReply) := goodIn_app (goodIn_of _ (by decide +kernel)) ggX4_state_X2_isReply
set_option maxRecDepth 20000 in
theorem ggX4_state_X4_piecesOf : GoodIn wsX4_state wsX4_piecesOf := goodIn_r _ [18, 19, 20, 21, 22, 23, 24, 25, 26, 27, 28, 29, 30, 31, 32, 33, 34, 35, 36, 37, 38, 39, 40, 45, 46, 47, 48, 49, 50, 41, 42, 43, 44, 55, 56] (by decide +kernel) (by decide +kernel)
set_option maxRecDepth 20000 in
theorem gX4_state_X4_piecesOf : GoodIn wsX4_state (wsV RX4 150 RX4 yX4_piecesOf wsX4_piecesOf) := goodIn_app (goodIn_of _ (by decide +kernel)) ggX4_state_X4_piecesOf
set_option maxRecDepth 20000 in
theorem ggX4_piecesOf_X5_gather : GoodIn wsX4_piecesOf wsX5_gather := goodIn_r _ [7, 8, 9, 10, 11, 12, 13, 14, 15, 16, 17, 18, 19, 20, 21, 22, 29, 30, 31, 32, 33, 34] (by decide +kernel) (by decide +kernel)
set_option maxRecDepth 20000 in
theorem gX4_piecesOf_X5_gather : GoodIn wsX4_piecesOf (wsV RX4 156 RX5 yX5_gather wsX5_gather) := goodIn_app (goodIn_of _ (by decide +kernel)) ggX4_piecesOf_X5_gather
set_option maxRecDepth 20000 in
theorem ggX4_depth_X4_find : GoodIn wsX4_depth wsX4_find := goodIn_r _ [6, 7, 8, 19, 20, 21, 22, 23, 24] (by decide +kernel) (by decide +kernel)
set_option maxRecDepth 20000 in
theorem gX4_depth_X4_find : GoodIn wsX4_depth (wsV RX4 51 RX4 yX4_find wsX4_find) := goodIn_app (goodIn_of _ (by decide +kernel)) ggX4_depth_X4_find
set_option maxRecDepth 20000 in
theorem ggX4_depth_X2_isReply : GoodIn wsX4_depth wsX2_isReply := goodIn_r _ [13, 14, 15, 16, 17, 18] (by decide +kernel) (by decide +kernel)
set_option maxRecDepth 20000 in
theorem gX4_depth_X2_isReply : GoodIn wsX4_depth (wsV RX4 146 RX2 yX2_isReply wsX2_isReply) := goodIn_app (goodIn_of _ (by decide +kernel)) ggX4_depth_X2_isReply
set_option maxRecDepth 20000 in
theorem ggX4_root_X4_depth : GoodIn wsX4_root wsX4_depth := goodIn_r _ [6, 1, 7, 8, 9, 5, 10, 11, 12, 13, 14, 15, 16, 17, 18, 19, 20, 21, 22, 23, 24, 25, 26, 27, 28] (by decide +kernel) (by decide +kernel)
set_option maxRecDepth 20000 in
theorem gX4_root_X4_depth : GoodIn wsX4_root (wsV RX4 160 RX4 yX4_depth wsX4_depth) := goodIn_app (goodIn_of _ (by decide +kernel)) ggX4_root_X4_depth
set_option maxRecDepth 20000 in
theorem ggX4_root_X4_find : GoodIn wsX4_root wsX4_find := goodIn_r _ [10, 11, 12, 23, 24, 25, 26, 27, 28] (by decide +kernel) (by decide +kernel)
set_option maxRecDepth 20000 in
theorem gX4_root_X4_find : GoodIn wsX4_root (wsV RX4 51 RX4 yX4_find wsX4_find) := goodIn_app (goodIn_of _ (by decide +kernel)) ggX4_root_X4_find
set_option maxRecDepth 20000 in
theorem ggX4_family_X4_find : GoodIn wsX4_family wsX4_find := goodIn_r _ [7, 1, 8, 12, 13, 14, 15, 16, 17] (by decide +kernel) (by decide +kernel)
set_option maxRecDepth 20000 in
theorem gX4_family_X4_find : GoodIn wsX4_family (wsV RX4 51 RX4 yX4_find wsX4_find) := goodIn_app (goodIn_of _ (by decide +kernel)) ggX4_family_X4_find
set_option maxRecDepth 20000 in
theorem ggX4_family_X8_isIn : GoodIn wsX4_family wsX8_isIn := goodIn_r _ [11] (by decide +kernel) (by decide +kernel)
set_option maxRecDepth 20000 in
theorem gX4_family_X8_isIn_n118 : GoodIn wsX4_family (wsX8_isIn) := ggX4_family_X8_isIn
set_option maxRecDepth 20000 in
theorem ggX4_countState_X4_state : GoodIn wsX4_countState wsX4_state := goodIn_r _ [6, 7, 8, 9, 10, 5, 11, 1, 12, 13, 14, 15, 16, 17, 18, 19, 20, 21, 22, 23, 24, 25, 26, 27, 28, 29, 30, 31, 32, 33, 34, 35, 36, 37, 38, 39, 40, 41, 42, 43, 44, 51, 52, 53, 54, 45, 46, 47, 48, 49, 50, 55, 56, 57, 58, 59, 60] (by decide +kernel) (by decide +kernel)
set_option maxRecDepth 20000 in
theorem gX4_countState_X4_state : GoodIn wsX4_countState (wsV RX4 128 RX4 yX4_state wsX4_state) := goodIn_app (goodIn_of _ (by decide +kernel)) ggX4_countState_X4_state
set_option maxRecDepth 20000 in
theorem ggX4_countParted_X4_piecesOf : GoodIn wsX4_countParted wsX4_piecesOf := goodIn_r _ [7, 8, 9, 10, 11, 12, 13, 14, 15, 16, 17, 18, 19, 20, 21, 22, 23, 24, 25, 26, 27, 28, 29, 30, 31, 32, 33, 34, 35, 36, 37, 38, 39, 40, 41] (by decide +kernel) (by decide +kernel)
set_option maxRecDepth 20000 in
theorem gX4_countParted_X4_piecesOf : GoodIn wsX4_countParted (wsV RX4 150 RX4 yX4_piecesOf wsX4_piecesOf) := goodIn_app (goodIn_of _ (by decide +kernel)) ggX4_countParted_X4_piecesOf
set_option maxRecDepth 20000 in
theorem ggX4_countLines_X4_lineOf : GoodIn wsX4_countLines wsX4_lineOf := goodIn_r _ [7, 8, 9, 10, 11, 12, 13, 14, 15, 16, 17, 18, 19, 20, 21, 22, 23] (by decide +kernel) (by decide +kernel)
set_option maxRecDepth 20000 in
theorem gX4_countLines_X4_lineOf : GoodIn wsX4_countLines (wsV RX4 165 RX4 yX4_lineOf wsX4_lineOf) := goodIn_app (goodIn_of _ (by decide +kernel)) ggX4_countLines_X4_lineOf
set_option maxRecDepth 20000 in
theorem ggX4_lineOf_X6_item : GoodIn wsX4_lineOf wsX6_item := goodIn_r _ [6, 7, 8, 15, 16] (by decide +kernel) (by decide +kernel)
set_option maxRecDepth 20000 in
theorem gX4_lineOf_X6_item : GoodIn wsX4_lineOf (wsV RX4 69 RX6 yX6_item wsX6_item) := goodIn_app (goodIn_of _ (by decide +kernel)) ggX4_lineOf_X6_item
theorem dX4_init_0 : decode cX4_init 0 = .ok (.aload_n 0, 1) := by decide +kernel
theorem dX4_init_1 : decode cX4_init 1 = .ok (.invokespecial 3, 3) := by decide +kernel
theorem dX4_init_4 : decode cX4_init 4 = .ok (.aload_n 0, 1) := by decide +kernel
theorem dX4_init_5 : decode cX4_init 5 = .ok (.new 9, 3) := by decide +kernel
theorem dX4_init_8 : decode cX4_init 8 = .ok (.dup, 1) := by decide +kernel
theorem dX4_init_9 : decode cX4_init 9 = .ok (.iconst 3, 1) := by decide +kernel
theorem dX4_init_10 : decode cX4_init 10 = .ok (.invokespecial 11, 3) := by decide +kernel
theorem dX4_init_13 : decode cX4_init 13 = .ok (.putfield 14, 3) := by decide +kernel
theorem dX4_init_16 : decode cX4_init 16 = .ok (.aload_n 0, 1) := by decide +kernel
theorem dX4_init_17 : decode cX4_init 17 = .ok (.new 9, 3) := by decide +kernel
theorem dX4_init_20 : decode cX4_init 20 = .ok (.dup, 1) := by decide +kernel
theorem dX4_init_21 : decode cX4_init 21 = .ok (.bipush 60, 2) := by decide +kernel
theorem dX4_init_23 : decode cX4_init 23 = .ok (.invokespecial 11, 3) := by decide +kernel
theorem dX4_init_26 : decode cX4_init 26 = .ok (.putfield 20, 3) := by decide +kernel
theorem dX4_init_29 : decode cX4_init 29 = .ok (.aload_n 0, 1) := by decide +kernel
theorem dX4_init_30 : decode cX4_init 30 = .ok (.new 9, 3) := by decide +kernel
theorem dX4_init_33 : decode cX4_init 33 = .ok (.dup, 1) := by decide +kernel
theorem dX4_init_34 : decode cX4_init 34 = .ok (.bipush 60, 2) := by decide +kernel
theorem dX4_init_36 : decode cX4_init 36 = .ok (.invokespecial 11, 3) := by decide +kernel
theorem dX4_init_39 : decode cX4_init 39 = .ok (.putfield 23, 3) := by decide +kernel
theorem dX4_init_42 : decode cX4_init 42 = .ok (.aload_n 0, 1) := by decide +kernel
theorem dX4_init_43 : decode cX4_init 43 = .ok (.bipush 16, 2) := by decide +kernel
theorem dX4_init_45 : decode cX4_init 45 = .ok (.anewarray 26, 3) := by decide +kernel
theorem dX4_init_48 : decode cX4_init 48 = .ok (.putfield 28, 3) := by decide +kernel
theorem dX4_init_51 : decode cX4_init 51 = .ok (.aload_n 0, 1) := by decide +kernel
theorem dX4_init_52 : decode cX4_init 52 = .ok (.new 32, 3) := by decide +kernel
theorem dX4_init_55 : decode cX4_init 55 = .ok (.dup, 1) := by decide +kernel
theorem dX4_init_56 : decode cX4_init 56 = .ok (.invokespecial 34, 3) := by decide +kernel
theorem dX4_init_59 : decode cX4_init 59 = .ok (.putfield 35, 3) := by decide +kernel
theorem dX4_init_62 : decode cX4_init 62 = .ok (.aload_n 0, 1) := by decide +kernel
theorem dX4_init_63 : decode cX4_init 63 = .ok (.getfield 14, 3) := by decide +kernel
theorem dX4_init_66 : decode cX4_init 66 = .ok (.iconst 3, 1) := by decide +kernel
theorem dX4_init_67 : decode cX4_init 67 = .ok (.invokevirtual 39, 3) := by decide +kernel
theorem dX4_init_70 : decode cX4_init 70 = .ok (.aload_n 0, 1) := by decide +kernel
theorem dX4_init_71 : decode cX4_init 71 = .ok (.getfield 14, 3) := by decide +kernel
theorem dX4_init_74 : decode cX4_init 74 = .ok (.bipush 12, 2) := by decide +kernel
theorem dX4_init_76 : decode cX4_init 76 = .ok (.invokevirtual 39, 3) := by decide +kernel
theorem dX4_init_79 : decode cX4_init 79 = .ok (.aload_n 0, 1) := by decide +kernel
theorem dX4_init_80 : decode cX4_init 80 = .ok (.getfield 14, 3) := by decide +kernel
theorem dX4_init_83 : decode cX4_init 83 = .ok (.iconst 2, 1) := by decide +kernel
theorem dX4_init_84 : decode cX4_init 84 = .ok (.invokevirtual 39, 3) := by decide +kernel
theorem dX4_init_87 : decode cX4_init 87 = .ok (.iconst 0, 1) := by decide +kernel
theorem dX4_init_88 : decode cX4_init 88 = .ok (.istore_n 1, 1) := by decide +kernel
theorem dX4_init_89 : decode cX4_init 89 = .ok (.iload_n 1, 1) := by decide +kernel
theorem dX4_init_90 : decode cX4_init 90 = .ok (.aload_n 0, 1) := by decide +kernel
theorem dX4_init_91 : decode cX4_init 91 = .ok (.getfield 28, 3) := by decide +kernel
theorem dX4_init_94 : decode cX4_init 94 = .ok (.arraylength, 1) := by decide +kernel
theorem dX4_init_95 : decode cX4_init 95 = .ok (.if_icmp .ge 22, 3) := by decide +kernel
theorem dX4_init_98 : decode cX4_init 98 = .ok (.aload_n 0, 1) := by decide +kernel
theorem dX4_init_99 : decode cX4_init 99 = .ok (.getfield 28, 3) := by decide +kernel
theorem dX4_init_102 : decode cX4_init 102 = .ok (.iload_n 1, 1) := by decide +kernel
theorem dX4_init_103 : decode cX4_init 103 = .ok (.new 26, 3) := by decide +kernel
theorem dX4_init_106 : decode cX4_init 106 = .ok (.dup, 1) := by decide +kernel
theorem dX4_init_107 : decode cX4_init 107 = .ok (.invokespecial 42, 3) := by decide +kernel
theorem dX4_init_110 : decode cX4_init 110 = .ok (.aastore, 1) := by decide +kernel
theorem dX4_init_111 : decode cX4_init 111 = .ok (.iinc 1 1, 3) := by decide +kernel
theorem dX4_init_114 : decode cX4_init 114 = .ok (.goto (-25), 3) := by decide +kernel
theorem dX4_init_117 : decode cX4_init 117 = .ok (.return_, 1) := by decide +kernel
theorem dX4_copyFrom_0 : decode cX4_copyFrom 0 = .ok (.aload_n 0, 1) := by decide +kernel
theorem dX4_copyFrom_1 : decode cX4_copyFrom 1 = .ok (.getfield 14, 3) := by decide +kernel
theorem dX4_copyFrom_4 : decode cX4_copyFrom 4 = .ok (.aload_n 1, 1) := by decide +kernel
theorem dX4_copyFrom_5 : decode cX4_copyFrom 5 = .ok (.getfield 14, 3) := by decide +kernel
theorem dX4_copyFrom_8 : decode cX4_copyFrom 8 = .ok (.invokevirtual 43, 3) := by decide +kernel
theorem dX4_copyFrom_11 : decode cX4_copyFrom 11 = .ok (.aload_n 0, 1) := by decide +kernel
theorem dX4_copyFrom_12 : decode cX4_copyFrom 12 = .ok (.getfield 20, 3) := by decide +kernel
theorem dX4_copyFrom_15 : decode cX4_copyFrom 15 = .ok (.aload_n 1, 1) := by decide +kernel
theorem dX4_copyFrom_16 : decode cX4_copyFrom 16 = .ok (.getfield 20, 3) := by decide +kernel
theorem dX4_copyFrom_19 : decode cX4_copyFrom 19 = .ok (.invokevirtual 43, 3) := by decide +kernel
theorem dX4_copyFrom_22 : decode cX4_copyFrom 22 = .ok (.aload_n 0, 1) := by decide +kernel
theorem dX4_copyFrom_23 : decode cX4_copyFrom 23 = .ok (.getfield 23, 3) := by decide +kernel
theorem dX4_copyFrom_26 : decode cX4_copyFrom 26 = .ok (.aload_n 1, 1) := by decide +kernel
theorem dX4_copyFrom_27 : decode cX4_copyFrom 27 = .ok (.getfield 23, 3) := by decide +kernel
theorem dX4_copyFrom_30 : decode cX4_copyFrom 30 = .ok (.invokevirtual 43, 3) := by decide +kernel
theorem dX4_copyFrom_33 : decode cX4_copyFrom 33 = .ok (.aload_n 0, 1) := by decide +kernel
theorem dX4_copyFrom_34 : decode cX4_copyFrom 34 = .ok (.aload_n 1, 1) := by decide +kernel
theorem dX4_copyFrom_35 : decode cX4_copyFrom 35 = .ok (.getfield 47, 3) := by decide +kernel
theorem dX4_copyFrom_38 : decode cX4_copyFrom 38 = .ok (.putfield 47, 3) := by decide +kernel
theorem dX4_copyFrom_41 : decode cX4_copyFrom 41 = .ok (.iconst 0, 1) := by decide +kernel
theorem dX4_copyFrom_42 : decode cX4_copyFrom 42 = .ok (.istore_n 2, 1) := by decide +kernel
theorem dX4_copyFrom_43 : decode cX4_copyFrom 43 = .ok (.iload_n 2, 1) := by decide +kernel
theorem dX4_copyFrom_44 : decode cX4_copyFrom 44 = .ok (.aload_n 0, 1) := by decide +kernel
theorem dX4_copyFrom_45 : decode cX4_copyFrom 45 = .ok (.getfield 47, 3) := by decide +kernel
theorem dX4_copyFrom_48 : decode cX4_copyFrom 48 = .ok (.if_icmp .ge 37, 3) := by decide +kernel
theorem dX4_copyFrom_51 : decode cX4_copyFrom 51 = .ok (.aload_n 0, 1) := by decide +kernel
theorem dX4_copyFrom_52 : decode cX4_copyFrom 52 = .ok (.iload_n 2, 1) := by decide +kernel
theorem dX4_copyFrom_53 : decode cX4_copyFrom 53 = .ok (.invokevirtual 51, 3) := by decide +kernel
theorem dX4_copyFrom_56 : decode cX4_copyFrom 56 = .ok (.astore_n 3, 1) := by decide +kernel
theorem dX4_copyFrom_57 : decode cX4_copyFrom 57 = .ok (.aload_n 1, 1) := by decide +kernel
theorem dX4_copyFrom_58 : decode cX4_copyFrom 58 = .ok (.iload_n 2, 1) := by decide +kernel
theorem dX4_copyFrom_59 : decode cX4_copyFrom 59 = .ok (.invokevirtual 51, 3) := by decide +kernel
theorem dX4_copyFrom_62 : decode cX4_copyFrom 62 = .ok (.astore 4, 2) := by decide +kernel
theorem dX4_copyFrom_64 : decode cX4_copyFrom 64 = .ok (.aload_n 3, 1) := by decide +kernel
theorem dX4_copyFrom_65 : decode cX4_copyFrom 65 = .ok (.ifnull 14, 3) := by decide +kernel
theorem dX4_copyFrom_68 : decode cX4_copyFrom 68 = .ok (.aload 4, 2) := by decide +kernel
theorem dX4_copyFrom_70 : decode cX4_copyFrom 70 = .ok (.ifnull 9, 3) := by decide +kernel
theorem dX4_copyFrom_73 : decode cX4_copyFrom 73 = .ok (.aload_n 3, 1) := by decide +kernel
theorem dX4_copyFrom_74 : decode cX4_copyFrom 74 = .ok (.aload 4, 2) := by decide +kernel
theorem dX4_copyFrom_76 : decode cX4_copyFrom 76 = .ok (.invokevirtual 55, 3) := by decide +kernel
theorem dX4_copyFrom_79 : decode cX4_copyFrom 79 = .ok (.iinc 2 1, 3) := by decide +kernel
theorem dX4_copyFrom_82 : decode cX4_copyFrom 82 = .ok (.goto (-39), 3) := by decide +kernel
theorem dX4_copyFrom_85 : decode cX4_copyFrom 85 = .ok (.return_, 1) := by decide +kernel
theorem dX4_changeSetting_0 : decode cX4_changeSetting 0 = .ok (.aload_n 0, 1) := by decide +kernel
theorem dX4_changeSetting_1 : decode cX4_changeSetting 1 = .ok (.getfield 14, 3) := by decide +kernel
theorem dX4_changeSetting_4 : decode cX4_changeSetting 4 = .ok (.iload_n 1, 1) := by decide +kernel
theorem dX4_changeSetting_5 : decode cX4_changeSetting 5 = .ok (.invokevirtual 58, 3) := by decide +kernel
theorem dX4_changeSetting_8 : decode cX4_changeSetting 8 = .ok (.ifCond .eq 19, 3) := by decide +kernel
theorem dX4_changeSetting_11 : decode cX4_changeSetting 11 = .ok (.iload_n 2, 1) := by decide +kernel
theorem dX4_changeSetting_12 : decode cX4_changeSetting 12 = .ok (.iload_n 1, 1) := by decide +kernel
theorem dX4_changeSetting_13 : decode cX4_changeSetting 13 = .ok (.invokestatic 62, 3) := by decide +kernel
theorem dX4_changeSetting_16 : decode cX4_changeSetting 16 = .ok (.if_icmp .lt 11, 3) := by decide +kernel
theorem dX4_changeSetting_19 : decode cX4_changeSetting 19 = .ok (.iload_n 2, 1) := by decide +kernel
theorem dX4_changeSetting_20 : decode cX4_changeSetting 20 = .ok (.iload_n 1, 1) := by decide +kernel
theorem dX4_changeSetting_21 : decode cX4_changeSetting 21 = .ok (.invokestatic 66, 3) := by decide +kernel
theorem dX4_changeSetting_24 : decode cX4_changeSetting 24 = .ok (.if_icmp .le 6, 3) := by decide +kernel
theorem dX4_changeSetting_27 : decode cX4_changeSetting 27 = .ok (.bipush (-2), 2) := by decide +kernel
theorem dX4_changeSetting_29 : decode cX4_changeSetting 29 = .ok (.ireturn, 1) := by decide +kernel
theorem dX4_changeSetting_30 : decode cX4_changeSetting 30 = .ok (.aload_n 0, 1) := by decide +kernel
theorem dX4_changeSetting_31 : decode cX4_changeSetting 31 = .ok (.getfield 14, 3) := by decide +kernel
theorem dX4_changeSetting_34 : decode cX4_changeSetting 34 = .ok (.iload_n 1, 1) := by decide +kernel
theorem dX4_changeSetting_35 : decode cX4_changeSetting 35 = .ok (.invokevirtual 69, 3) := by decide +kernel
theorem dX4_changeSetting_38 : decode cX4_changeSetting 38 = .ok (.istore_n 3, 1) := by decide +kernel
theorem dX4_changeSetting_39 : decode cX4_changeSetting 39 = .ok (.aload_n 0, 1) := by decide +kernel
theorem dX4_changeSetting_40 : decode cX4_changeSetting 40 = .ok (.getfield 14, 3) := by decide +kernel
theorem dX4_changeSetting_43 : decode cX4_changeSetting 43 = .ok (.iload_n 1, 1) := by decide +kernel
theorem dX4_changeSetting_44 : decode cX4_changeSetting 44 = .ok (.iload_n 2, 1) := by decide +kernel
theorem dX4_changeSetting_45 : decode cX4_changeSetting 45 = .ok (.invokevirtual 72, 3) := by decide +kernel
theorem dX4_changeSetting_48 : decode cX4_changeSetting 48 = .ok (.iload_n 3, 1) := by decide +kernel
theorem dX4_changeSetting_49 : decode cX4_changeSetting 49 = .ok (.ireturn, 1) := by decide +kernel
theorem dX4_leastOf_0 : decode cX4_leastOf 0 = .ok (.iload_n 0, 1) := by decide +kernel
theorem dX4_leastOf_1 : decode cX4_leastOf 1 = .ok (.ifCond .ne 7, 3) := by decide +kernel
theorem dX4_leastOf_4 : decode cX4_leastOf 4 = .ok (.iconst 0, 1) := by decide +kernel
theorem dX4_leastOf_5 : decode cX4_leastOf 5 = .ok (.goto 4, 3) := by decide +kernel
theorem dX4_leastOf_8 : decode cX4_leastOf 8 = .ok (.iconst 1, 1) := by decide +kernel
theorem dX4_leastOf_9 : decode cX4_leastOf 9 = .ok (.ireturn, 1) := by decide +kernel
theorem dX4_mostOf_0 : decode cX4_mostOf 0 = .ok (.iload_n 0, 1) := by decide +kernel
theorem dX4_mostOf_1 : decode cX4_mostOf 1 = .ok (.ifCond .ne 8, 3) := by decide +kernel
theorem dX4_mostOf_4 : decode cX4_mostOf 4 = .ok (.bipush 8, 2) := by decide +kernel
theorem dX4_mostOf_6 : decode cX4_mostOf 6 = .ok (.goto 15, 3) := by decide +kernel
theorem dX4_mostOf_9 : decode cX4_mostOf 9 = .ok (.iload_n 0, 1) := by decide +kernel
theorem dX4_mostOf_10 : decode cX4_mostOf 10 = .ok (.iconst 1, 1) := by decide +kernel
theorem dX4_mostOf_11 : decode cX4_mostOf 11 = .ok (.if_icmp .ne 8, 3) := by decide +kernel
theorem dX4_mostOf_14 : decode cX4_mostOf 14 = .ok (.bipush 60, 2) := by decide +kernel
theorem dX4_mostOf_16 : decode cX4_mostOf 16 = .ok (.goto 5, 3) := by decide +kernel
theorem dX4_mostOf_19 : decode cX4_mostOf 19 = .ok (.bipush 9, 2) := by decide +kernel
theorem dX4_mostOf_21 : decode cX4_mostOf 21 = .ok (.ireturn, 1) := by decide +kernel
theorem dX4_writeLetter_0 : decode cX4_writeLetter 0 = .ok (.iload_n 1, 1) := by decide +kernel
theorem dX4_writeLetter_1 : decode cX4_writeLetter 1 = .ok (.ifCond .lt 14, 3) := by decide +kernel
theorem dX4_writeLetter_4 : decode cX4_writeLetter 4 = .ok (.iload_n 1, 1) := by decide +kernel
theorem dX4_writeLetter_5 : decode cX4_writeLetter 5 = .ok (.aload_n 0, 1) := by decide +kernel
theorem dX4_writeLetter_6 : decode cX4_writeLetter 6 = .ok (.getfield 20, 3) := by decide +kernel
theorem dX4_writeLetter_9 : decode cX4_writeLetter 9 = .ok (.getfield 76, 3) := by decide +kernel
theorem dX4_writeLetter_12 : decode cX4_writeLetter 12 = .ok (.if_icmp .le 5, 3) := by decide +kernel
theorem dX4_writeLetter_15 : decode cX4_writeLetter 15 = .ok (.iconst (-1), 1) := by decide +kernel
theorem dX4_writeLetter_16 : decode cX4_writeLetter 16 = .ok (.ireturn, 1) := by decide +kernel
theorem dX4_writeLetter_17 : decode cX4_writeLetter 17 = .ok (.iload_n 2, 1) := by decide +kernel
theorem dX4_writeLetter_18 : decode cX4_writeLetter 18 = .ok (.ifCond .lt 9, 3) := by decide +kernel
theorem dX4_writeLetter_21 : decode cX4_writeLetter 21 = .ok (.iload_n 2, 1) := by decide +kernel
theorem dX4_writeLetter_22 : decode cX4_writeLetter 22 = .ok (.bipush 26, 2) := by decide +kernel
theorem dX4_writeLetter_24 : decode cX4_writeLetter 24 = .ok (.if_icmp .lt 6, 3) := by decide +kernel
theorem dX4_writeLetter_27 : decode cX4_writeLetter 27 = .ok (.bipush (-2), 2) := by decide +kernel
theorem dX4_writeLetter_29 : decode cX4_writeLetter 29 = .ok (.ireturn, 1) := by decide +kernel
theorem dX4_writeLetter_30 : decode cX4_writeLetter 30 = .ok (.aload_n 0, 1) := by decide +kernel
theorem dX4_writeLetter_31 : decode cX4_writeLetter 31 = .ok (.getfield 20, 3) := by decide +kernel
theorem dX4_writeLetter_34 : decode cX4_writeLetter 34 = .ok (.getfield 76, 3) := by decide +kernel
theorem dX4_writeLetter_37 : decode cX4_writeLetter 37 = .ok (.bipush 60, 2) := by decide +kernel
theorem dX4_writeLetter_39 : decode cX4_writeLetter 39 = .ok (.if_icmp .lt 6, 3) := by decide +kernel
theorem dX4_writeLetter_42 : decode cX4_writeLetter 42 = .ok (.bipush (-4), 2) := by decide +kernel
theorem dX4_writeLetter_44 : decode cX4_writeLetter 44 = .ok (.ireturn, 1) := by decide +kernel
theorem dX4_writeLetter_45 : decode cX4_writeLetter 45 = .ok (.aload_n 0, 1) := by decide +kernel
theorem dX4_writeLetter_46 : decode cX4_writeLetter 46 = .ok (.getfield 20, 3) := by decide +kernel
theorem dX4_writeLetter_49 : decode cX4_writeLetter 49 = .ok (.iload_n 1, 1) := by decide +kernel
theorem dX4_writeLetter_50 : decode cX4_writeLetter 50 = .ok (.iload_n 2, 1) := by decide +kernel
theorem dX4_writeLetter_51 : decode cX4_writeLetter 51 = .ok (.invokevirtual 79, 3) := by decide +kernel
theorem dX4_writeLetter_54 : decode cX4_writeLetter 54 = .ok (.aload_n 0, 1) := by decide +kernel
theorem dX4_writeLetter_55 : decode cX4_writeLetter 55 = .ok (.getfield 23, 3) := by decide +kernel
theorem dX4_writeLetter_58 : decode cX4_writeLetter 58 = .ok (.iload_n 1, 1) := by decide +kernel
theorem dX4_writeLetter_59 : decode cX4_writeLetter 59 = .ok (.iconst 0, 1) := by decide +kernel
theorem dX4_writeLetter_60 : decode cX4_writeLetter 60 = .ok (.invokevirtual 79, 3) := by decide +kernel
theorem dX4_writeLetter_63 : decode cX4_writeLetter 63 = .ok (.aload_n 0, 1) := by decide +kernel
theorem dX4_writeLetter_64 : decode cX4_writeLetter 64 = .ok (.getfield 20, 3) := by decide +kernel
theorem dX4_writeLetter_67 : decode cX4_writeLetter 67 = .ok (.getfield 76, 3) := by decide +kernel
theorem dX4_writeLetter_70 : decode cX4_writeLetter 70 = .ok (.ireturn, 1) := by decide +kernel
theorem dX4_eraseLetters_0 : decode cX4_eraseLetters 0 = .ok (.aload_n 0, 1) := by decide +kernel
theorem dX4_eraseLetters_1 : decode cX4_eraseLetters 1 = .ok (.iload_n 1, 1) := by decide +kernel
theorem dX4_eraseLetters_2 : decode cX4_eraseLetters 2 = .ok (.iload_n 2, 1) := by decide +kernel
theorem dX4_eraseLetters_3 : decode cX4_eraseLetters 3 = .ok (.invokevirtual 82, 3) := by decide +kernel
theorem dX4_eraseLetters_6 : decode cX4_eraseLetters 6 = .ok (.istore_n 3, 1) := by decide +kernel
theorem dX4_eraseLetters_7 : decode cX4_eraseLetters 7 = .ok (.iload_n 3, 1) := by decide +kernel
theorem dX4_eraseLetters_8 : decode cX4_eraseLetters 8 = .ok (.ifCond .ge 5, 3) := by decide +kernel
theorem dX4_eraseLetters_11 : decode cX4_eraseLetters 11 = .ok (.iload_n 3, 1) := by decide +kernel
theorem dX4_eraseLetters_12 : decode cX4_eraseLetters 12 = .ok (.ireturn, 1) := by decide +kernel
theorem dX4_eraseLetters_13 : decode cX4_eraseLetters 13 = .ok (.aload_n 0, 1) := by decide +kernel
theorem dX4_eraseLetters_14 : decode cX4_eraseLetters 14 = .ok (.getfield 20, 3) := by decide +kernel
theorem dX4_eraseLetters_17 : decode cX4_eraseLetters 17 = .ok (.iload_n 1, 1) := by decide +kernel
theorem dX4_eraseLetters_18 : decode cX4_eraseLetters 18 = .ok (.iload_n 2, 1) := by decide +kernel
theorem dX4_eraseLetters_19 : decode cX4_eraseLetters 19 = .ok (.invokevirtual 86, 3) := by decide +kernel
theorem dX4_eraseLetters_22 : decode cX4_eraseLetters 22 = .ok (.aload_n 0, 1) := by decide +kernel
theorem dX4_eraseLetters_23 : decode cX4_eraseLetters 23 = .ok (.getfield 23, 3) := by decide +kernel
theorem dX4_eraseLetters_26 : decode cX4_eraseLetters 26 = .ok (.iload_n 1, 1) := by decide +kernel
theorem dX4_eraseLetters_27 : decode cX4_eraseLetters 27 = .ok (.iload_n 2, 1) := by decide +kernel
theorem dX4_eraseLetters_28 : decode cX4_eraseLetters 28 = .ok (.invokevirtual 86, 3) := by decide +kernel
theorem dX4_eraseLetters_31 : decode cX4_eraseLetters 31 = .ok (.iload_n 3, 1) := by decide +kernel
theorem dX4_eraseLetters_32 : decode cX4_eraseLetters 32 = .ok (.invokestatic 89, 3) := by decide +kernel
theorem dX4_eraseLetters_35 : decode cX4_eraseLetters 35 = .ok (.ireturn, 1) := by decide +kernel
theorem dX4_orphanedBy_0 : decode cX4_orphanedBy 0 = .ok (.aload_n 0, 1) := by decide +kernel
theorem dX4_orphanedBy_1 : decode cX4_orphanedBy 1 = .ok (.iload_n 1, 1) := by decide +kernel
theorem dX4_orphanedBy_2 : decode cX4_orphanedBy 2 = .ok (.iload_n 2, 1) := by decide +kernel
theorem dX4_orphanedBy_3 : decode cX4_orphanedBy 3 = .ok (.invokevirtual 94, 3) := by decide +kernel
theorem dX4_orphanedBy_6 : decode cX4_orphanedBy 6 = .ok (.istore_n 3, 1) := by decide +kernel
theorem dX4_orphanedBy_7 : decode cX4_orphanedBy 7 = .ok (.iload_n 3, 1) := by decide +kernel
theorem dX4_orphanedBy_8 : decode cX4_orphanedBy 8 = .ok (.ifCond .ge 5, 3) := by decide +kernel
theorem dX4_orphanedBy_11 : decode cX4_orphanedBy 11 = .ok (.iload_n 3, 1) := by decide +kernel
theorem dX4_orphanedBy_12 : decode cX4_orphanedBy 12 = .ok (.ireturn, 1) := by decide +kernel
theorem dX4_orphanedBy_13 : decode cX4_orphanedBy 13 = .ok (.iconst 0, 1) := by decide +kernel
theorem dX4_orphanedBy_14 : decode cX4_orphanedBy 14 = .ok (.istore 4, 2) := by decide +kernel
theorem dX4_orphanedBy_16 : decode cX4_orphanedBy 16 = .ok (.iconst 0, 1) := by decide +kernel
theorem dX4_orphanedBy_17 : decode cX4_orphanedBy 17 = .ok (.istore 5, 2) := by decide +kernel
theorem dX4_orphanedBy_19 : decode cX4_orphanedBy 19 = .ok (.iconst 0, 1) := by decide +kernel
theorem dX4_orphanedBy_20 : decode cX4_orphanedBy 20 = .ok (.istore 6, 2) := by decide +kernel
theorem dX4_orphanedBy_22 : decode cX4_orphanedBy 22 = .ok (.iload 6, 2) := by decide +kernel
theorem dX4_orphanedBy_24 : decode cX4_orphanedBy 24 = .ok (.aload_n 0, 1) := by decide +kernel
theorem dX4_orphanedBy_25 : decode cX4_orphanedBy 25 = .ok (.getfield 23, 3) := by decide +kernel
theorem dX4_orphanedBy_28 : decode cX4_orphanedBy 28 = .ok (.getfield 76, 3) := by decide +kernel
theorem dX4_orphanedBy_31 : decode cX4_orphanedBy 31 = .ok (.if_icmp .ge 52, 3) := by decide +kernel
theorem dX4_orphanedBy_34 : decode cX4_orphanedBy 34 = .ok (.iload 6, 2) := by decide +kernel
theorem dX4_orphanedBy_36 : decode cX4_orphanedBy 36 = .ok (.iload_n 1, 1) := by decide +kernel
theorem dX4_orphanedBy_37 : decode cX4_orphanedBy 37 = .ok (.if_icmp .lt 26, 3) := by decide +kernel
theorem dX4_orphanedBy_40 : decode cX4_orphanedBy 40 = .ok (.iload 6, 2) := by decide +kernel
theorem dX4_orphanedBy_42 : decode cX4_orphanedBy 42 = .ok (.iload_n 2, 1) := by decide +kernel
theorem dX4_orphanedBy_43 : decode cX4_orphanedBy 43 = .ok (.if_icmp .gt 20, 3) := by decide +kernel
theorem dX4_orphanedBy_46 : decode cX4_orphanedBy 46 = .ok (.iload 4, 2) := by decide +kernel
theorem dX4_orphanedBy_48 : decode cX4_orphanedBy 48 = .ok (.aload_n 0, 1) := by decide +kernel
theorem dX4_orphanedBy_49 : decode cX4_orphanedBy 49 = .ok (.getfield 23, 3) := by decide +kernel
theorem dX4_orphanedBy_52 : decode cX4_orphanedBy 52 = .ok (.iload 6, 2) := by decide +kernel
theorem dX4_orphanedBy_54 : decode cX4_orphanedBy 54 = .ok (.invokevirtual 69, 3) := by decide +kernel
theorem dX4_orphanedBy_57 : decode cX4_orphanedBy 57 = .ok (.ior, 1) := by decide +kernel
theorem dX4_orphanedBy_58 : decode cX4_orphanedBy 58 = .ok (.istore 4, 2) := by decide +kernel
theorem dX4_orphanedBy_60 : decode cX4_orphanedBy 60 = .ok (.goto 17, 3) := by decide +kernel
theorem dX4_orphanedBy_63 : decode cX4_orphanedBy 63 = .ok (.iload 5, 2) := by decide +kernel
theorem dX4_orphanedBy_65 : decode cX4_orphanedBy 65 = .ok (.aload_n 0, 1) := by decide +kernel
theorem dX4_orphanedBy_66 : decode cX4_orphanedBy 66 = .ok (.getfield 23, 3) := by decide +kernel
theorem dX4_orphanedBy_69 : decode cX4_orphanedBy 69 = .ok (.iload 6, 2) := by decide +kernel
theorem dX4_orphanedBy_71 : decode cX4_orphanedBy 71 = .ok (.invokevirtual 69, 3) := by decide +kernel
theorem dX4_orphanedBy_74 : decode cX4_orphanedBy 74 = .ok (.ior, 1) := by decide +kernel
theorem dX4_orphanedBy_75 : decode cX4_orphanedBy 75 = .ok (.istore 5, 2) := by decide +kernel
theorem dX4_orphanedBy_77 : decode cX4_orphanedBy 77 = .ok (.iinc 6 1, 3) := by decide +kernel
theorem dX4_orphanedBy_80 : decode cX4_orphanedBy 80 = .ok (.goto (-58), 3) := by decide +kernel
theorem dX4_orphanedBy_83 : decode cX4_orphanedBy 83 = .ok (.iload 4, 2) := by decide +kernel
theorem dX4_orphanedBy_85 : decode cX4_orphanedBy 85 = .ok (.iload 5, 2) := by decide +kernel
theorem dX4_orphanedBy_87 : decode cX4_orphanedBy 87 = .ok (.iconst (-1), 1) := by decide +kernel
theorem dX4_orphanedBy_88 : decode cX4_orphanedBy 88 = .ok (.ixor, 1) := by decide +kernel
theorem dX4_orphanedBy_89 : decode cX4_orphanedBy 89 = .ok (.iand, 1) := by decide +kernel
theorem dX4_orphanedBy_90 : decode cX4_orphanedBy 90 = .ok (.ireturn, 1) := by decide +kernel
theorem dX4_moveLetters_0 : decode cX4_moveLetters 0 = .ok (.aload_n 0, 1) := by decide +kernel
theorem dX4_moveLetters_1 : decode cX4_moveLetters 1 = .ok (.iload_n 1, 1) := by decide +kernel
theorem dX4_moveLetters_2 : decode cX4_moveLetters 2 = .ok (.iload_n 2, 1) := by decide +kernel
theorem dX4_moveLetters_3 : decode cX4_moveLetters 3 = .ok (.invokevirtual 94, 3) := by decide +kernel
theorem dX4_moveLetters_6 : decode cX4_moveLetters 6 = .ok (.istore 4, 2) := by decide +kernel
theorem dX4_moveLetters_8 : decode cX4_moveLetters 8 = .ok (.iload 4, 2) := by decide +kernel
theorem dX4_moveLetters_10 : decode cX4_moveLetters 10 = .ok (.ifCond .ge 6, 3) := by decide +kernel
theorem dX4_moveLetters_13 : decode cX4_moveLetters 13 = .ok (.iload 4, 2) := by decide +kernel
theorem dX4_moveLetters_15 : decode cX4_moveLetters 15 = .ok (.ireturn, 1) := by decide +kernel
theorem dX4_moveLetters_16 : decode cX4_moveLetters 16 = .ok (.aload_n 0, 1) := by decide +kernel
theorem dX4_moveLetters_17 : decode cX4_moveLetters 17 = .ok (.getfield 20, 3) := by decide +kernel
theorem dX4_moveLetters_20 : decode cX4_moveLetters 20 = .ok (.getfield 76, 3) := by decide +kernel
theorem dX4_moveLetters_23 : decode cX4_moveLetters 23 = .ok (.iload_n 2, 1) := by decide +kernel
theorem dX4_moveLetters_24 : decode cX4_moveLetters 24 = .ok (.iload_n 1, 1) := by decide +kernel
theorem dX4_moveLetters_25 : decode cX4_moveLetters 25 = .ok (.isub, 1) := by decide +kernel
theorem dX4_moveLetters_26 : decode cX4_moveLetters 26 = .ok (.iconst 1, 1) := by decide +kernel
theorem dX4_moveLetters_27 : decode cX4_moveLetters 27 = .ok (.iadd, 1) := by decide +kernel
theorem dX4_moveLetters_28 : decode cX4_moveLetters 28 = .ok (.isub, 1) := by decide +kernel
theorem dX4_moveLetters_29 : decode cX4_moveLetters 29 = .ok (.istore 5, 2) := by decide +kernel
theorem dX4_moveLetters_31 : decode cX4_moveLetters 31 = .ok (.iload_n 3, 1) := by decide +kernel
theorem dX4_moveLetters_32 : decode cX4_moveLetters 32 = .ok (.ifCond .lt 9, 3) := by decide +kernel
theorem dX4_moveLetters_35 : decode cX4_moveLetters 35 = .ok (.iload_n 3, 1) := by decide +kernel
theorem dX4_moveLetters_36 : decode cX4_moveLetters 36 = .ok (.iload 5, 2) := by decide +kernel
theorem dX4_moveLetters_38 : decode cX4_moveLetters 38 = .ok (.if_icmp .le 6, 3) := by decide +kernel
theorem dX4_moveLetters_41 : decode cX4_moveLetters 41 = .ok (.bipush (-2), 2) := by decide +kernel
theorem dX4_moveLetters_43 : decode cX4_moveLetters 43 = .ok (.ireturn, 1) := by decide +kernel
theorem dX4_moveLetters_44 : decode cX4_moveLetters 44 = .ok (.aload_n 0, 1) := by decide +kernel
theorem dX4_moveLetters_45 : decode cX4_moveLetters 45 = .ok (.getfield 20, 3) := by decide +kernel
theorem dX4_moveLetters_48 : decode cX4_moveLetters 48 = .ok (.iload_n 1, 1) := by decide +kernel
theorem dX4_moveLetters_49 : decode cX4_moveLetters 49 = .ok (.iload_n 2, 1) := by decide +kernel
theorem dX4_moveLetters_50 : decode cX4_moveLetters 50 = .ok (.iload_n 3, 1) := by decide +kernel
theorem dX4_moveLetters_51 : decode cX4_moveLetters 51 = .ok (.invokevirtual 97, 3) := by decide +kernel
theorem dX4_moveLetters_54 : decode cX4_moveLetters 54 = .ok (.aload_n 0, 1) := by decide +kernel
theorem dX4_moveLetters_55 : decode cX4_moveLetters 55 = .ok (.getfield 23, 3) := by decide +kernel
theorem dX4_moveLetters_58 : decode cX4_moveLetters 58 = .ok (.iload_n 1, 1) := by decide +kernel
theorem dX4_moveLetters_59 : decode cX4_moveLetters 59 = .ok (.iload_n 2, 1) := by decide +kernel
theorem dX4_moveLetters_60 : decode cX4_moveLetters 60 = .ok (.iload_n 3, 1) := by decide +kernel
theorem dX4_moveLetters_61 : decode cX4_moveLetters 61 = .ok (.invokevirtual 97, 3) := by decide +kernel
theorem dX4_moveLetters_64 : decode cX4_moveLetters 64 = .ok (.aload_n 0, 1) := by decide +kernel
theorem dX4_moveLetters_65 : decode cX4_moveLetters 65 = .ok (.invokevirtual 101, 3) := by decide +kernel
theorem dX4_moveLetters_68 : decode cX4_moveLetters 68 = .ok (.ireturn, 1) := by decide +kernel
theorem dX4_passageError_0 : decode cX4_passageError 0 = .ok (.aload_n 0, 1) := by decide +kernel
theorem dX4_passageError_1 : decode cX4_passageError 1 = .ok (.getfield 20, 3) := by decide +kernel
theorem dX4_passageError_4 : decode cX4_passageError 4 = .ok (.iload_n 1, 1) := by decide +kernel
theorem dX4_passageError_5 : decode cX4_passageError 5 = .ok (.invokevirtual 58, 3) := by decide +kernel
theorem dX4_passageError_8 : decode cX4_passageError 8 = .ok (.ifCond .eq 14, 3) := by decide +kernel
theorem dX4_passageError_11 : decode cX4_passageError 11 = .ok (.aload_n 0, 1) := by decide +kernel
theorem dX4_passageError_12 : decode cX4_passageError 12 = .ok (.getfield 20, 3) := by decide +kernel
theorem dX4_passageError_15 : decode cX4_passageError 15 = .ok (.iload_n 2, 1) := by decide +kernel
theorem dX4_passageError_16 : decode cX4_passageError 16 = .ok (.invokevirtual 58, 3) := by decide +kernel
theorem dX4_passageError_19 : decode cX4_passageError 19 = .ok (.ifCond .ne 5, 3) := by decide +kernel
theorem dX4_passageError_22 : decode cX4_passageError 22 = .ok (.iconst (-1), 1) := by decide +kernel
theorem dX4_passageError_23 : decode cX4_passageError 23 = .ok (.ireturn, 1) := by decide +kernel
theorem dX4_passageError_24 : decode cX4_passageError 24 = .ok (.iload_n 2, 1) := by decide +kernel
theorem dX4_passageError_25 : decode cX4_passageError 25 = .ok (.iload_n 1, 1) := by decide +kernel
theorem dX4_passageError_26 : decode cX4_passageError 26 = .ok (.if_icmp .ge 8, 3) := by decide +kernel
theorem dX4_passageError_29 : decode cX4_passageError 29 = .ok (.bipush (-2), 2) := by decide +kernel
theorem dX4_passageError_31 : decode cX4_passageError 31 = .ok (.goto 4, 3) := by decide +kernel
theorem dX4_passageError_34 : decode cX4_passageError 34 = .ok (.iconst 0, 1) := by decide +kernel
theorem dX4_passageError_35 : decode cX4_passageError 35 = .ok (.ireturn, 1) := by decide +kernel
theorem dX4_find_0 : decode cX4_find 0 = .ok (.iload_n 1, 1) := by decide +kernel
theorem dX4_find_1 : decode cX4_find 1 = .ok (.ifCond .lt 29, 3) := by decide +kernel
theorem dX4_find_4 : decode cX4_find 4 = .ok (.iload_n 1, 1) := by decide +kernel
theorem dX4_find_5 : decode cX4_find 5 = .ok (.aload_n 0, 1) := by decide +kernel
theorem dX4_find_6 : decode cX4_find 6 = .ok (.getfield 47, 3) := by decide +kernel
theorem dX4_find_9 : decode cX4_find 9 = .ok (.if_icmp .ge 21, 3) := by decide +kernel
theorem dX4_find_12 : decode cX4_find 12 = .ok (.iload_n 1, 1) := by decide +kernel
theorem dX4_find_13 : decode cX4_find 13 = .ok (.aload_n 0, 1) := by decide +kernel
theorem dX4_find_14 : decode cX4_find 14 = .ok (.getfield 28, 3) := by decide +kernel
theorem dX4_find_17 : decode cX4_find 17 = .ok (.arraylength, 1) := by decide +kernel
theorem dX4_find_18 : decode cX4_find 18 = .ok (.if_icmp .ge 12, 3) := by decide +kernel
theorem dX4_find_21 : decode cX4_find 21 = .ok (.aload_n 0, 1) := by decide +kernel
theorem dX4_find_22 : decode cX4_find 22 = .ok (.getfield 28, 3) := by decide +kernel
theorem dX4_find_25 : decode cX4_find 25 = .ok (.iload_n 1, 1) := by decide +kernel
theorem dX4_find_26 : decode cX4_find 26 = .ok (.aaload, 1) := by decide +kernel
theorem dX4_find_27 : decode cX4_find 27 = .ok (.goto 4, 3) := by decide +kernel
theorem dX4_find_30 : decode cX4_find 30 = .ok (.aconst_null, 1) := by decide +kernel
theorem dX4_find_31 : decode cX4_find 31 = .ok (.areturn, 1) := by decide +kernel
theorem dX4_addNote_0 : decode cX4_addNote 0 = .ok (.aload_n 0, 1) := by decide +kernel
theorem dX4_addNote_1 : decode cX4_addNote 1 = .ok (.iload_n 1, 1) := by decide +kernel
theorem dX4_addNote_2 : decode cX4_addNote 2 = .ok (.iload_n 2, 1) := by decide +kernel
theorem dX4_addNote_3 : decode cX4_addNote 3 = .ok (.invokevirtual 94, 3) := by decide +kernel
theorem dX4_addNote_6 : decode cX4_addNote 6 = .ok (.istore_n 3, 1) := by decide +kernel
theorem dX4_addNote_7 : decode cX4_addNote 7 = .ok (.iload_n 3, 1) := by decide +kernel
theorem dX4_addNote_8 : decode cX4_addNote 8 = .ok (.ifCond .ge 5, 3) := by decide +kernel
theorem dX4_addNote_11 : decode cX4_addNote 11 = .ok (.iload_n 3, 1) := by decide +kernel
theorem dX4_addNote_12 : decode cX4_addNote 12 = .ok (.ireturn, 1) := by decide +kernel
theorem dX4_addNote_13 : decode cX4_addNote 13 = .ok (.aload_n 0, 1) := by decide +kernel
theorem dX4_addNote_14 : decode cX4_addNote 14 = .ok (.getfield 47, 3) := by decide +kernel
theorem dX4_addNote_17 : decode cX4_addNote 17 = .ok (.bipush 16, 2) := by decide +kernel
theorem dX4_addNote_19 : decode cX4_addNote 19 = .ok (.if_icmp .lt 6, 3) := by decide +kernel
theorem dX4_addNote_22 : decode cX4_addNote 22 = .ok (.bipush (-4), 2) := by decide +kernel
theorem dX4_addNote_24 : decode cX4_addNote 24 = .ok (.ireturn, 1) := by decide +kernel
theorem dX4_addNote_25 : decode cX4_addNote 25 = .ok (.aload_n 0, 1) := by decide +kernel
theorem dX4_addNote_26 : decode cX4_addNote 26 = .ok (.getfield 47, 3) := by decide +kernel
theorem dX4_addNote_29 : decode cX4_addNote 29 = .ok (.istore 4, 2) := by decide +kernel
theorem dX4_addNote_31 : decode cX4_addNote 31 = .ok (.aload_n 0, 1) := by decide +kernel
theorem dX4_addNote_32 : decode cX4_addNote 32 = .ok (.dup, 1) := by decide +kernel
theorem dX4_addNote_33 : decode cX4_addNote 33 = .ok (.getfield 47, 3) := by decide +kernel
theorem dX4_addNote_36 : decode cX4_addNote 36 = .ok (.iconst 1, 1) := by decide +kernel
theorem dX4_addNote_37 : decode cX4_addNote 37 = .ok (.iadd, 1) := by decide +kernel
theorem dX4_addNote_38 : decode cX4_addNote 38 = .ok (.putfield 47, 3) := by decide +kernel
theorem dX4_addNote_41 : decode cX4_addNote 41 = .ok (.aload_n 0, 1) := by decide +kernel
theorem dX4_addNote_42 : decode cX4_addNote 42 = .ok (.iload 4, 2) := by decide +kernel
theorem dX4_addNote_44 : decode cX4_addNote 44 = .ok (.iload_n 1, 1) := by decide +kernel
theorem dX4_addNote_45 : decode cX4_addNote 45 = .ok (.iload_n 2, 1) := by decide +kernel
theorem dX4_addNote_46 : decode cX4_addNote 46 = .ok (.invokevirtual 105, 3) := by decide +kernel
theorem dX4_addNote_49 : decode cX4_addNote 49 = .ok (.iload 4, 2) := by decide +kernel
theorem dX4_addNote_51 : decode cX4_addNote 51 = .ok (.ireturn, 1) := by decide +kernel
theorem dX4_anchor_0 : decode cX4_anchor 0 = .ok (.aload_n 0, 1) := by decide +kernel
theorem dX4_anchor_1 : decode cX4_anchor 1 = .ok (.iload_n 1, 1) := by decide +kernel
theorem dX4_anchor_2 : decode cX4_anchor 2 = .ok (.invokevirtual 51, 3) := by decide +kernel
theorem dX4_anchor_5 : decode cX4_anchor 5 = .ok (.astore 4, 2) := by decide +kernel
theorem dX4_anchor_7 : decode cX4_anchor 7 = .ok (.aload 4, 2) := by decide +kernel
theorem dX4_anchor_9 : decode cX4_anchor 9 = .ok (.ifnonnull 4, 3) := by decide +kernel
theorem dX4_anchor_12 : decode cX4_anchor 12 = .ok (.return_, 1) := by decide +kernel
theorem dX4_anchor_13 : decode cX4_anchor 13 = .ok (.aload 4, 2) := by decide +kernel
theorem dX4_anchor_15 : decode cX4_anchor 15 = .ok (.aload_n 0, 1) := by decide +kernel
theorem dX4_anchor_16 : decode cX4_anchor 16 = .ok (.getfield 20, 3) := by decide +kernel
theorem dX4_anchor_19 : decode cX4_anchor 19 = .ok (.iload_n 2, 1) := by decide +kernel
theorem dX4_anchor_20 : decode cX4_anchor 20 = .ok (.iload_n 3, 1) := by decide +kernel
theorem dX4_anchor_21 : decode cX4_anchor 21 = .ok (.aload_n 0, 1) := by decide +kernel
theorem dX4_anchor_22 : decode cX4_anchor 22 = .ok (.getfield 14, 3) := by decide +kernel
theorem dX4_anchor_25 : decode cX4_anchor 25 = .ok (.iconst 0, 1) := by decide +kernel
theorem dX4_anchor_26 : decode cX4_anchor 26 = .ok (.invokevirtual 69, 3) := by decide +kernel
theorem dX4_anchor_29 : decode cX4_anchor 29 = .ok (.invokevirtual 108, 3) := by decide +kernel
theorem dX4_anchor_32 : decode cX4_anchor 32 = .ok (.iload_n 2, 1) := by decide +kernel
theorem dX4_anchor_33 : decode cX4_anchor 33 = .ok (.istore 5, 2) := by decide +kernel
theorem dX4_anchor_35 : decode cX4_anchor 35 = .ok (.iload 5, 2) := by decide +kernel
theorem dX4_anchor_37 : decode cX4_anchor 37 = .ok (.iload_n 3, 1) := by decide +kernel
theorem dX4_anchor_38 : decode cX4_anchor 38 = .ok (.if_icmp .gt 43, 3) := by decide +kernel
theorem dX4_anchor_41 : decode cX4_anchor 41 = .ok (.iload 5, 2) := by decide +kernel
theorem dX4_anchor_43 : decode cX4_anchor 43 = .ok (.aload_n 0, 1) := by decide +kernel
theorem dX4_anchor_44 : decode cX4_anchor 44 = .ok (.getfield 23, 3) := by decide +kernel
theorem dX4_anchor_47 : decode cX4_anchor 47 = .ok (.getfield 76, 3) := by decide +kernel
theorem dX4_anchor_50 : decode cX4_anchor 50 = .ok (.if_icmp .ge 31, 3) := by decide +kernel
theorem dX4_anchor_53 : decode cX4_anchor 53 = .ok (.aload_n 0, 1) := by decide +kernel
theorem dX4_anchor_54 : decode cX4_anchor 54 = .ok (.getfield 23, 3) := by decide +kernel
theorem dX4_anchor_57 : decode cX4_anchor 57 = .ok (.iload 5, 2) := by decide +kernel
theorem dX4_anchor_59 : decode cX4_anchor 59 = .ok (.aload_n 0, 1) := by decide +kernel
theorem dX4_anchor_60 : decode cX4_anchor 60 = .ok (.getfield 23, 3) := by decide +kernel
theorem dX4_anchor_63 : decode cX4_anchor 63 = .ok (.iload 5, 2) := by decide +kernel
theorem dX4_anchor_65 : decode cX4_anchor 65 = .ok (.invokevirtual 69, 3) := by decide +kernel
theorem dX4_anchor_68 : decode cX4_anchor 68 = .ok (.iconst 1, 1) := by decide +kernel
theorem dX4_anchor_69 : decode cX4_anchor 69 = .ok (.iload_n 1, 1) := by decide +kernel
theorem dX4_anchor_70 : decode cX4_anchor 70 = .ok (.ishl, 1) := by decide +kernel
theorem dX4_anchor_71 : decode cX4_anchor 71 = .ok (.ior, 1) := by decide +kernel
theorem dX4_anchor_72 : decode cX4_anchor 72 = .ok (.invokevirtual 72, 3) := by decide +kernel
theorem dX4_anchor_75 : decode cX4_anchor 75 = .ok (.iinc 5 1, 3) := by decide +kernel
theorem dX4_anchor_78 : decode cX4_anchor 78 = .ok (.goto (-43), 3) := by decide +kernel
theorem dX4_anchor_81 : decode cX4_anchor 81 = .ok (.return_, 1) := by decide +kernel
theorem dX4_addReply_0 : decode cX4_addReply 0 = .ok (.aload_n 0, 1) := by decide +kernel
theorem dX4_addReply_1 : decode cX4_addReply 1 = .ok (.iload_n 1, 1) := by decide +kernel
theorem dX4_addReply_2 : decode cX4_addReply 2 = .ok (.invokevirtual 51, 3) := by decide +kernel
theorem dX4_addReply_5 : decode cX4_addReply 5 = .ok (.ifnonnull 5, 3) := by decide +kernel
theorem dX4_addReply_8 : decode cX4_addReply 8 = .ok (.iconst (-1), 1) := by decide +kernel
theorem dX4_addReply_9 : decode cX4_addReply 9 = .ok (.ireturn, 1) := by decide +kernel
theorem dX4_addReply_10 : decode cX4_addReply 10 = .ok (.aload_n 0, 1) := by decide +kernel
theorem dX4_addReply_11 : decode cX4_addReply 11 = .ok (.getfield 47, 3) := by decide +kernel
theorem dX4_addReply_14 : decode cX4_addReply 14 = .ok (.bipush 16, 2) := by decide +kernel
theorem dX4_addReply_16 : decode cX4_addReply 16 = .ok (.if_icmp .lt 6, 3) := by decide +kernel
theorem dX4_addReply_19 : decode cX4_addReply 19 = .ok (.bipush (-4), 2) := by decide +kernel
theorem dX4_addReply_21 : decode cX4_addReply 21 = .ok (.ireturn, 1) := by decide +kernel
theorem dX4_addReply_22 : decode cX4_addReply 22 = .ok (.aload_n 0, 1) := by decide +kernel
theorem dX4_addReply_23 : decode cX4_addReply 23 = .ok (.getfield 47, 3) := by decide +kernel
theorem dX4_addReply_26 : decode cX4_addReply 26 = .ok (.istore_n 2, 1) := by decide +kernel
theorem dX4_addReply_27 : decode cX4_addReply 27 = .ok (.aload_n 0, 1) := by decide +kernel
theorem dX4_addReply_28 : decode cX4_addReply 28 = .ok (.dup, 1) := by decide +kernel
theorem dX4_addReply_29 : decode cX4_addReply 29 = .ok (.getfield 47, 3) := by decide +kernel
theorem dX4_addReply_32 : decode cX4_addReply 32 = .ok (.iconst 1, 1) := by decide +kernel
theorem dX4_addReply_33 : decode cX4_addReply 33 = .ok (.iadd, 1) := by decide +kernel
theorem dX4_addReply_34 : decode cX4_addReply 34 = .ok (.putfield 47, 3) := by decide +kernel
theorem dX4_addReply_37 : decode cX4_addReply 37 = .ok (.aload_n 0, 1) := by decide +kernel
theorem dX4_addReply_38 : decode cX4_addReply 38 = .ok (.iload_n 2, 1) := by decide +kernel
theorem dX4_addReply_39 : decode cX4_addReply 39 = .ok (.invokevirtual 51, 3) := by decide +kernel
theorem dX4_addReply_42 : decode cX4_addReply 42 = .ok (.astore_n 3, 1) := by decide +kernel
theorem dX4_addReply_43 : decode cX4_addReply 43 = .ok (.aload_n 3, 1) := by decide +kernel
theorem dX4_addReply_44 : decode cX4_addReply 44 = .ok (.ifnull 8, 3) := by decide +kernel
theorem dX4_addReply_47 : decode cX4_addReply 47 = .ok (.aload_n 3, 1) := by decide +kernel
theorem dX4_addReply_48 : decode cX4_addReply 48 = .ok (.iload_n 1, 1) := by decide +kernel
theorem dX4_addReply_49 : decode cX4_addReply 49 = .ok (.invokevirtual 112, 3) := by decide +kernel
theorem dX4_addReply_52 : decode cX4_addReply 52 = .ok (.iload_n 2, 1) := by decide +kernel
theorem dX4_addReply_53 : decode cX4_addReply 53 = .ok (.ireturn, 1) := by decide +kernel
theorem dX4_dropFamily_0 : decode cX4_dropFamily 0 = .ok (.aload_n 0, 1) := by decide +kernel
theorem dX4_dropFamily_1 : decode cX4_dropFamily 1 = .ok (.iload_n 1, 1) := by decide +kernel
theorem dX4_dropFamily_2 : decode cX4_dropFamily 2 = .ok (.invokevirtual 51, 3) := by decide +kernel
theorem dX4_dropFamily_5 : decode cX4_dropFamily 5 = .ok (.ifnonnull 5, 3) := by decide +kernel
theorem dX4_dropFamily_8 : decode cX4_dropFamily 8 = .ok (.iconst (-1), 1) := by decide +kernel
theorem dX4_dropFamily_9 : decode cX4_dropFamily 9 = .ok (.ireturn, 1) := by decide +kernel
theorem dX4_dropFamily_10 : decode cX4_dropFamily 10 = .ok (.aload_n 0, 1) := by decide +kernel
theorem dX4_dropFamily_11 : decode cX4_dropFamily 11 = .ok (.iload_n 1, 1) := by decide +kernel
theorem dX4_dropFamily_12 : decode cX4_dropFamily 12 = .ok (.invokevirtual 115, 3) := by decide +kernel
theorem dX4_dropFamily_15 : decode cX4_dropFamily 15 = .ok (.istore_n 2, 1) := by decide +kernel
theorem dX4_dropFamily_16 : decode cX4_dropFamily 16 = .ok (.aload_n 0, 1) := by decide +kernel
theorem dX4_dropFamily_17 : decode cX4_dropFamily 17 = .ok (.getfield 47, 3) := by decide +kernel
theorem dX4_dropFamily_20 : decode cX4_dropFamily 20 = .ok (.iconst 1, 1) := by decide +kernel
theorem dX4_dropFamily_21 : decode cX4_dropFamily 21 = .ok (.isub, 1) := by decide +kernel
theorem dX4_dropFamily_22 : decode cX4_dropFamily 22 = .ok (.istore_n 3, 1) := by decide +kernel
theorem dX4_dropFamily_23 : decode cX4_dropFamily 23 = .ok (.iload_n 3, 1) := by decide +kernel
theorem dX4_dropFamily_24 : decode cX4_dropFamily 24 = .ok (.iload_n 1, 1) := by decide +kernel
theorem dX4_dropFamily_25 : decode cX4_dropFamily 25 = .ok (.if_icmp .lt 22, 3) := by decide +kernel
theorem dX4_dropFamily_28 : decode cX4_dropFamily 28 = .ok (.iload_n 2, 1) := by decide +kernel
theorem dX4_dropFamily_29 : decode cX4_dropFamily 29 = .ok (.iload_n 3, 1) := by decide +kernel
theorem dX4_dropFamily_30 : decode cX4_dropFamily 30 = .ok (.invokestatic 118, 3) := by decide +kernel
theorem dX4_dropFamily_33 : decode cX4_dropFamily 33 = .ok (.ifCond .eq 8, 3) := by decide +kernel
theorem dX4_dropFamily_36 : decode cX4_dropFamily 36 = .ok (.aload_n 0, 1) := by decide +kernel
theorem dX4_dropFamily_37 : decode cX4_dropFamily 37 = .ok (.iload_n 3, 1) := by decide +kernel
theorem dX4_dropFamily_38 : decode cX4_dropFamily 38 = .ok (.invokevirtual 122, 3) := by decide +kernel
theorem dX4_dropFamily_41 : decode cX4_dropFamily 41 = .ok (.iinc 3 (-1), 3) := by decide +kernel
theorem dX4_dropFamily_44 : decode cX4_dropFamily 44 = .ok (.goto (-21), 3) := by decide +kernel
theorem dX4_dropFamily_47 : decode cX4_dropFamily 47 = .ok (.iload_n 2, 1) := by decide +kernel
theorem dX4_dropFamily_48 : decode cX4_dropFamily 48 = .ok (.invokestatic 89, 3) := by decide +kernel
theorem dX4_dropFamily_51 : decode cX4_dropFamily 51 = .ok (.ireturn, 1) := by decide +kernel
theorem dX4_remove_0 : decode cX4_remove 0 = .ok (.aload_n 0, 1) := by decide +kernel
theorem dX4_remove_1 : decode cX4_remove 1 = .ok (.iload_n 1, 1) := by decide +kernel
theorem dX4_remove_2 : decode cX4_remove 2 = .ok (.invokevirtual 51, 3) := by decide +kernel
theorem dX4_remove_5 : decode cX4_remove 5 = .ok (.astore_n 2, 1) := by decide +kernel
theorem dX4_remove_6 : decode cX4_remove 6 = .ok (.aload_n 2, 1) := by decide +kernel
theorem dX4_remove_7 : decode cX4_remove 7 = .ok (.ifnonnull 4, 3) := by decide +kernel
theorem dX4_remove_10 : decode cX4_remove 10 = .ok (.return_, 1) := by decide +kernel
theorem dX4_remove_11 : decode cX4_remove 11 = .ok (.aload_n 0, 1) := by decide +kernel
theorem dX4_remove_12 : decode cX4_remove 12 = .ok (.dup, 1) := by decide +kernel
theorem dX4_remove_13 : decode cX4_remove 13 = .ok (.getfield 47, 3) := by decide +kernel
theorem dX4_remove_16 : decode cX4_remove 16 = .ok (.iconst 1, 1) := by decide +kernel
theorem dX4_remove_17 : decode cX4_remove 17 = .ok (.isub, 1) := by decide +kernel
theorem dX4_remove_18 : decode cX4_remove 18 = .ok (.putfield 47, 3) := by decide +kernel
theorem dX4_remove_21 : decode cX4_remove 21 = .ok (.iload_n 1, 1) := by decide +kernel
theorem dX4_remove_22 : decode cX4_remove 22 = .ok (.istore_n 3, 1) := by decide +kernel
theorem dX4_remove_23 : decode cX4_remove 23 = .ok (.iload_n 3, 1) := by decide +kernel
theorem dX4_remove_24 : decode cX4_remove 24 = .ok (.aload_n 0, 1) := by decide +kernel
theorem dX4_remove_25 : decode cX4_remove 25 = .ok (.getfield 47, 3) := by decide +kernel
theorem dX4_remove_28 : decode cX4_remove 28 = .ok (.if_icmp .ge 63, 3) := by decide +kernel
theorem dX4_remove_31 : decode cX4_remove 31 = .ok (.iload_n 3, 1) := by decide +kernel
theorem dX4_remove_32 : decode cX4_remove 32 = .ok (.iconst 1, 1) := by decide +kernel
theorem dX4_remove_33 : decode cX4_remove 33 = .ok (.iadd, 1) := by decide +kernel
theorem dX4_remove_34 : decode cX4_remove 34 = .ok (.aload_n 0, 1) := by decide +kernel
theorem dX4_remove_35 : decode cX4_remove 35 = .ok (.getfield 28, 3) := by decide +kernel
theorem dX4_remove_38 : decode cX4_remove 38 = .ok (.arraylength, 1) := by decide +kernel
theorem dX4_remove_39 : decode cX4_remove 39 = .ok (.if_icmp .ge 52, 3) := by decide +kernel
theorem dX4_remove_42 : decode cX4_remove 42 = .ok (.aload_n 0, 1) := by decide +kernel
theorem dX4_remove_43 : decode cX4_remove 43 = .ok (.getfield 28, 3) := by decide +kernel
theorem dX4_remove_46 : decode cX4_remove 46 = .ok (.iload_n 3, 1) := by decide +kernel
theorem dX4_remove_47 : decode cX4_remove 47 = .ok (.iconst 1, 1) := by decide +kernel
theorem dX4_remove_48 : decode cX4_remove 48 = .ok (.iadd, 1) := by decide +kernel
theorem dX4_remove_49 : decode cX4_remove 49 = .ok (.aaload, 1) := by decide +kernel
theorem dX4_remove_50 : decode cX4_remove 50 = .ok (.astore 4, 2) := by decide +kernel
theorem dX4_remove_52 : decode cX4_remove 52 = .ok (.aload_n 0, 1) := by decide +kernel
theorem dX4_remove_53 : decode cX4_remove 53 = .ok (.getfield 28, 3) := by decide +kernel
theorem dX4_remove_56 : decode cX4_remove 56 = .ok (.iload_n 3, 1) := by decide +kernel
theorem dX4_remove_57 : decode cX4_remove 57 = .ok (.aload 4, 2) := by decide +kernel
theorem dX4_remove_59 : decode cX4_remove 59 = .ok (.aastore, 1) := by decide +kernel
theorem dX4_remove_60 : decode cX4_remove 60 = .ok (.aload 4, 2) := by decide +kernel
theorem dX4_remove_62 : decode cX4_remove 62 = .ok (.ifnull 23, 3) := by decide +kernel
theorem dX4_remove_65 : decode cX4_remove 65 = .ok (.aload 4, 2) := by decide +kernel
theorem dX4_remove_67 : decode cX4_remove 67 = .ok (.getfield 125, 3) := by decide +kernel
theorem dX4_remove_70 : decode cX4_remove 70 = .ok (.iload_n 1, 1) := by decide +kernel
theorem dX4_remove_71 : decode cX4_remove 71 = .ok (.if_icmp .le 14, 3) := by decide +kernel
theorem dX4_remove_74 : decode cX4_remove 74 = .ok (.aload 4, 2) := by decide +kernel
theorem dX4_remove_76 : decode cX4_remove 76 = .ok (.dup, 1) := by decide +kernel
theorem dX4_remove_77 : decode cX4_remove 77 = .ok (.getfield 125, 3) := by decide +kernel
theorem dX4_remove_80 : decode cX4_remove 80 = .ok (.iconst 1, 1) := by decide +kernel
theorem dX4_remove_81 : decode cX4_remove 81 = .ok (.isub, 1) := by decide +kernel
theorem dX4_remove_82 : decode cX4_remove 82 = .ok (.putfield 125, 3) := by decide +kernel
theorem dX4_remove_85 : decode cX4_remove 85 = .ok (.iinc 3 1, 3) := by decide +kernel
theorem dX4_remove_88 : decode cX4_remove 88 = .ok (.goto (-65), 3) := by decide +kernel
theorem dX4_remove_91 : decode cX4_remove 91 = .ok (.aload_n 0, 1) := by decide +kernel
theorem dX4_remove_92 : decode cX4_remove 92 = .ok (.getfield 47, 3) := by decide +kernel
theorem dX4_remove_95 : decode cX4_remove 95 = .ok (.aload_n 0, 1) := by decide +kernel
theorem dX4_remove_96 : decode cX4_remove 96 = .ok (.getfield 28, 3) := by decide +kernel
theorem dX4_remove_99 : decode cX4_remove 99 = .ok (.arraylength, 1) := by decide +kernel
theorem dX4_remove_100 : decode cX4_remove 100 = .ok (.if_icmp .ge 13, 3) := by decide +kernel
theorem dX4_remove_103 : decode cX4_remove 103 = .ok (.aload_n 0, 1) := by decide +kernel
theorem dX4_remove_104 : decode cX4_remove 104 = .ok (.getfield 28, 3) := by decide +kernel
theorem dX4_remove_107 : decode cX4_remove 107 = .ok (.aload_n 0, 1) := by decide +kernel
theorem dX4_remove_108 : decode cX4_remove 108 = .ok (.getfield 47, 3) := by decide +kernel
theorem dX4_remove_111 : decode cX4_remove 111 = .ok (.aload_n 2, 1) := by decide +kernel
theorem dX4_remove_112 : decode cX4_remove 112 = .ok (.aastore, 1) := by decide +kernel
theorem dX4_remove_113 : decode cX4_remove 113 = .ok (.iconst 1, 1) := by decide +kernel
theorem dX4_remove_114 : decode cX4_remove 114 = .ok (.iload_n 1, 1) := by decide +kernel
theorem dX4_remove_115 : decode cX4_remove 115 = .ok (.ishl, 1) := by decide +kernel
theorem dX4_remove_116 : decode cX4_remove 116 = .ok (.iconst 1, 1) := by decide +kernel
theorem dX4_remove_117 : decode cX4_remove 117 = .ok (.isub, 1) := by decide +kernel
theorem dX4_remove_118 : decode cX4_remove 118 = .ok (.istore_n 3, 1) := by decide +kernel
theorem dX4_remove_119 : decode cX4_remove 119 = .ok (.iconst 0, 1) := by decide +kernel
theorem dX4_remove_120 : decode cX4_remove 120 = .ok (.istore 4, 2) := by decide +kernel
theorem dX4_remove_122 : decode cX4_remove 122 = .ok (.iload 4, 2) := by decide +kernel
theorem dX4_remove_124 : decode cX4_remove 124 = .ok (.aload_n 0, 1) := by decide +kernel
theorem dX4_remove_125 : decode cX4_remove 125 = .ok (.getfield 23, 3) := by decide +kernel
theorem dX4_remove_128 : decode cX4_remove 128 = .ok (.getfield 76, 3) := by decide +kernel
theorem dX4_remove_131 : decode cX4_remove 131 = .ok (.if_icmp .ge 42, 3) := by decide +kernel
theorem dX4_remove_134 : decode cX4_remove 134 = .ok (.aload_n 0, 1) := by decide +kernel
theorem dX4_remove_135 : decode cX4_remove 135 = .ok (.getfield 23, 3) := by decide +kernel
theorem dX4_remove_138 : decode cX4_remove 138 = .ok (.iload 4, 2) := by decide +kernel
theorem dX4_remove_140 : decode cX4_remove 140 = .ok (.invokevirtual 69, 3) := by decide +kernel
theorem dX4_remove_143 : decode cX4_remove 143 = .ok (.istore 5, 2) := by decide +kernel
theorem dX4_remove_145 : decode cX4_remove 145 = .ok (.aload_n 0, 1) := by decide +kernel
theorem dX4_remove_146 : decode cX4_remove 146 = .ok (.getfield 23, 3) := by decide +kernel
theorem dX4_remove_149 : decode cX4_remove 149 = .ok (.iload 4, 2) := by decide +kernel
theorem dX4_remove_151 : decode cX4_remove 151 = .ok (.iload 5, 2) := by decide +kernel
theorem dX4_remove_153 : decode cX4_remove 153 = .ok (.iload_n 3, 1) := by decide +kernel
theorem dX4_remove_154 : decode cX4_remove 154 = .ok (.iand, 1) := by decide +kernel
theorem dX4_remove_155 : decode cX4_remove 155 = .ok (.iload 5, 2) := by decide +kernel
theorem dX4_remove_157 : decode cX4_remove 157 = .ok (.iconst 1, 1) := by decide +kernel
theorem dX4_remove_158 : decode cX4_remove 158 = .ok (.ishr, 1) := by decide +kernel
theorem dX4_remove_159 : decode cX4_remove 159 = .ok (.iload_n 3, 1) := by decide +kernel
theorem dX4_remove_160 : decode cX4_remove 160 = .ok (.iconst (-1), 1) := by decide +kernel
theorem dX4_remove_161 : decode cX4_remove 161 = .ok (.ixor, 1) := by decide +kernel
theorem dX4_remove_162 : decode cX4_remove 162 = .ok (.iand, 1) := by decide +kernel
theorem dX4_remove_163 : decode cX4_remove 163 = .ok (.ior, 1) := by decide +kernel
theorem dX4_remove_164 : decode cX4_remove 164 = .ok (.invokevirtual 72, 3) := by decide +kernel
theorem dX4_remove_167 : decode cX4_remove 167 = .ok (.iinc 4 1, 3) := by decide +kernel
theorem dX4_remove_170 : decode cX4_remove 170 = .ok (.goto (-48), 3) := by decide +kernel
theorem dX4_remove_173 : decode cX4_remove 173 = .ok (.return_, 1) := by decide +kernel
theorem dX4_reclaimNote_0 : decode cX4_reclaimNote 0 = .ok (.aload_n 0, 1) := by decide +kernel
theorem dX4_reclaimNote_1 : decode cX4_reclaimNote 1 = .ok (.iload_n 1, 1) := by decide +kernel
theorem dX4_reclaimNote_2 : decode cX4_reclaimNote 2 = .ok (.invokevirtual 51, 3) := by decide +kernel
theorem dX4_reclaimNote_5 : decode cX4_reclaimNote 5 = .ok (.astore_n 3, 1) := by decide +kernel
theorem dX4_reclaimNote_6 : decode cX4_reclaimNote 6 = .ok (.aload_n 3, 1) := by decide +kernel
theorem dX4_reclaimNote_7 : decode cX4_reclaimNote 7 = .ok (.ifnonnull 5, 3) := by decide +kernel
theorem dX4_reclaimNote_10 : decode cX4_reclaimNote 10 = .ok (.iconst (-1), 1) := by decide +kernel
theorem dX4_reclaimNote_11 : decode cX4_reclaimNote 11 = .ok (.ireturn, 1) := by decide +kernel
theorem dX4_reclaimNote_12 : decode cX4_reclaimNote 12 = .ok (.aload_n 0, 1) := by decide +kernel
theorem dX4_reclaimNote_13 : decode cX4_reclaimNote 13 = .ok (.iload_n 1, 1) := by decide +kernel
theorem dX4_reclaimNote_14 : decode cX4_reclaimNote 14 = .ok (.invokevirtual 128, 3) := by decide +kernel
theorem dX4_reclaimNote_17 : decode cX4_reclaimNote 17 = .ok (.iconst 1, 1) := by decide +kernel
theorem dX4_reclaimNote_18 : decode cX4_reclaimNote 18 = .ok (.if_icmp .eq 6, 3) := by decide +kernel
theorem dX4_reclaimNote_21 : decode cX4_reclaimNote 21 = .ok (.bipush (-5), 2) := by decide +kernel
theorem dX4_reclaimNote_23 : decode cX4_reclaimNote 23 = .ok (.ireturn, 1) := by decide +kernel
theorem dX4_reclaimNote_24 : decode cX4_reclaimNote 24 = .ok (.aload_n 2, 1) := by decide +kernel
theorem dX4_reclaimNote_25 : decode cX4_reclaimNote 25 = .ok (.aload_n 0, 1) := by decide +kernel
theorem dX4_reclaimNote_26 : decode cX4_reclaimNote 26 = .ok (.getfield 20, 3) := by decide +kernel
theorem dX4_reclaimNote_29 : decode cX4_reclaimNote 29 = .ok (.aload_n 3, 1) := by decide +kernel
theorem dX4_reclaimNote_30 : decode cX4_reclaimNote 30 = .ok (.invokevirtual 131, 3) := by decide +kernel
theorem dX4_reclaimNote_33 : decode cX4_reclaimNote 33 = .ok (.aload_n 2, 1) := by decide +kernel
theorem dX4_reclaimNote_34 : decode cX4_reclaimNote 34 = .ok (.getfield 137, 3) := by decide +kernel
theorem dX4_reclaimNote_37 : decode cX4_reclaimNote 37 = .ok (.ifCond .ne 6, 3) := by decide +kernel
theorem dX4_reclaimNote_40 : decode cX4_reclaimNote 40 = .ok (.bipush (-5), 2) := by decide +kernel
theorem dX4_reclaimNote_42 : decode cX4_reclaimNote 42 = .ok (.ireturn, 1) := by decide +kernel
theorem dX4_reclaimNote_43 : decode cX4_reclaimNote 43 = .ok (.aload_n 0, 1) := by decide +kernel
theorem dX4_reclaimNote_44 : decode cX4_reclaimNote 44 = .ok (.iload_n 1, 1) := by decide +kernel
theorem dX4_reclaimNote_45 : decode cX4_reclaimNote 45 = .ok (.aload_n 2, 1) := by decide +kernel
theorem dX4_reclaimNote_46 : decode cX4_reclaimNote 46 = .ok (.getfield 140, 3) := by decide +kernel
theorem dX4_reclaimNote_49 : decode cX4_reclaimNote 49 = .ok (.aload_n 2, 1) := by decide +kernel
theorem dX4_reclaimNote_50 : decode cX4_reclaimNote 50 = .ok (.getfield 140, 3) := by decide +kernel
theorem dX4_reclaimNote_53 : decode cX4_reclaimNote 53 = .ok (.aload_n 3, 1) := by decide +kernel
theorem dX4_reclaimNote_54 : decode cX4_reclaimNote 54 = .ok (.getfield 143, 3) := by decide +kernel
theorem dX4_reclaimNote_57 : decode cX4_reclaimNote 57 = .ok (.getfield 76, 3) := by decide +kernel
theorem dX4_reclaimNote_60 : decode cX4_reclaimNote 60 = .ok (.iadd, 1) := by decide +kernel
theorem dX4_reclaimNote_61 : decode cX4_reclaimNote 61 = .ok (.iconst 1, 1) := by decide +kernel
theorem dX4_reclaimNote_62 : decode cX4_reclaimNote 62 = .ok (.isub, 1) := by decide +kernel
theorem dX4_reclaimNote_63 : decode cX4_reclaimNote 63 = .ok (.invokevirtual 105, 3) := by decide +kernel
theorem dX4_reclaimNote_66 : decode cX4_reclaimNote 66 = .ok (.aload_n 2, 1) := by decide +kernel
theorem dX4_reclaimNote_67 : decode cX4_reclaimNote 67 = .ok (.getfield 140, 3) := by decide +kernel
theorem dX4_reclaimNote_70 : decode cX4_reclaimNote 70 = .ok (.ireturn, 1) := by decide +kernel
theorem dX4_state_0 : decode cX4_state 0 = .ok (.aload_n 0, 1) := by decide +kernel
theorem dX4_state_1 : decode cX4_state 1 = .ok (.iload_n 1, 1) := by decide +kernel
theorem dX4_state_2 : decode cX4_state 2 = .ok (.invokevirtual 51, 3) := by decide +kernel
theorem dX4_state_5 : decode cX4_state 5 = .ok (.astore_n 2, 1) := by decide +kernel
theorem dX4_state_6 : decode cX4_state 6 = .ok (.aload_n 2, 1) := by decide +kernel
theorem dX4_state_7 : decode cX4_state 7 = .ok (.ifnull 12, 3) := by decide +kernel
theorem dX4_state_10 : decode cX4_state 10 = .ok (.aload_n 2, 1) := by decide +kernel
theorem dX4_state_11 : decode cX4_state 11 = .ok (.invokevirtual 146, 3) := by decide +kernel
theorem dX4_state_14 : decode cX4_state 14 = .ok (.ifCond .eq 5, 3) := by decide +kernel
theorem dX4_state_17 : decode cX4_state 17 = .ok (.iconst 2, 1) := by decide +kernel
theorem dX4_state_18 : decode cX4_state 18 = .ok (.ireturn, 1) := by decide +kernel
theorem dX4_state_19 : decode cX4_state 19 = .ok (.aload_n 0, 1) := by decide +kernel
theorem dX4_state_20 : decode cX4_state 20 = .ok (.iload_n 1, 1) := by decide +kernel
theorem dX4_state_21 : decode cX4_state 21 = .ok (.invokevirtual 150, 3) := by decide +kernel
theorem dX4_state_24 : decode cX4_state 24 = .ok (.getfield 154, 3) := by decide +kernel
theorem dX4_state_27 : decode cX4_state 27 = .ok (.ifCond .le 7, 3) := by decide +kernel
theorem dX4_state_30 : decode cX4_state 30 = .ok (.iconst 0, 1) := by decide +kernel
theorem dX4_state_31 : decode cX4_state 31 = .ok (.goto 4, 3) := by decide +kernel
theorem dX4_state_34 : decode cX4_state 34 = .ok (.iconst 1, 1) := by decide +kernel
theorem dX4_state_35 : decode cX4_state 35 = .ok (.ireturn, 1) := by decide +kernel
theorem dX4_piecesOf_0 : decode cX4_piecesOf 0 = .ok (.aload_n 0, 1) := by decide +kernel
theorem dX4_piecesOf_1 : decode cX4_piecesOf 1 = .ok (.getfield 35, 3) := by decide +kernel
theorem dX4_piecesOf_4 : decode cX4_piecesOf 4 = .ok (.aload_n 0, 1) := by decide +kernel
theorem dX4_piecesOf_5 : decode cX4_piecesOf 5 = .ok (.getfield 23, 3) := by decide +kernel
theorem dX4_piecesOf_8 : decode cX4_piecesOf 8 = .ok (.iload_n 1, 1) := by decide +kernel
theorem dX4_piecesOf_9 : decode cX4_piecesOf 9 = .ok (.invokevirtual 156, 3) := by decide +kernel
theorem dX4_piecesOf_12 : decode cX4_piecesOf 12 = .ok (.aload_n 0, 1) := by decide +kernel
theorem dX4_piecesOf_13 : decode cX4_piecesOf 13 = .ok (.getfield 35, 3) := by decide +kernel
theorem dX4_piecesOf_16 : decode cX4_piecesOf 16 = .ok (.areturn, 1) := by decide +kernel
theorem dX4_depth_0 : decode cX4_depth 0 = .ok (.iconst 0, 1) := by decide +kernel
theorem dX4_depth_1 : decode cX4_depth 1 = .ok (.istore_n 2, 1) := by decide +kernel
theorem dX4_depth_2 : decode cX4_depth 2 = .ok (.aload_n 0, 1) := by decide +kernel
theorem dX4_depth_3 : decode cX4_depth 3 = .ok (.iload_n 1, 1) := by decide +kernel
theorem dX4_depth_4 : decode cX4_depth 4 = .ok (.invokevirtual 51, 3) := by decide +kernel
theorem dX4_depth_7 : decode cX4_depth 7 = .ok (.astore_n 3, 1) := by decide +kernel
theorem dX4_depth_8 : decode cX4_depth 8 = .ok (.iload_n 2, 1) := by decide +kernel
theorem dX4_depth_9 : decode cX4_depth 9 = .ok (.bipush 16, 2) := by decide +kernel
theorem dX4_depth_11 : decode cX4_depth 11 = .ok (.if_icmp .ge 29, 3) := by decide +kernel
theorem dX4_depth_14 : decode cX4_depth 14 = .ok (.aload_n 3, 1) := by decide +kernel
theorem dX4_depth_15 : decode cX4_depth 15 = .ok (.ifnull 25, 3) := by decide +kernel
theorem dX4_depth_18 : decode cX4_depth 18 = .ok (.aload_n 3, 1) := by decide +kernel
theorem dX4_depth_19 : decode cX4_depth 19 = .ok (.invokevirtual 146, 3) := by decide +kernel
theorem dX4_depth_22 : decode cX4_depth 22 = .ok (.ifCond .eq 18, 3) := by decide +kernel
theorem dX4_depth_25 : decode cX4_depth 25 = .ok (.iinc 2 1, 3) := by decide +kernel
theorem dX4_depth_28 : decode cX4_depth 28 = .ok (.aload_n 0, 1) := by decide +kernel
theorem dX4_depth_29 : decode cX4_depth 29 = .ok (.aload_n 3, 1) := by decide +kernel
theorem dX4_depth_30 : decode cX4_depth 30 = .ok (.getfield 125, 3) := by decide +kernel
theorem dX4_depth_33 : decode cX4_depth 33 = .ok (.invokevirtual 51, 3) := by decide +kernel
theorem dX4_depth_36 : decode cX4_depth 36 = .ok (.astore_n 3, 1) := by decide +kernel
theorem dX4_depth_37 : decode cX4_depth 37 = .ok (.goto (-29), 3) := by decide +kernel
theorem dX4_depth_40 : decode cX4_depth 40 = .ok (.iload_n 2, 1) := by decide +kernel
theorem dX4_depth_41 : decode cX4_depth 41 = .ok (.ireturn, 1) := by decide +kernel
theorem dX4_root_0 : decode cX4_root 0 = .ok (.iload_n 1, 1) := by decide +kernel
theorem dX4_root_1 : decode cX4_root 1 = .ok (.istore_n 2, 1) := by decide +kernel
theorem dX4_root_2 : decode cX4_root 2 = .ok (.aload_n 0, 1) := by decide +kernel
theorem dX4_root_3 : decode cX4_root 3 = .ok (.iload_n 1, 1) := by decide +kernel
theorem dX4_root_4 : decode cX4_root 4 = .ok (.invokevirtual 160, 3) := by decide +kernel
theorem dX4_root_7 : decode cX4_root 7 = .ok (.istore_n 3, 1) := by decide +kernel
theorem dX4_root_8 : decode cX4_root 8 = .ok (.iload_n 3, 1) := by decide +kernel
theorem dX4_root_9 : decode cX4_root 9 = .ok (.ifCond .le 31, 3) := by decide +kernel
theorem dX4_root_12 : decode cX4_root 12 = .ok (.aload_n 0, 1) := by decide +kernel
theorem dX4_root_13 : decode cX4_root 13 = .ok (.iload_n 2, 1) := by decide +kernel
theorem dX4_root_14 : decode cX4_root 14 = .ok (.invokevirtual 51, 3) := by decide +kernel
theorem dX4_root_17 : decode cX4_root 17 = .ok (.astore 4, 2) := by decide +kernel
theorem dX4_root_19 : decode cX4_root 19 = .ok (.aload 4, 2) := by decide +kernel
theorem dX4_root_21 : decode cX4_root 21 = .ok (.ifnonnull 7, 3) := by decide +kernel
theorem dX4_root_24 : decode cX4_root 24 = .ok (.iload_n 2, 1) := by decide +kernel
theorem dX4_root_25 : decode cX4_root 25 = .ok (.goto 8, 3) := by decide +kernel
theorem dX4_root_28 : decode cX4_root 28 = .ok (.aload 4, 2) := by decide +kernel
theorem dX4_root_30 : decode cX4_root 30 = .ok (.getfield 125, 3) := by decide +kernel
theorem dX4_root_33 : decode cX4_root 33 = .ok (.istore_n 2, 1) := by decide +kernel
theorem dX4_root_34 : decode cX4_root 34 = .ok (.iinc 3 (-1), 3) := by decide +kernel
theorem dX4_root_37 : decode cX4_root 37 = .ok (.goto (-29), 3) := by decide +kernel
theorem dX4_root_40 : decode cX4_root 40 = .ok (.iload_n 2, 1) := by decide +kernel
theorem dX4_root_41 : decode cX4_root 41 = .ok (.ireturn, 1) := by decide +kernel
theorem dX4_family_0 : decode cX4_family 0 = .ok (.iconst 1, 1) := by decide +kernel
theorem dX4_family_1 : decode cX4_family 1 = .ok (.iload_n 1, 1) := by decide +kernel
theorem dX4_family_2 : decode cX4_family 2 = .ok (.ishl, 1) := by decide +kernel
theorem dX4_family_3 : decode cX4_family 3 = .ok (.istore_n 2, 1) := by decide +kernel
theorem dX4_family_4 : decode cX4_family 4 = .ok (.iload_n 1, 1) := by decide +kernel
theorem dX4_family_5 : decode cX4_family 5 = .ok (.iconst 1, 1) := by decide +kernel
theorem dX4_family_6 : decode cX4_family 6 = .ok (.iadd, 1) := by decide +kernel
theorem dX4_family_7 : decode cX4_family 7 = .ok (.istore_n 3, 1) := by decide +kernel
theorem dX4_family_8 : decode cX4_family 8 = .ok (.iload_n 3, 1) := by decide +kernel
theorem dX4_family_9 : decode cX4_family 9 = .ok (.aload_n 0, 1) := by decide +kernel
theorem dX4_family_10 : decode cX4_family 10 = .ok (.getfield 47, 3) := by decide +kernel
theorem dX4_family_13 : decode cX4_family 13 = .ok (.if_icmp .ge 39, 3) := by decide +kernel
theorem dX4_family_16 : decode cX4_family 16 = .ok (.aload_n 0, 1) := by decide +kernel
theorem dX4_family_17 : decode cX4_family 17 = .ok (.iload_n 3, 1) := by decide +kernel
theorem dX4_family_18 : decode cX4_family 18 = .ok (.invokevirtual 51, 3) := by decide +kernel
theorem dX4_family_21 : decode cX4_family 21 = .ok (.astore 4, 2) := by decide +kernel
theorem dX4_family_23 : decode cX4_family 23 = .ok (.aload 4, 2) := by decide +kernel
theorem dX4_family_25 : decode cX4_family 25 = .ok (.ifnull 21, 3) := by decide +kernel
theorem dX4_family_28 : decode cX4_family 28 = .ok (.iload_n 2, 1) := by decide +kernel
theorem dX4_family_29 : decode cX4_family 29 = .ok (.aload 4, 2) := by decide +kernel
theorem dX4_family_31 : decode cX4_family 31 = .ok (.getfield 125, 3) := by decide +kernel
theorem dX4_family_34 : decode cX4_family 34 = .ok (.invokestatic 118, 3) := by decide +kernel
theorem dX4_family_37 : decode cX4_family 37 = .ok (.ifCond .eq 9, 3) := by decide +kernel
theorem dX4_family_40 : decode cX4_family 40 = .ok (.iload_n 2, 1) := by decide +kernel
theorem dX4_family_41 : decode cX4_family 41 = .ok (.iconst 1, 1) := by decide +kernel
theorem dX4_family_42 : decode cX4_family 42 = .ok (.iload_n 3, 1) := by decide +kernel
theorem dX4_family_43 : decode cX4_family 43 = .ok (.ishl, 1) := by decide +kernel
theorem dX4_family_44 : decode cX4_family 44 = .ok (.ior, 1) := by decide +kernel
theorem dX4_family_45 : decode cX4_family 45 = .ok (.istore_n 2, 1) := by decide +kernel
theorem dX4_family_46 : decode cX4_family 46 = .ok (.iinc 3 1, 3) := by decide +kernel
theorem dX4_family_49 : decode cX4_family 49 = .ok (.goto (-41), 3) := by decide +kernel
theorem dX4_family_52 : decode cX4_family 52 = .ok (.iload_n 2, 1) := by decide +kernel
theorem dX4_family_53 : decode cX4_family 53 = .ok (.ireturn, 1) := by decide +kernel
theorem dX4_countState_0 : decode cX4_countState 0 = .ok (.iconst 0, 1) := by decide +kernel
theorem dX4_countState_1 : decode cX4_countState 1 = .ok (.istore_n 2, 1) := by decide +kernel
theorem dX4_countState_2 : decode cX4_countState 2 = .ok (.iconst 0, 1) := by decide +kernel
theorem dX4_countState_3 : decode cX4_countState 3 = .ok (.istore_n 3, 1) := by decide +kernel
theorem dX4_countState_4 : decode cX4_countState 4 = .ok (.iload_n 3, 1) := by decide +kernel
theorem dX4_countState_5 : decode cX4_countState 5 = .ok (.aload_n 0, 1) := by decide +kernel
theorem dX4_countState_6 : decode cX4_countState 6 = .ok (.getfield 47, 3) := by decide +kernel
theorem dX4_countState_9 : decode cX4_countState 9 = .ok (.if_icmp .ge 21, 3) := by decide +kernel
theorem dX4_countState_12 : decode cX4_countState 12 = .ok (.aload_n 0, 1) := by decide +kernel
theorem dX4_countState_13 : decode cX4_countState 13 = .ok (.iload_n 3, 1) := by decide +kernel
theorem dX4_countState_14 : decode cX4_countState 14 = .ok (.invokevirtual 128, 3) := by decide +kernel
theorem dX4_countState_17 : decode cX4_countState 17 = .ok (.iload_n 1, 1) := by decide +kernel
theorem dX4_countState_18 : decode cX4_countState 18 = .ok (.if_icmp .ne 6, 3) := by decide +kernel
theorem dX4_countState_21 : decode cX4_countState 21 = .ok (.iinc 2 1, 3) := by decide +kernel
theorem dX4_countState_24 : decode cX4_countState 24 = .ok (.iinc 3 1, 3) := by decide +kernel
theorem dX4_countState_27 : decode cX4_countState 27 = .ok (.goto (-23), 3) := by decide +kernel
theorem dX4_countState_30 : decode cX4_countState 30 = .ok (.iload_n 2, 1) := by decide +kernel
theorem dX4_countState_31 : decode cX4_countState 31 = .ok (.ireturn, 1) := by decide +kernel
theorem dX4_countParted_0 : decode cX4_countParted 0 = .ok (.iconst 0, 1) := by decide +kernel
theorem dX4_countParted_1 : decode cX4_countParted 1 = .ok (.istore_n 1, 1) := by decide +kernel
theorem dX4_countParted_2 : decode cX4_countParted 2 = .ok (.iconst 0, 1) := by decide +kernel
theorem dX4_countParted_3 : decode cX4_countParted 3 = .ok (.istore_n 2, 1) := by decide +kernel
theorem dX4_countParted_4 : decode cX4_countParted 4 = .ok (.iload_n 2, 1) := by decide +kernel
theorem dX4_countParted_5 : decode cX4_countParted 5 = .ok (.aload_n 0, 1) := by decide +kernel
theorem dX4_countParted_6 : decode cX4_countParted 6 = .ok (.getfield 47, 3) := by decide +kernel
theorem dX4_countParted_9 : decode cX4_countParted 9 = .ok (.if_icmp .ge 24, 3) := by decide +kernel
theorem dX4_countParted_12 : decode cX4_countParted 12 = .ok (.aload_n 0, 1) := by decide +kernel
theorem dX4_countParted_13 : decode cX4_countParted 13 = .ok (.iload_n 2, 1) := by decide +kernel
theorem dX4_countParted_14 : decode cX4_countParted 14 = .ok (.invokevirtual 150, 3) := by decide +kernel
theorem dX4_countParted_17 : decode cX4_countParted 17 = .ok (.getfield 163, 3) := by decide +kernel
theorem dX4_countParted_20 : decode cX4_countParted 20 = .ok (.iconst 1, 1) := by decide +kernel
theorem dX4_countParted_21 : decode cX4_countParted 21 = .ok (.if_icmp .le 6, 3) := by decide +kernel
theorem dX4_countParted_24 : decode cX4_countParted 24 = .ok (.iinc 1 1, 3) := by decide +kernel
theorem dX4_countParted_27 : decode cX4_countParted 27 = .ok (.iinc 2 1, 3) := by decide +kernel
theorem dX4_countParted_30 : decode cX4_countParted 30 = .ok (.goto (-26), 3) := by decide +kernel
theorem dX4_countParted_33 : decode cX4_countParted 33 = .ok (.iload_n 1, 1) := by decide +kernel
theorem dX4_countParted_34 : decode cX4_countParted 34 = .ok (.ireturn, 1) := by decide +kernel
theorem dX4_countLines_0 : decode cX4_countLines 0 = .ok (.aload_n 0, 1) := by decide +kernel
theorem dX4_countLines_1 : decode cX4_countLines 1 = .ok (.getfield 20, 3) := by decide +kernel
theorem dX4_countLines_4 : decode cX4_countLines 4 = .ok (.getfield 76, 3) := by decide +kernel
theorem dX4_countLines_7 : decode cX4_countLines 7 = .ok (.ifCond .ne 7, 3) := by decide +kernel
theorem dX4_countLines_10 : decode cX4_countLines 10 = .ok (.iconst 0, 1) := by decide +kernel
theorem dX4_countLines_11 : decode cX4_countLines 11 = .ok (.goto 18, 3) := by decide +kernel
theorem dX4_countLines_14 : decode cX4_countLines 14 = .ok (.aload_n 0, 1) := by decide +kernel
theorem dX4_countLines_15 : decode cX4_countLines 15 = .ok (.aload_n 0, 1) := by decide +kernel
theorem dX4_countLines_16 : decode cX4_countLines 16 = .ok (.getfield 20, 3) := by decide +kernel
theorem dX4_countLines_19 : decode cX4_countLines 19 = .ok (.getfield 76, 3) := by decide +kernel
theorem dX4_countLines_22 : decode cX4_countLines 22 = .ok (.iconst 1, 1) := by decide +kernel
theorem dX4_countLines_23 : decode cX4_countLines 23 = .ok (.isub, 1) := by decide +kernel
theorem dX4_countLines_24 : decode cX4_countLines 24 = .ok (.invokevirtual 165, 3) := by decide +kernel
theorem dX4_countLines_27 : decode cX4_countLines 27 = .ok (.iconst 1, 1) := by decide +kernel
theorem dX4_countLines_28 : decode cX4_countLines 28 = .ok (.iadd, 1) := by decide +kernel
theorem dX4_countLines_29 : decode cX4_countLines 29 = .ok (.ireturn, 1) := by decide +kernel
theorem dX4_lineOf_0 : decode cX4_lineOf 0 = .ok (.aload_n 0, 1) := by decide +kernel
theorem dX4_lineOf_1 : decode cX4_lineOf 1 = .ok (.getfield 14, 3) := by decide +kernel
theorem dX4_lineOf_4 : decode cX4_lineOf 4 = .ok (.iconst 1, 1) := by decide +kernel
theorem dX4_lineOf_5 : decode cX4_lineOf 5 = .ok (.invokevirtual 69, 3) := by decide +kernel
theorem dX4_lineOf_8 : decode cX4_lineOf 8 = .ok (.istore_n 2, 1) := by decide +kernel
theorem dX4_lineOf_9 : decode cX4_lineOf 9 = .ok (.iload_n 2, 1) := by decide +kernel
theorem dX4_lineOf_10 : decode cX4_lineOf 10 = .ok (.iconst 1, 1) := by decide +kernel
theorem dX4_lineOf_11 : decode cX4_lineOf 11 = .ok (.if_icmp .ge 7, 3) := by decide +kernel
theorem dX4_lineOf_14 : decode cX4_lineOf 14 = .ok (.iconst 0, 1) := by decide +kernel
theorem dX4_lineOf_15 : decode cX4_lineOf 15 = .ok (.goto 6, 3) := by decide +kernel
theorem dX4_lineOf_18 : decode cX4_lineOf 18 = .ok (.iload_n 1, 1) := by decide +kernel
theorem dX4_lineOf_19 : decode cX4_lineOf 19 = .ok (.iload_n 2, 1) := by decide +kernel
theorem dX4_lineOf_20 : decode cX4_lineOf 20 = .ok (.idiv, 1) := by decide +kernel
theorem dX4_lineOf_21 : decode cX4_lineOf 21 = .ok (.ireturn, 1) := by decide +kernel
end
section
set_option maxRecDepth 20000 in
theorem ggX0_keep_X4_init : GoodIn wsX0_keep wsX4_init := goodIn_r _ [8, 9, 10, 11, 12, 13, 14, 15, 16, 17, 18, 19, 20, 21, 22, 23, 24, 25, 26, 27, 28, 29, 30, 31, 32, 33, 34, 35, 36, 37, 38, 39, 40, 41, 42, 43, 44, 45, 46, 47, 48, 83, 84, 77, 78, 79, 80, 81, 82, 85, 86, 87, 88, 89, 90, 91, 92] (by decide +kernel) (by decide +kernel)
set_option maxRecDepth 20000 in
theorem gX0_keep_X4_init : GoodIn wsX0_keep (wsX4_init) := ggX0_keep_X4_init
set_option maxRecDepth 20000 in
theorem ggX0_keep_X4_copyFrom : GoodIn wsX0_keep wsX4_copyFrom := goodIn_r _ [52, 15, 16, 17, 53, 54, 55, 56, 14, 57, 39, 31, 58, 59, 60, 61, 62, 63, 64, 65, 66, 67, 68, 5, 69, 19, 70, 71, 72, 25, 73, 43, 45, 46, 47, 74, 77, 78, 79, 80, 81, 82, 83, 84, 89, 90, 91, 92] (by decide +kernel) (by decide +kernel)
set_option maxRecDepth 20000 in
theorem gX0_keep_X4_copyFrom : GoodIn wsX0_keep (wsV RX0 22 RX4 yX4_copyFrom wsX4_copyFrom) := goodIn_app (goodIn_of _ (by decide +kernel)) ggX0_keep_X4_copyFrom
set_option maxRecDepth 20000 in
theorem ggX0_confirm_X0_forgetOldest : GoodIn wsX0_confirm wsX0_forgetOldest := goodIn_r _ [6, 7, 8, 9] (by decide +kernel) (by decide +kernel)
set_option maxRecDepth 20000 in
theorem gX0_confirm_X0_forgetOldest : GoodIn wsX0_confirm (wsV RX0 26 RX0 yX0_forgetOldest wsX0_forgetOldest) := goodIn_app (goodIn_of _ (by decide +kernel)) ggX0_confirm_X0_forgetOldest
set_option maxRecDepth 20000 in
theorem ggX0_goBack_X4_copyFrom : GoodIn wsX0_goBack wsX4_copyFrom := goodIn_r _ [7, 8, 9, 10, 11, 12, 13, 14, 15, 16, 17, 18, 19, 20, 21, 22, 23, 24, 25, 26, 27, 28, 29, 6, 30, 31, 32, 33, 34, 35, 36, 37, 38, 39, 40, 41, 44, 45, 46, 47, 48, 49, 50, 51, 52, 53, 54, 55] (by decide +kernel) (by decide +kernel)
set_option maxRecDepth 20000 in
theorem gX0_goBack_X4_copyFrom : GoodIn wsX0_goBack (wsV RX0 22 RX4 yX4_copyFrom wsX4_copyFrom) := goodIn_app (goodIn_of _ (by decide +kernel)) ggX0_goBack_X4_copyFrom
theorem dX0_init_0 : decode cX0_init 0 = .ok (.aload_n 0, 1) := by decide +kernel
theorem dX0_init_1 : decode cX0_init 1 = .ok (.invokespecial 3, 3) := by decide +kernel
theorem dX0_init_4 : decode cX0_init 4 = .ok (.aload_n 0, 1) := by decide +kernel
theorem dX0_init_5 : decode cX0_init 5 = .ok (.bipush 7, 2) := by decide +kernel
theorem dX0_init_7 : decode cX0_init 7 = .ok (.anewarray 9, 3) := by decide +kernel
theorem dX0_init_10 : decode cX0_init 10 = .ok (.putfield 11, 3) := by decide +kernel
theorem dX0_init_13 : decode cX0_init 13 = .ok (.return_, 1) := by decide +kernel
theorem dX0_keep_0 : decode cX0_keep 0 = .ok (.aload_n 0, 1) := by decide +kernel
theorem dX0_keep_1 : decode cX0_keep 1 = .ok (.getfield 17, 3) := by decide +kernel
theorem dX0_keep_4 : decode cX0_keep 4 = .ok (.ifCond .lt 15, 3) := by decide +kernel
theorem dX0_keep_7 : decode cX0_keep 7 = .ok (.aload_n 0, 1) := by decide +kernel
theorem dX0_keep_8 : decode cX0_keep 8 = .ok (.getfield 17, 3) := by decide +kernel
theorem dX0_keep_11 : decode cX0_keep 11 = .ok (.aload_n 0, 1) := by decide +kernel
theorem dX0_keep_12 : decode cX0_keep 12 = .ok (.getfield 11, 3) := by decide +kernel
theorem dX0_keep_15 : decode cX0_keep 15 = .ok (.arraylength, 1) := by decide +kernel
theorem dX0_keep_16 : decode cX0_keep 16 = .ok (.if_icmp .lt 4, 3) := by decide +kernel
theorem dX0_keep_19 : decode cX0_keep 19 = .ok (.return_, 1) := by decide +kernel
theorem dX0_keep_20 : decode cX0_keep 20 = .ok (.aload_n 0, 1) := by decide +kernel
theorem dX0_keep_21 : decode cX0_keep 21 = .ok (.getfield 11, 3) := by decide +kernel
theorem dX0_keep_24 : decode cX0_keep 24 = .ok (.aload_n 0, 1) := by decide +kernel
theorem dX0_keep_25 : decode cX0_keep 25 = .ok (.getfield 17, 3) := by decide +kernel
theorem dX0_keep_28 : decode cX0_keep 28 = .ok (.aaload, 1) := by decide +kernel
theorem dX0_keep_29 : decode cX0_keep 29 = .ok (.ifnonnull 19, 3) := by decide +kernel
theorem dX0_keep_32 : decode cX0_keep 32 = .ok (.aload_n 0, 1) := by decide +kernel
theorem dX0_keep_33 : decode cX0_keep 33 = .ok (.getfield 11, 3) := by decide +kernel
theorem dX0_keep_36 : decode cX0_keep 36 = .ok (.aload_n 0, 1) := by decide +kernel
theorem dX0_keep_37 : decode cX0_keep 37 = .ok (.getfield 17, 3) := by decide +kernel
theorem dX0_keep_40 : decode cX0_keep 40 = .ok (.new 9, 3) := by decide +kernel
theorem dX0_keep_43 : decode cX0_keep 43 = .ok (.dup, 1) := by decide +kernel
theorem dX0_keep_44 : decode cX0_keep 44 = .ok (.invokespecial 21, 3) := by decide +kernel
theorem dX0_keep_47 : decode cX0_keep 47 = .ok (.aastore, 1) := by decide +kernel
theorem dX0_keep_48 : decode cX0_keep 48 = .ok (.aload_n 0, 1) := by decide +kernel
theorem dX0_keep_49 : decode cX0_keep 49 = .ok (.getfield 11, 3) := by decide +kernel
theorem dX0_keep_52 : decode cX0_keep 52 = .ok (.aload_n 0, 1) := by decide +kernel
theorem dX0_keep_53 : decode cX0_keep 53 = .ok (.getfield 17, 3) := by decide +kernel
theorem dX0_keep_56 : decode cX0_keep 56 = .ok (.aaload, 1) := by decide +kernel
theorem dX0_keep_57 : decode cX0_keep 57 = .ok (.astore_n 2, 1) := by decide +kernel
theorem dX0_keep_58 : decode cX0_keep 58 = .ok (.aload_n 2, 1) := by decide +kernel
theorem dX0_keep_59 : decode cX0_keep 59 = .ok (.aload_n 1, 1) := by decide +kernel
theorem dX0_keep_60 : decode cX0_keep 60 = .ok (.invokevirtual 22, 3) := by decide +kernel
theorem dX0_keep_63 : decode cX0_keep 63 = .ok (.return_, 1) := by decide +kernel
theorem dX0_confirm_0 : decode cX0_confirm 0 = .ok (.iload_n 1, 1) := by decide +kernel
theorem dX0_confirm_1 : decode cX0_confirm 1 = .ok (.ifCond .lt 29, 3) := by decide +kernel
theorem dX0_confirm_4 : decode cX0_confirm 4 = .ok (.aload_n 0, 1) := by decide +kernel
theorem dX0_confirm_5 : decode cX0_confirm 5 = .ok (.getfield 17, 3) := by decide +kernel
theorem dX0_confirm_8 : decode cX0_confirm 8 = .ok (.bipush 6, 2) := by decide +kernel
theorem dX0_confirm_10 : decode cX0_confirm 10 = .ok (.if_icmp .ge 16, 3) := by decide +kernel
theorem dX0_confirm_13 : decode cX0_confirm 13 = .ok (.aload_n 0, 1) := by decide +kernel
theorem dX0_confirm_14 : decode cX0_confirm 14 = .ok (.dup, 1) := by decide +kernel
theorem dX0_confirm_15 : decode cX0_confirm 15 = .ok (.getfield 17, 3) := by decide +kernel
theorem dX0_confirm_18 : decode cX0_confirm 18 = .ok (.iconst 1, 1) := by decide +kernel
theorem dX0_confirm_19 : decode cX0_confirm 19 = .ok (.iadd, 1) := by decide +kernel
theorem dX0_confirm_20 : decode cX0_confirm 20 = .ok (.putfield 17, 3) := by decide +kernel
theorem dX0_confirm_23 : decode cX0_confirm 23 = .ok (.goto 7, 3) := by decide +kernel
theorem dX0_confirm_26 : decode cX0_confirm 26 = .ok (.aload_n 0, 1) := by decide +kernel
theorem dX0_confirm_27 : decode cX0_confirm 27 = .ok (.invokevirtual 26, 3) := by decide +kernel
theorem dX0_confirm_30 : decode cX0_confirm 30 = .ok (.iload_n 1, 1) := by decide +kernel
theorem dX0_confirm_31 : decode cX0_confirm 31 = .ok (.ireturn, 1) := by decide +kernel
theorem dX0_forgetOldest_0 : decode cX0_forgetOldest 0 = .ok (.aload_n 0, 1) := by decide +kernel
theorem dX0_forgetOldest_1 : decode cX0_forgetOldest 1 = .ok (.getfield 11, 3) := by decide +kernel
theorem dX0_forgetOldest_4 : decode cX0_forgetOldest 4 = .ok (.iconst 0, 1) := by decide +kernel
theorem dX0_forgetOldest_5 : decode cX0_forgetOldest 5 = .ok (.aaload, 1) := by decide +kernel
theorem dX0_forgetOldest_6 : decode cX0_forgetOldest 6 = .ok (.astore_n 1, 1) := by decide +kernel
theorem dX0_forgetOldest_7 : decode cX0_forgetOldest 7 = .ok (.iconst 0, 1) := by decide +kernel
theorem dX0_forgetOldest_8 : decode cX0_forgetOldest 8 = .ok (.istore_n 2, 1) := by decide +kernel
theorem dX0_forgetOldest_9 : decode cX0_forgetOldest 9 = .ok (.iload_n 2, 1) := by decide +kernel
theorem dX0_forgetOldest_10 : decode cX0_forgetOldest 10 = .ok (.bipush 6, 2) := by decide +kernel
theorem dX0_forgetOldest_12 : decode cX0_forgetOldest 12 = .ok (.if_icmp .ge 23, 3) := by decide +kernel
theorem dX0_forgetOldest_15 : decode cX0_forgetOldest 15 = .ok (.aload_n 0, 1) := by decide +kernel
theorem dX0_forgetOldest_16 : decode cX0_forgetOldest 16 = .ok (.getfield 11, 3) := by decide +kernel
theorem dX0_forgetOldest_19 : decode cX0_forgetOldest 19 = .ok (.iload_n 2, 1) := by decide +kernel
theorem dX0_forgetOldest_20 : decode cX0_forgetOldest 20 = .ok (.aload_n 0, 1) := by decide +kernel
theorem dX0_forgetOldest_21 : decode cX0_forgetOldest 21 = .ok (.getfield 11, 3) := by decide +kernel
theorem dX0_forgetOldest_24 : decode cX0_forgetOldest 24 = .ok (.iload_n 2, 1) := by decide +kernel
theorem dX0_forgetOldest_25 : decode cX0_forgetOldest 25 = .ok (.iconst 1, 1) := by decide +kernel
theorem dX0_forgetOldest_26 : decode cX0_forgetOldest 26 = .ok (.iadd, 1) := by decide +kernel
theorem dX0_forgetOldest_27 : decode cX0_forgetOldest 27 = .ok (.aaload, 1) := by decide +kernel
theorem dX0_forgetOldest_28 : decode cX0_forgetOldest 28 = .ok (.aastore, 1) := by decide +kernel
theorem dX0_forgetOldest_29 : decode cX0_forgetOldest 29 = .ok (.iinc 2 1, 3) := by decide +kernel
theorem dX0_forgetOldest_32 : decode cX0_forgetOldest 32 = .ok (.goto (-23), 3) := by decide +kernel
theorem dX0_forgetOldest_35 : decode cX0_forgetOldest 35 = .ok (.aload_n 0, 1) := by decide +kernel
theorem dX0_forgetOldest_36 : decode cX0_forgetOldest 36 = .ok (.getfield 11, 3) := by decide +kernel
theorem dX0_forgetOldest_39 : decode cX0_forgetOldest 39 = .ok (.bipush 6, 2) := by decide +kernel
theorem dX0_forgetOldest_41 : decode cX0_forgetOldest 41 = .ok (.aload_n 1, 1) := by decide +kernel
theorem dX0_forgetOldest_42 : decode cX0_forgetOldest 42 = .ok (.aastore, 1) := by decide +kernel
theorem dX0_forgetOldest_43 : decode cX0_forgetOldest 43 = .ok (.return_, 1) := by decide +kernel
theorem dX0_goBack_0 : decode cX0_goBack 0 = .ok (.aload_n 0, 1) := by decide +kernel
theorem dX0_goBack_1 : decode cX0_goBack 1 = .ok (.getfield 17, 3) := by decide +kernel
theorem dX0_goBack_4 : decode cX0_goBack 4 = .ok (.iconst 1, 1) := by decide +kernel
theorem dX0_goBack_5 : decode cX0_goBack 5 = .ok (.isub, 1) := by decide +kernel
theorem dX0_goBack_6 : decode cX0_goBack 6 = .ok (.istore_n 2, 1) := by decide +kernel
theorem dX0_goBack_7 : decode cX0_goBack 7 = .ok (.iload_n 2, 1) := by decide +kernel
theorem dX0_goBack_8 : decode cX0_goBack 8 = .ok (.ifCond .lt 12, 3) := by decide +kernel
theorem dX0_goBack_11 : decode cX0_goBack 11 = .ok (.iload_n 2, 1) := by decide +kernel
theorem dX0_goBack_12 : decode cX0_goBack 12 = .ok (.aload_n 0, 1) := by decide +kernel
theorem dX0_goBack_13 : decode cX0_goBack 13 = .ok (.getfield 11, 3) := by decide +kernel
theorem dX0_goBack_16 : decode cX0_goBack 16 = .ok (.arraylength, 1) := by decide +kernel
theorem dX0_goBack_17 : decode cX0_goBack 17 = .ok (.if_icmp .lt 5, 3) := by decide +kernel
theorem dX0_goBack_20 : decode cX0_goBack 20 = .ok (.iconst 0, 1) := by decide +kernel
theorem dX0_goBack_21 : decode cX0_goBack 21 = .ok (.ireturn, 1) := by decide +kernel
theorem dX0_goBack_22 : decode cX0_goBack 22 = .ok (.aload_n 0, 1) := by decide +kernel
theorem dX0_goBack_23 : decode cX0_goBack 23 = .ok (.getfield 11, 3) := by decide +kernel
theorem dX0_goBack_26 : decode cX0_goBack 26 = .ok (.iload_n 2, 1) := by decide +kernel
theorem dX0_goBack_27 : decode cX0_goBack 27 = .ok (.aaload, 1) := by decide +kernel
theorem dX0_goBack_28 : decode cX0_goBack 28 = .ok (.astore_n 3, 1) := by decide +kernel
theorem dX0_goBack_29 : decode cX0_goBack 29 = .ok (.aload_n 3, 1) := by decide +kernel
theorem dX0_goBack_30 : decode cX0_goBack 30 = .ok (.ifnonnull 5, 3) := by decide +kernel
theorem dX0_goBack_33 : decode cX0_goBack 33 = .ok (.iconst 0, 1) := by decide +kernel
theorem dX0_goBack_34 : decode cX0_goBack 34 = .ok (.ireturn, 1) := by decide +kernel
theorem dX0_goBack_35 : decode cX0_goBack 35 = .ok (.aload_n 1, 1) := by decide +kernel
theorem dX0_goBack_36 : decode cX0_goBack 36 = .ok (.aload_n 3, 1) := by decide +kernel
theorem dX0_goBack_37 : decode cX0_goBack 37 = .ok (.invokevirtual 22, 3) := by decide +kernel
theorem dX0_goBack_40 : decode cX0_goBack 40 = .ok (.aload_n 0, 1) := by decide +kernel
theorem dX0_goBack_41 : decode cX0_goBack 41 = .ok (.iload_n 2, 1) := by decide +kernel
theorem dX0_goBack_42 : decode cX0_goBack 42 = .ok (.putfield 17, 3) := by decide +kernel
theorem dX0_goBack_45 : decode cX0_goBack 45 = .ok (.iconst 1, 1) := by decide +kernel
theorem dX0_goBack_46 : decode cX0_goBack 46 = .ok (.ireturn, 1) := by decide +kernel
set_option maxRecDepth 20000 in
theorem ggX1_init_X6_init : GoodIn wsX1_init wsX6_init := goodIn_r _ [13, 14, 2, 3, 15, 16, 17, 18] (by decide +kernel) (by decide +kernel)
set_option maxRecDepth 20000 in
theorem gX1_init_X6_init : GoodIn wsX1_init (wsX6_init) := ggX1_init_X6_init
set_option maxRecDepth 20000 in
theorem ggX1_layOut_X1_empty : GoodIn wsX1_layOut wsX1_empty := goodIn_r _ [12, 2, 4, 5, 13, 14, 15, 16, 17, 18, 19, 20, 21, 22, 23, 24, 25, 26, 27, 81, 82, 83, 84, 85, 86, 87, 92, 93] (by decide +kernel) (by decide +kernel)
set_option maxRecDepth 20000 in
theorem gX1_layOut_X1_empty : GoodIn wsX1_layOut (wsV RX1 29 RX1 yX1_empty wsX1_empty) := goodIn_app (goodIn_of _ (by decide +kernel)) ggX1_layOut_X1_empty
set_option maxRecDepth 20000 in
theorem ggX1_layOut_X4_piecesOf : GoodIn wsX1_layOut wsX4_piecesOf := goodIn_r _ [32, 33, 34, 35, 36, 37, 38, 39, 40, 41, 42, 43, 44, 45, 46, 47, 20, 48, 22, 27, 49, 50, 51, 75, 76, 77, 78, 79, 80, 88, 89, 90, 91, 92, 93] (by decide +kernel) (by decide +kernel)
set_option maxRecDepth 20000 in
theorem gX1_layOut_X4_piecesOf : GoodIn wsX1_layOut (wsV RX1 38 RX4 yX4_piecesOf wsX4_piecesOf) := goodIn_app (goodIn_of _ (by decide +kernel)) ggX1_layOut_X4_piecesOf
set_option maxRecDepth 20000 in
theorem ggX1_layOut_X6_add : GoodIn wsX1_layOut wsX6_add := goodIn_r _ [26, 22, 27, 92, 93] (by decide +kernel) (by decide +kernel)
set_option maxRecDepth 20000 in
theorem gX1_layOut_X6_add : GoodIn wsX1_layOut (wsV RX1 47 RX6 yX6_add wsX6_add) := goodIn_app (goodIn_of _ (by decide +kernel)) ggX1_layOut_X6_add
set_option maxRecDepth 20000 in
theorem ggX1_layOut_X6_item : GoodIn wsX1_layOut wsX6_item := goodIn_r _ [48, 22, 27, 92, 93] (by decide +kernel) (by decide +kernel)
set_option maxRecDepth 20000 in
theorem gX1_layOut_X6_item : GoodIn wsX1_layOut (wsV RX1 56 RX6 yX6_item wsX6_item) := goodIn_app (goodIn_of _ (by decide +kernel)) ggX1_layOut_X6_item
set_option maxRecDepth 20000 in
theorem ggX1_layOut_X4_lineOf : GoodIn wsX1_layOut wsX4_lineOf := goodIn_r _ [56, 57, 58, 46, 47, 20, 48, 22, 27, 75, 76, 77, 78, 79, 80, 92, 93] (by decide +kernel) (by decide +kernel)
set_option maxRecDepth 20000 in
theorem gX1_layOut_X4_lineOf : GoodIn wsX1_layOut (wsV RX1 60 RX4 yX4_lineOf wsX4_lineOf) := goodIn_app (goodIn_of _ (by decide +kernel)) ggX1_layOut_X4_lineOf
set_option maxRecDepth 20000 in
theorem ggX1_layOut_X1_print : GoodIn wsX1_layOut wsX1_print := goodIn_r _ [62, 13, 4, 5, 14, 63, 64, 65, 66, 15, 16, 52, 46, 47, 20, 48, 22, 27, 67, 68, 69, 70, 71, 72, 73, 74, 81, 82, 83, 84, 85, 86, 87, 92, 93] (by decide +kernel) (by decide +kernel)
set_option maxRecDepth 20000 in
theorem gX1_layOut_X1_print : GoodIn wsX1_layOut (wsV RX1 63 RX1 yX1_print wsX1_print) := goodIn_app (goodIn_of _ (by decide +kernel)) ggX1_layOut_X1_print
set_option maxRecDepth 20000 in
theorem ggX1_empty_X6_clear : GoodIn wsX1_empty wsX6_clear := goodIn_r _ [12, 13, 26, 27] (by decide +kernel) (by decide +kernel)
set_option maxRecDepth 20000 in
theorem gX1_empty_X6_clear : GoodIn wsX1_empty (wsV RX1 67 RX6 yX6_clear wsX6_clear) := goodIn_app (goodIn_of _ (by decide +kernel)) ggX1_empty_X6_clear
set_option maxRecDepth 20000 in
theorem ggX1_empty_X6_add : GoodIn wsX1_empty wsX6_add := goodIn_r _ [17, 13, 18, 26, 27] (by decide +kernel) (by decide +kernel)
set_option maxRecDepth 20000 in
theorem gX1_empty_X6_add : GoodIn wsX1_empty (wsV RX1 47 RX6 yX6_add wsX6_add) := goodIn_app (goodIn_of _ (by decide +kernel)) ggX1_empty_X6_add
set_option maxRecDepth 20000 in
theorem ggX1_print_X6_item : GoodIn wsX1_print wsX6_item := goodIn_r _ [15, 16, 17, 33, 34] (by decide +kernel) (by decide +kernel)
set_option maxRecDepth 20000 in
theorem gX1_print_X6_item : GoodIn wsX1_print (wsV RX1 56 RX6 yX6_item wsX6_item) := goodIn_app (goodIn_of _ (by decide +kernel)) ggX1_print_X6_item
set_option maxRecDepth 20000 in
theorem ggX1_print_X6_replace : GoodIn wsX1_print wsX6_replace := goodIn_r _ [21, 17, 22, 23, 24, 14, 25, 16, 33, 34] (by decide +kernel) (by decide +kernel)
set_option maxRecDepth 20000 in
theorem gX1_print_X6_replace : GoodIn wsX1_print (wsV RX1 79 RX6 yX6_replace wsX6_replace) := goodIn_app (goodIn_of _ (by decide +kernel)) ggX1_print_X6_replace
theorem dX1_init_0 : decode cX1_init 0 = .ok (.aload_n 0, 1) := by decide +kernel
theorem dX1_init_1 : decode cX1_init 1 = .ok (.invokespecial 3, 3) := by decide +kernel
theorem dX1_init_4 : decode cX1_init 4 = .ok (.aload_n 0, 1) := by decide +kernel
theorem dX1_init_5 : decode cX1_init 5 = .ok (.new 9, 3) := by decide +kernel
theorem dX1_init_8 : decode cX1_init 8 = .ok (.dup, 1) := by decide +kernel
theorem dX1_init_9 : decode cX1_init 9 = .ok (.bipush 16, 2) := by decide +kernel
theorem dX1_init_11 : decode cX1_init 11 = .ok (.invokespecial 11, 3) := by decide +kernel
theorem dX1_init_14 : decode cX1_init 14 = .ok (.putfield 14, 3) := by decide +kernel
theorem dX1_init_17 : decode cX1_init 17 = .ok (.aload_n 0, 1) := by decide +kernel
theorem dX1_init_18 : decode cX1_init 18 = .ok (.new 9, 3) := by decide +kernel
theorem dX1_init_21 : decode cX1_init 21 = .ok (.dup, 1) := by decide +kernel
theorem dX1_init_22 : decode cX1_init 22 = .ok (.bipush 16, 2) := by decide +kernel
theorem dX1_init_24 : decode cX1_init 24 = .ok (.invokespecial 11, 3) := by decide +kernel
theorem dX1_init_27 : decode cX1_init 27 = .ok (.putfield 20, 3) := by decide +kernel
theorem dX1_init_30 : decode cX1_init 30 = .ok (.aload_n 0, 1) := by decide +kernel
theorem dX1_init_31 : decode cX1_init 31 = .ok (.new 9, 3) := by decide +kernel
theorem dX1_init_34 : decode cX1_init 34 = .ok (.dup, 1) := by decide +kernel
theorem dX1_init_35 : decode cX1_init 35 = .ok (.bipush 16, 2) := by decide +kernel
theorem dX1_init_37 : decode cX1_init 37 = .ok (.invokespecial 11, 3) := by decide +kernel
theorem dX1_init_40 : decode cX1_init 40 = .ok (.putfield 23, 3) := by decide +kernel
theorem dX1_init_43 : decode cX1_init 43 = .ok (.aload_n 0, 1) := by decide +kernel
theorem dX1_init_44 : decode cX1_init 44 = .ok (.new 9, 3) := by decide +kernel
theorem dX1_init_47 : decode cX1_init 47 = .ok (.dup, 1) := by decide +kernel
theorem dX1_init_48 : decode cX1_init 48 = .ok (.bipush 76, 2) := by decide +kernel
theorem dX1_init_50 : decode cX1_init 50 = .ok (.invokespecial 11, 3) := by decide +kernel
theorem dX1_init_53 : decode cX1_init 53 = .ok (.putfield 26, 3) := by decide +kernel
theorem dX1_init_56 : decode cX1_init 56 = .ok (.return_, 1) := by decide +kernel
theorem dX1_layOut_0 : decode cX1_layOut 0 = .ok (.aload_n 0, 1) := by decide +kernel
theorem dX1_layOut_1 : decode cX1_layOut 1 = .ok (.invokevirtual 29, 3) := by decide +kernel
theorem dX1_layOut_4 : decode cX1_layOut 4 = .ok (.iconst 0, 1) := by decide +kernel
theorem dX1_layOut_5 : decode cX1_layOut 5 = .ok (.istore_n 3, 1) := by decide +kernel
theorem dX1_layOut_6 : decode cX1_layOut 6 = .ok (.iload_n 3, 1) := by decide +kernel
theorem dX1_layOut_7 : decode cX1_layOut 7 = .ok (.aload_n 1, 1) := by decide +kernel
theorem dX1_layOut_8 : decode cX1_layOut 8 = .ok (.getfield 32, 3) := by decide +kernel
theorem dX1_layOut_11 : decode cX1_layOut 11 = .ok (.if_icmp .ge 42, 3) := by decide +kernel
theorem dX1_layOut_14 : decode cX1_layOut 14 = .ok (.aload_n 0, 1) := by decide +kernel
theorem dX1_layOut_15 : decode cX1_layOut 15 = .ok (.getfield 23, 3) := by decide +kernel
theorem dX1_layOut_18 : decode cX1_layOut 18 = .ok (.aload_n 1, 1) := by decide +kernel
theorem dX1_layOut_19 : decode cX1_layOut 19 = .ok (.iload_n 3, 1) := by decide +kernel
theorem dX1_layOut_20 : decode cX1_layOut 20 = .ok (.invokevirtual 38, 3) := by decide +kernel
theorem dX1_layOut_23 : decode cX1_layOut 23 = .ok (.getfield 42, 3) := by decide +kernel
theorem dX1_layOut_26 : decode cX1_layOut 26 = .ok (.invokevirtual 47, 3) := by decide +kernel
theorem dX1_layOut_29 : decode cX1_layOut 29 = .ok (.aload_n 0, 1) := by decide +kernel
theorem dX1_layOut_30 : decode cX1_layOut 30 = .ok (.getfield 14, 3) := by decide +kernel
theorem dX1_layOut_33 : decode cX1_layOut 33 = .ok (.bipush (-6), 2) := by decide +kernel
theorem dX1_layOut_35 : decode cX1_layOut 35 = .ok (.invokevirtual 47, 3) := by decide +kernel
theorem dX1_layOut_38 : decode cX1_layOut 38 = .ok (.aload_n 0, 1) := by decide +kernel
theorem dX1_layOut_39 : decode cX1_layOut 39 = .ok (.getfield 20, 3) := by decide +kernel
theorem dX1_layOut_42 : decode cX1_layOut 42 = .ok (.bipush (-6), 2) := by decide +kernel
theorem dX1_layOut_44 : decode cX1_layOut 44 = .ok (.invokevirtual 47, 3) := by decide +kernel
theorem dX1_layOut_47 : decode cX1_layOut 47 = .ok (.iinc 3 1, 3) := by decide +kernel
theorem dX1_layOut_50 : decode cX1_layOut 50 = .ok (.goto (-44), 3) := by decide +kernel
theorem dX1_layOut_53 : decode cX1_layOut 53 = .ok (.iconst 0, 1) := by decide +kernel
theorem dX1_layOut_54 : decode cX1_layOut 54 = .ok (.istore_n 3, 1) := by decide +kernel
theorem dX1_layOut_55 : decode cX1_layOut 55 = .ok (.iload_n 3, 1) := by decide +kernel
theorem dX1_layOut_56 : decode cX1_layOut 56 = .ok (.aload_n 1, 1) := by decide +kernel
theorem dX1_layOut_57 : decode cX1_layOut 57 = .ok (.getfield 50, 3) := by decide +kernel
theorem dX1_layOut_60 : decode cX1_layOut 60 = .ok (.getfield 53, 3) := by decide +kernel
theorem dX1_layOut_63 : decode cX1_layOut 63 = .ok (.if_icmp .ge 52, 3) := by decide +kernel
theorem dX1_layOut_66 : decode cX1_layOut 66 = .ok (.iconst 0, 1) := by decide +kernel
theorem dX1_layOut_67 : decode cX1_layOut 67 = .ok (.istore 4, 2) := by decide +kernel
theorem dX1_layOut_69 : decode cX1_layOut 69 = .ok (.iload 4, 2) := by decide +kernel
theorem dX1_layOut_71 : decode cX1_layOut 71 = .ok (.aload_n 1, 1) := by decide +kernel
theorem dX1_layOut_72 : decode cX1_layOut 72 = .ok (.getfield 32, 3) := by decide +kernel
theorem dX1_layOut_75 : decode cX1_layOut 75 = .ok (.if_icmp .ge 34, 3) := by decide +kernel
theorem dX1_layOut_78 : decode cX1_layOut 78 = .ok (.aload_n 0, 1) := by decide +kernel
theorem dX1_layOut_79 : decode cX1_layOut 79 = .ok (.getfield 23, 3) := by decide +kernel
theorem dX1_layOut_82 : decode cX1_layOut 82 = .ok (.iload 4, 2) := by decide +kernel
theorem dX1_layOut_84 : decode cX1_layOut 84 = .ok (.invokevirtual 56, 3) := by decide +kernel
theorem dX1_layOut_87 : decode cX1_layOut 87 = .ok (.iload_n 3, 1) := by decide +kernel
theorem dX1_layOut_88 : decode cX1_layOut 88 = .ok (.if_icmp .ne 15, 3) := by decide +kernel
theorem dX1_layOut_91 : decode cX1_layOut 91 = .ok (.aload_n 0, 1) := by decide +kernel
theorem dX1_layOut_92 : decode cX1_layOut 92 = .ok (.iload 4, 2) := by decide +kernel
theorem dX1_layOut_94 : decode cX1_layOut 94 = .ok (.aload_n 1, 1) := by decide +kernel
theorem dX1_layOut_95 : decode cX1_layOut 95 = .ok (.iload_n 3, 1) := by decide +kernel
theorem dX1_layOut_96 : decode cX1_layOut 96 = .ok (.invokevirtual 60, 3) := by decide +kernel
theorem dX1_layOut_99 : decode cX1_layOut 99 = .ok (.iload_n 2, 1) := by decide +kernel
theorem dX1_layOut_100 : decode cX1_layOut 100 = .ok (.invokevirtual 63, 3) := by decide +kernel
theorem dX1_layOut_103 : decode cX1_layOut 103 = .ok (.iinc 4 1, 3) := by decide +kernel
theorem dX1_layOut_106 : decode cX1_layOut 106 = .ok (.goto (-37), 3) := by decide +kernel
theorem dX1_layOut_109 : decode cX1_layOut 109 = .ok (.iinc 3 1, 3) := by decide +kernel
theorem dX1_layOut_112 : decode cX1_layOut 112 = .ok (.goto (-57), 3) := by decide +kernel
theorem dX1_layOut_115 : decode cX1_layOut 115 = .ok (.return_, 1) := by decide +kernel
theorem dX1_empty_0 : decode cX1_empty 0 = .ok (.aload_n 0, 1) := by decide +kernel
theorem dX1_empty_1 : decode cX1_empty 1 = .ok (.getfield 23, 3) := by decide +kernel
theorem dX1_empty_4 : decode cX1_empty 4 = .ok (.invokevirtual 67, 3) := by decide +kernel
theorem dX1_empty_7 : decode cX1_empty 7 = .ok (.aload_n 0, 1) := by decide +kernel
theorem dX1_empty_8 : decode cX1_empty 8 = .ok (.getfield 14, 3) := by decide +kernel
theorem dX1_empty_11 : decode cX1_empty 11 = .ok (.invokevirtual 67, 3) := by decide +kernel
theorem dX1_empty_14 : decode cX1_empty 14 = .ok (.aload_n 0, 1) := by decide +kernel
theorem dX1_empty_15 : decode cX1_empty 15 = .ok (.getfield 20, 3) := by decide +kernel
theorem dX1_empty_18 : decode cX1_empty 18 = .ok (.invokevirtual 67, 3) := by decide +kernel
theorem dX1_empty_21 : decode cX1_empty 21 = .ok (.aload_n 0, 1) := by decide +kernel
theorem dX1_empty_22 : decode cX1_empty 22 = .ok (.getfield 26, 3) := by decide +kernel
theorem dX1_empty_25 : decode cX1_empty 25 = .ok (.invokevirtual 67, 3) := by decide +kernel
theorem dX1_empty_28 : decode cX1_empty 28 = .ok (.iconst 0, 1) := by decide +kernel
theorem dX1_empty_29 : decode cX1_empty 29 = .ok (.istore_n 1, 1) := by decide +kernel
theorem dX1_empty_30 : decode cX1_empty 30 = .ok (.iload_n 1, 1) := by decide +kernel
theorem dX1_empty_31 : decode cX1_empty 31 = .ok (.bipush 76, 2) := by decide +kernel
theorem dX1_empty_33 : decode cX1_empty 33 = .ok (.if_icmp .ge 17, 3) := by decide +kernel
theorem dX1_empty_36 : decode cX1_empty 36 = .ok (.aload_n 0, 1) := by decide +kernel
theorem dX1_empty_37 : decode cX1_empty 37 = .ok (.getfield 26, 3) := by decide +kernel
theorem dX1_empty_40 : decode cX1_empty 40 = .ok (.iconst 0, 1) := by decide +kernel
theorem dX1_empty_41 : decode cX1_empty 41 = .ok (.invokevirtual 47, 3) := by decide +kernel
theorem dX1_empty_44 : decode cX1_empty 44 = .ok (.iinc 1 1, 3) := by decide +kernel
theorem dX1_empty_47 : decode cX1_empty 47 = .ok (.goto (-17), 3) := by decide +kernel
theorem dX1_empty_50 : decode cX1_empty 50 = .ok (.aload_n 0, 1) := by decide +kernel
theorem dX1_empty_51 : decode cX1_empty 51 = .ok (.bipush (-6), 2) := by decide +kernel
theorem dX1_empty_53 : decode cX1_empty 53 = .ok (.putfield 70, 3) := by decide +kernel
theorem dX1_empty_56 : decode cX1_empty 56 = .ok (.aload_n 0, 1) := by decide +kernel
theorem dX1_empty_57 : decode cX1_empty 57 = .ok (.iconst 0, 1) := by decide +kernel
theorem dX1_empty_58 : decode cX1_empty 58 = .ok (.putfield 73, 3) := by decide +kernel
theorem dX1_empty_61 : decode cX1_empty 61 = .ok (.aload_n 0, 1) := by decide +kernel
theorem dX1_empty_62 : decode cX1_empty 62 = .ok (.iconst 0, 1) := by decide +kernel
theorem dX1_empty_63 : decode cX1_empty 63 = .ok (.putfield 76, 3) := by decide +kernel
theorem dX1_empty_66 : decode cX1_empty 66 = .ok (.return_, 1) := by decide +kernel
theorem dX1_print_0 : decode cX1_print 0 = .ok (.iload_n 2, 1) := by decide +kernel
theorem dX1_print_1 : decode cX1_print 1 = .ok (.istore 4, 2) := by decide +kernel
theorem dX1_print_3 : decode cX1_print 3 = .ok (.iload 4, 2) := by decide +kernel
theorem dX1_print_5 : decode cX1_print 5 = .ok (.bipush 75, 2) := by decide +kernel
theorem dX1_print_7 : decode cX1_print 7 = .ok (.if_icmp .ge 22, 3) := by decide +kernel
theorem dX1_print_10 : decode cX1_print 10 = .ok (.aload_n 0, 1) := by decide +kernel
theorem dX1_print_11 : decode cX1_print 11 = .ok (.getfield 26, 3) := by decide +kernel
theorem dX1_print_14 : decode cX1_print 14 = .ok (.iload 4, 2) := by decide +kernel
theorem dX1_print_16 : decode cX1_print 16 = .ok (.invokevirtual 56, 3) := by decide +kernel
theorem dX1_print_19 : decode cX1_print 19 = .ok (.iload_n 3, 1) := by decide +kernel
theorem dX1_print_20 : decode cX1_print 20 = .ok (.if_icmp .lt 9, 3) := by decide +kernel
theorem dX1_print_23 : decode cX1_print 23 = .ok (.iinc 4 1, 3) := by decide +kernel
theorem dX1_print_26 : decode cX1_print 26 = .ok (.goto (-23), 3) := by decide +kernel
theorem dX1_print_29 : decode cX1_print 29 = .ok (.aload_n 0, 1) := by decide +kernel
theorem dX1_print_30 : decode cX1_print 30 = .ok (.getfield 26, 3) := by decide +kernel
theorem dX1_print_33 : decode cX1_print 33 = .ok (.iload 4, 2) := by decide +kernel
theorem dX1_print_35 : decode cX1_print 35 = .ok (.aload_n 0, 1) := by decide +kernel
theorem dX1_print_36 : decode cX1_print 36 = .ok (.getfield 26, 3) := by decide +kernel
theorem dX1_print_39 : decode cX1_print 39 = .ok (.iload 4, 2) := by decide +kernel
theorem dX1_print_41 : decode cX1_print 41 = .ok (.invokevirtual 56, 3) := by decide +kernel
theorem dX1_print_44 : decode cX1_print 44 = .ok (.iconst 1, 1) := by decide +kernel
theorem dX1_print_45 : decode cX1_print 45 = .ok (.iadd, 1) := by decide +kernel
theorem dX1_print_46 : decode cX1_print 46 = .ok (.invokevirtual 79, 3) := by decide +kernel
theorem dX1_print_49 : decode cX1_print 49 = .ok (.aload_n 0, 1) := by decide +kernel
theorem dX1_print_50 : decode cX1_print 50 = .ok (.getfield 14, 3) := by decide +kernel
theorem dX1_print_53 : decode cX1_print 53 = .ok (.iload_n 1, 1) := by decide +kernel
theorem dX1_print_54 : decode cX1_print 54 = .ok (.iload 4, 2) := by decide +kernel
theorem dX1_print_56 : decode cX1_print 56 = .ok (.invokevirtual 79, 3) := by decide +kernel
theorem dX1_print_59 : decode cX1_print 59 = .ok (.aload_n 0, 1) := by decide +kernel
theorem dX1_print_60 : decode cX1_print 60 = .ok (.getfield 20, 3) := by decide +kernel
theorem dX1_print_63 : decode cX1_print 63 = .ok (.iload_n 1, 1) := by decide +kernel
theorem dX1_print_64 : decode cX1_print 64 = .ok (.iload 4, 2) := by decide +kernel
theorem dX1_print_66 : decode cX1_print 66 = .ok (.iload_n 2, 1) := by decide +kernel
theorem dX1_print_67 : decode cX1_print 67 = .ok (.isub, 1) := by decide +kernel
theorem dX1_print_68 : decode cX1_print 68 = .ok (.invokevirtual 79, 3) := by decide +kernel
theorem dX1_print_71 : decode cX1_print 71 = .ok (.aload_n 0, 1) := by decide +kernel
theorem dX1_print_72 : decode cX1_print 72 = .ok (.aload_n 0, 1) := by decide +kernel
theorem dX1_print_73 : decode cX1_print 73 = .ok (.getfield 70, 3) := by decide +kernel
theorem dX1_print_76 : decode cX1_print 76 = .ok (.iload 4, 2) := by decide +kernel
theorem dX1_print_78 : decode cX1_print 78 = .ok (.invokestatic 83, 3) := by decide +kernel
theorem dX1_print_81 : decode cX1_print 81 = .ok (.putfield 70, 3) := by decide +kernel
theorem dX1_print_84 : decode cX1_print 84 = .ok (.aload_n 0, 1) := by decide +kernel
theorem dX1_print_85 : decode cX1_print 85 = .ok (.dup, 1) := by decide +kernel
theorem dX1_print_86 : decode cX1_print 86 = .ok (.getfield 73, 3) := by decide +kernel
theorem dX1_print_89 : decode cX1_print 89 = .ok (.iload 4, 2) := by decide +kernel
theorem dX1_print_91 : decode cX1_print 91 = .ok (.iload_n 2, 1) := by decide +kernel
theorem dX1_print_92 : decode cX1_print 92 = .ok (.isub, 1) := by decide +kernel
theorem dX1_print_93 : decode cX1_print 93 = .ok (.iadd, 1) := by decide +kernel
theorem dX1_print_94 : decode cX1_print 94 = .ok (.putfield 73, 3) := by decide +kernel
theorem dX1_print_97 : decode cX1_print 97 = .ok (.aload_n 0, 1) := by decide +kernel
theorem dX1_print_98 : decode cX1_print 98 = .ok (.aload_n 0, 1) := by decide +kernel
theorem dX1_print_99 : decode cX1_print 99 = .ok (.getfield 76, 3) := by decide +kernel
theorem dX1_print_102 : decode cX1_print 102 = .ok (.iload 4, 2) := by decide +kernel
theorem dX1_print_104 : decode cX1_print 104 = .ok (.iload_n 2, 1) := by decide +kernel
theorem dX1_print_105 : decode cX1_print 105 = .ok (.isub, 1) := by decide +kernel
theorem dX1_print_106 : decode cX1_print 106 = .ok (.invokestatic 83, 3) := by decide +kernel
theorem dX1_print_109 : decode cX1_print 109 = .ok (.putfield 76, 3) := by decide +kernel
theorem dX1_print_112 : decode cX1_print 112 = .ok (.return_, 1) := by decide +kernel
set_option maxRecDepth 20000 in
theorem ggX3_init_X6_init : GoodIn wsX3_init wsX6_init := goodIn_r _ [10, 11, 2, 3, 12, 13, 14, 15] (by decide +kernel) (by decide +kernel)
set_option maxRecDepth 20000 in
theorem gX3_init_X6_init : GoodIn wsX3_init (wsX6_init) := ggX3_init_X6_init
set_option maxRecDepth 20000 in
theorem ggX3_findFault_X3_start : GoodIn wsX3_findFault wsX3_start := goodIn_r _ [7, 1, 48, 49, 50, 51] (by decide +kernel) (by decide +kernel)
set_option maxRecDepth 20000 in
theorem gX3_findFault_X3_start : GoodIn wsX3_findFault (wsV RX3 24 RX3 yX3_start wsX3_start) := goodIn_app (goodIn_of _ (by decide +kernel)) ggX3_findFault_X3_start
set_option maxRecDepth 20000 in
theorem ggX3_findFault_X3_readOrder : GoodIn wsX3_findFault wsX3_readOrder := goodIn_r _ [11, 1, 12, 13, 14, 15, 16, 17, 18, 19, 20, 21, 22, 23, 24, 25, 26, 27, 6, 28, 29, 30, 31, 32, 33, 34, 35, 36, 37, 38, 39, 40, 41, 42, 43, 44, 2, 45, 46, 47, 48, 49, 50, 51, 52, 53] (by decide +kernel) (by decide +kernel)
set_option maxRecDepth 20000 in
theorem gX3_findFault_X3_readOrder : GoodIn wsX3_findFault (wsV RX3 27 RX3 yX3_readOrder wsX3_readOrder) := goodIn_app (goodIn_of _ (by decide +kernel)) ggX3_findFault_X3_readOrder
set_option maxRecDepth 20000 in
theorem ggX3_findFault_X3_skip : GoodIn wsX3_findFault wsX3_skip := goodIn_r _ [39, 1, 14, 15, 16, 17, 18, 19, 20, 48, 49, 50, 51, 52, 53] (by decide +kernel) (by decide +kernel)
set_option maxRecDepth 20000 in
theorem gX3_findFault_X3_skip : GoodIn wsX3_findFault (wsV RX3 34 RX3 yX3_skip wsX3_skip) := goodIn_app (goodIn_of _ (by decide +kernel)) ggX3_findFault_X3_skip
set_option maxRecDepth 20000 in
theorem ggX3_readOrder_X6_item : GoodIn wsX3_readOrder wsX6_item := goodIn_r _ [8, 9, 10, 44, 45] (by decide +kernel) (by decide +kernel)
set_option maxRecDepth 20000 in
theorem gX3_readOrder_X6_item : GoodIn wsX3_readOrder (wsV RX3 38 RX6 yX6_item wsX6_item) := goodIn_app (goodIn_of _ (by decide +kernel)) ggX3_readOrder_X6_item
set_option maxRecDepth 20000 in
theorem ggX3_readOrder_X6_clear : GoodIn wsX3_readOrder wsX6_clear := goodIn_r _ [14, 9, 44, 45] (by decide +kernel) (by decide +kernel)
set_option maxRecDepth 20000 in
theorem gX3_readOrder_X6_clear : GoodIn wsX3_readOrder (wsV RX3 45 RX6 yX6_clear wsX6_clear) := goodIn_app (goodIn_of _ (by decide +kernel)) ggX3_readOrder_X6_clear
set_option maxRecDepth 20000 in
theorem ggX3_readOrder_X3_readNumber : GoodIn wsX3_readOrder wsX3_readNumber := goodIn_r _ [19, 1, 3, 4, 5, 6, 7, 8, 9, 10, 20, 21, 18, 22, 23, 24, 25, 26, 40, 41, 42, 43, 44, 45] (by decide +kernel) (by decide +kernel)
set_option maxRecDepth 20000 in
theorem gX3_readOrder_X3_readNumber : GoodIn wsX3_readOrder (wsV RX3 48 RX3 yX3_readNumber wsX3_readNumber) := goodIn_app (goodIn_of _ (by decide +kernel)) ggX3_readOrder_X3_readNumber
set_option maxRecDepth 20000 in
theorem ggX3_readOrder_X3_skip : GoodIn wsX3_readOrder wsX3_skip := goodIn_r _ [30, 1, 4, 5, 6, 7, 8, 9, 10, 40, 41, 42, 43, 44, 45] (by decide +kernel) (by decide +kernel)
set_option maxRecDepth 20000 in
theorem gX3_readOrder_X3_skip : GoodIn wsX3_readOrder (wsV RX3 34 RX3 yX3_skip wsX3_skip) := goodIn_app (goodIn_of _ (by decide +kernel)) ggX3_readOrder_X3_skip
set_option maxRecDepth 20000 in
theorem ggX3_readOrder_X3_readLetters : GoodIn wsX3_readOrder wsX3_readLetters := goodIn_r _ [34, 1, 35, 36, 4, 5, 6, 7, 8, 9, 10, 37, 38, 18, 39, 40, 41, 42, 43, 44, 45] (by decide +kernel) (by decide +kernel)
set_option maxRecDepth 20000 in
theorem gX3_readOrder_X3_readLetters : GoodIn wsX3_readOrder (wsV RX3 51 RX3 yX3_readLetters wsX3_readLetters) := goodIn_app (goodIn_of _ (by decide +kernel)) ggX3_readOrder_X3_readLetters
set_option maxRecDepth 20000 in
theorem ggX3_skip_X6_item : GoodIn wsX3_skip wsX6_item := goodIn_r _ [6, 7, 8, 13, 14] (by decide +kernel) (by decide +kernel)
set_option maxRecDepth 20000 in
theorem gX3_skip_X6_item : GoodIn wsX3_skip (wsV RX3 38 RX6 yX6_item wsX6_item) := goodIn_app (goodIn_of _ (by decide +kernel)) ggX3_skip_X6_item
set_option maxRecDepth 20000 in
theorem ggX3_readNumber_X6_item : GoodIn wsX3_readNumber wsX6_item := goodIn_r _ [7, 8, 9, 22, 23] (by decide +kernel) (by decide +kernel)
set_option maxRecDepth 20000 in
theorem gX3_readNumber_X6_item : GoodIn wsX3_readNumber (wsV RX3 38 RX6 yX6_item wsX6_item) := goodIn_app (goodIn_of _ (by decide +kernel)) ggX3_readNumber_X6_item
set_option maxRecDepth 20000 in
theorem ggX3_readNumber_X3_isDigit : GoodIn wsX3_readNumber wsX3_isDigit := goodIn_r _ [13] (by decide +kernel) (by decide +kernel)
set_option maxRecDepth 20000 in
theorem gX3_readNumber_X3_isDigit : GoodIn wsX3_readNumber (va_wsS RX3 54 yX3_isDigit wsX3_isDigit) := goodIn_app (goodIn_of _ (by decide +kernel)) ggX3_readNumber_X3_isDigit
set_option maxRecDepth 20000 in
theorem ggX3_readNumber_X6_add : GoodIn wsX3_readNumber wsX6_add := goodIn_r _ [17, 8, 9, 22, 23] (by decide +kernel) (by decide +kernel)
set_option maxRecDepth 20000 in
theorem gX3_readNumber_X6_add : GoodIn wsX3_readNumber (wsV RX3 58 RX6 yX6_add wsX6_add) := goodIn_app (goodIn_of _ (by decide +kernel)) ggX3_readNumber_X6_add
set_option maxRecDepth 20000 in
theorem ggX3_readLetters_X6_item : GoodIn wsX3_readLetters wsX6_item := goodIn_r _ [8, 9, 10, 19, 20] (by decide +kernel) (by decide +kernel)
set_option maxRecDepth 20000 in
theorem gX3_readLetters_X6_item : GoodIn wsX3_readLetters (wsV RX3 38 RX6 yX6_item wsX6_item) := goodIn_app (goodIn_of _ (by decide +kernel)) ggX3_readLetters_X6_item
set_option maxRecDepth 20000 in
theorem ggX3_readLetters_X3_isLetter : GoodIn wsX3_readLetters wsX3_isLetter := goodIn_r _ [14] (by decide +kernel) (by decide +kernel)
set_option maxRecDepth 20000 in
theorem gX3_readLetters_X3_isLetter : GoodIn wsX3_readLetters (va_wsS RX3 64 yX3_isLetter wsX3_isLetter) := goodIn_app (goodIn_of _ (by decide +kernel)) ggX3_readLetters_X3_isLetter
theorem dX3_init_0 : decode cX3_init 0 = .ok (.aload_n 0, 1) := by decide +kernel
theorem dX3_init_1 : decode cX3_init 1 = .ok (.invokespecial 3, 3) := by decide +kernel
theorem dX3_init_4 : decode cX3_init 4 = .ok (.aload_n 0, 1) := by decide +kernel
theorem dX3_init_5 : decode cX3_init 5 = .ok (.new 9, 3) := by decide +kernel
theorem dX3_init_8 : decode cX3_init 8 = .ok (.dup, 1) := by decide +kernel
theorem dX3_init_9 : decode cX3_init 9 = .ok (.iconst 3, 1) := by decide +kernel
theorem dX3_init_10 : decode cX3_init 10 = .ok (.invokespecial 11, 3) := by decide +kernel
theorem dX3_init_13 : decode cX3_init 13 = .ok (.putfield 14, 3) := by decide +kernel
theorem dX3_init_16 : decode cX3_init 16 = .ok (.return_, 1) := by decide +kernel
theorem dX3_start_0 : decode cX3_start 0 = .ok (.aload_n 0, 1) := by decide +kernel
theorem dX3_start_1 : decode cX3_start 1 = .ok (.iconst 0, 1) := by decide +kernel
theorem dX3_start_2 : decode cX3_start 2 = .ok (.putfield 20, 3) := by decide +kernel
theorem dX3_start_5 : decode cX3_start 5 = .ok (.return_, 1) := by decide +kernel
theorem dX3_findFault_0 : decode cX3_findFault 0 = .ok (.aload_n 0, 1) := by decide +kernel
theorem dX3_findFault_1 : decode cX3_findFault 1 = .ok (.invokevirtual 24, 3) := by decide +kernel
theorem dX3_findFault_4 : decode cX3_findFault 4 = .ok (.iconst 0, 1) := by decide +kernel
theorem dX3_findFault_5 : decode cX3_findFault 5 = .ok (.istore_n 2, 1) := by decide +kernel
theorem dX3_findFault_6 : decode cX3_findFault 6 = .ok (.iload_n 2, 1) := by decide +kernel
theorem dX3_findFault_7 : decode cX3_findFault 7 = .ok (.bipush 80, 2) := by decide +kernel
theorem dX3_findFault_9 : decode cX3_findFault 9 = .ok (.if_icmp .ge 51, 3) := by decide +kernel
theorem dX3_findFault_12 : decode cX3_findFault 12 = .ok (.aload_n 0, 1) := by decide +kernel
theorem dX3_findFault_13 : decode cX3_findFault 13 = .ok (.aload_n 1, 1) := by decide +kernel
theorem dX3_findFault_14 : decode cX3_findFault 14 = .ok (.invokevirtual 27, 3) := by decide +kernel
theorem dX3_findFault_17 : decode cX3_findFault 17 = .ok (.ifCond .ne 8, 3) := by decide +kernel
theorem dX3_findFault_20 : decode cX3_findFault 20 = .ok (.aload_n 0, 1) := by decide +kernel
theorem dX3_findFault_21 : decode cX3_findFault 21 = .ok (.getfield 20, 3) := by decide +kernel
theorem dX3_findFault_24 : decode cX3_findFault 24 = .ok (.ireturn, 1) := by decide +kernel
theorem dX3_findFault_25 : decode cX3_findFault 25 = .ok (.aload_n 0, 1) := by decide +kernel
theorem dX3_findFault_26 : decode cX3_findFault 26 = .ok (.getfield 20, 3) := by decide +kernel
theorem dX3_findFault_29 : decode cX3_findFault 29 = .ok (.aload_n 1, 1) := by decide +kernel
theorem dX3_findFault_30 : decode cX3_findFault 30 = .ok (.getfield 31, 3) := by decide +kernel
theorem dX3_findFault_33 : decode cX3_findFault 33 = .ok (.if_icmp .lt 6, 3) := by decide +kernel
theorem dX3_findFault_36 : decode cX3_findFault 36 = .ok (.bipush (-6), 2) := by decide +kernel
theorem dX3_findFault_38 : decode cX3_findFault 38 = .ok (.ireturn, 1) := by decide +kernel
theorem dX3_findFault_39 : decode cX3_findFault 39 = .ok (.aload_n 0, 1) := by decide +kernel
theorem dX3_findFault_40 : decode cX3_findFault 40 = .ok (.aload_n 1, 1) := by decide +kernel
theorem dX3_findFault_41 : decode cX3_findFault 41 = .ok (.bipush 59, 2) := by decide +kernel
theorem dX3_findFault_43 : decode cX3_findFault 43 = .ok (.invokevirtual 34, 3) := by decide +kernel
theorem dX3_findFault_46 : decode cX3_findFault 46 = .ok (.ifCond .ne 8, 3) := by decide +kernel
theorem dX3_findFault_49 : decode cX3_findFault 49 = .ok (.aload_n 0, 1) := by decide +kernel
theorem dX3_findFault_50 : decode cX3_findFault 50 = .ok (.getfield 20, 3) := by decide +kernel
theorem dX3_findFault_53 : decode cX3_findFault 53 = .ok (.ireturn, 1) := by decide +kernel
theorem dX3_findFault_54 : decode cX3_findFault 54 = .ok (.iinc 2 1, 3) := by decide +kernel
theorem dX3_findFault_57 : decode cX3_findFault 57 = .ok (.goto (-51), 3) := by decide +kernel
theorem dX3_findFault_60 : decode cX3_findFault 60 = .ok (.aload_n 0, 1) := by decide +kernel
theorem dX3_findFault_61 : decode cX3_findFault 61 = .ok (.getfield 20, 3) := by decide +kernel
theorem dX3_findFault_64 : decode cX3_findFault 64 = .ok (.ireturn, 1) := by decide +kernel
theorem dX3_readOrder_0 : decode cX3_readOrder 0 = .ok (.aload_n 0, 1) := by decide +kernel
theorem dX3_readOrder_1 : decode cX3_readOrder 1 = .ok (.aload_n 1, 1) := by decide +kernel
theorem dX3_readOrder_2 : decode cX3_readOrder 2 = .ok (.aload_n 0, 1) := by decide +kernel
theorem dX3_readOrder_3 : decode cX3_readOrder 3 = .ok (.getfield 20, 3) := by decide +kernel
theorem dX3_readOrder_6 : decode cX3_readOrder 6 = .ok (.invokevirtual 38, 3) := by decide +kernel
theorem dX3_readOrder_9 : decode cX3_readOrder 9 = .ok (.putfield 42, 3) := by decide +kernel
theorem dX3_readOrder_12 : decode cX3_readOrder 12 = .ok (.aload_n 0, 1) := by decide +kernel
theorem dX3_readOrder_13 : decode cX3_readOrder 13 = .ok (.getfield 14, 3) := by decide +kernel
theorem dX3_readOrder_16 : decode cX3_readOrder 16 = .ok (.invokevirtual 45, 3) := by decide +kernel
theorem dX3_readOrder_19 : decode cX3_readOrder 19 = .ok (.aload_n 0, 1) := by decide +kernel
theorem dX3_readOrder_20 : decode cX3_readOrder 20 = .ok (.getfield 42, 3) := by decide +kernel
theorem dX3_readOrder_23 : decode cX3_readOrder 23 = .ok (.lookupswitch 225 #[(43, 65), (45, 107), (99, 209), (109, 149), (110, 107), (114, 209), (120, 209)], 65) := by decide +kernel
theorem dX3_readOrder_88 : decode cX3_readOrder 88 = .ok (.aload_n 0, 1) := by decide +kernel
theorem dX3_readOrder_89 : decode cX3_readOrder 89 = .ok (.dup, 1) := by decide +kernel
theorem dX3_readOrder_90 : decode cX3_readOrder 90 = .ok (.getfield 20, 3) := by decide +kernel
theorem dX3_readOrder_93 : decode cX3_readOrder 93 = .ok (.iconst 1, 1) := by decide +kernel
theorem dX3_readOrder_94 : decode cX3_readOrder 94 = .ok (.iadd, 1) := by decide +kernel
theorem dX3_readOrder_95 : decode cX3_readOrder 95 = .ok (.putfield 20, 3) := by decide +kernel
theorem dX3_readOrder_98 : decode cX3_readOrder 98 = .ok (.aload_n 0, 1) := by decide +kernel
theorem dX3_readOrder_99 : decode cX3_readOrder 99 = .ok (.aload_n 1, 1) := by decide +kernel
theorem dX3_readOrder_100 : decode cX3_readOrder 100 = .ok (.invokevirtual 48, 3) := by decide +kernel
theorem dX3_readOrder_103 : decode cX3_readOrder 103 = .ok (.ifCond .eq 25, 3) := by decide +kernel
theorem dX3_readOrder_106 : decode cX3_readOrder 106 = .ok (.aload_n 0, 1) := by decide +kernel
theorem dX3_readOrder_107 : decode cX3_readOrder 107 = .ok (.aload_n 1, 1) := by decide +kernel
theorem dX3_readOrder_108 : decode cX3_readOrder 108 = .ok (.bipush 61, 2) := by decide +kernel
theorem dX3_readOrder_110 : decode cX3_readOrder 110 = .ok (.invokevirtual 34, 3) := by decide +kernel
theorem dX3_readOrder_113 : decode cX3_readOrder 113 = .ok (.ifCond .eq 15, 3) := by decide +kernel
theorem dX3_readOrder_116 : decode cX3_readOrder 116 = .ok (.aload_n 0, 1) := by decide +kernel
theorem dX3_readOrder_117 : decode cX3_readOrder 117 = .ok (.aload_n 1, 1) := by decide +kernel
theorem dX3_readOrder_118 : decode cX3_readOrder 118 = .ok (.invokevirtual 51, 3) := by decide +kernel
theorem dX3_readOrder_121 : decode cX3_readOrder 121 = .ok (.ifCond .eq 7, 3) := by decide +kernel
theorem dX3_readOrder_124 : decode cX3_readOrder 124 = .ok (.iconst 1, 1) := by decide +kernel
theorem dX3_readOrder_125 : decode cX3_readOrder 125 = .ok (.goto 4, 3) := by decide +kernel
theorem dX3_readOrder_128 : decode cX3_readOrder 128 = .ok (.iconst 0, 1) := by decide +kernel
theorem dX3_readOrder_129 : decode cX3_readOrder 129 = .ok (.ireturn, 1) := by decide +kernel
theorem dX3_readOrder_130 : decode cX3_readOrder 130 = .ok (.aload_n 0, 1) := by decide +kernel
theorem dX3_readOrder_131 : decode cX3_readOrder 131 = .ok (.dup, 1) := by decide +kernel
theorem dX3_readOrder_132 : decode cX3_readOrder 132 = .ok (.getfield 20, 3) := by decide +kernel
theorem dX3_readOrder_135 : decode cX3_readOrder 135 = .ok (.iconst 1, 1) := by decide +kernel
theorem dX3_readOrder_136 : decode cX3_readOrder 136 = .ok (.iadd, 1) := by decide +kernel
theorem dX3_readOrder_137 : decode cX3_readOrder 137 = .ok (.putfield 20, 3) := by decide +kernel
theorem dX3_readOrder_140 : decode cX3_readOrder 140 = .ok (.aload_n 0, 1) := by decide +kernel
theorem dX3_readOrder_141 : decode cX3_readOrder 141 = .ok (.aload_n 1, 1) := by decide +kernel
theorem dX3_readOrder_142 : decode cX3_readOrder 142 = .ok (.invokevirtual 48, 3) := by decide +kernel
theorem dX3_readOrder_145 : decode cX3_readOrder 145 = .ok (.ifCond .eq 25, 3) := by decide +kernel
theorem dX3_readOrder_148 : decode cX3_readOrder 148 = .ok (.aload_n 0, 1) := by decide +kernel
theorem dX3_readOrder_149 : decode cX3_readOrder 149 = .ok (.aload_n 1, 1) := by decide +kernel
theorem dX3_readOrder_150 : decode cX3_readOrder 150 = .ok (.bipush 45, 2) := by decide +kernel
theorem dX3_readOrder_152 : decode cX3_readOrder 152 = .ok (.invokevirtual 34, 3) := by decide +kernel
theorem dX3_readOrder_155 : decode cX3_readOrder 155 = .ok (.ifCond .eq 15, 3) := by decide +kernel
theorem dX3_readOrder_158 : decode cX3_readOrder 158 = .ok (.aload_n 0, 1) := by decide +kernel
theorem dX3_readOrder_159 : decode cX3_readOrder 159 = .ok (.aload_n 1, 1) := by decide +kernel
theorem dX3_readOrder_160 : decode cX3_readOrder 160 = .ok (.invokevirtual 48, 3) := by decide +kernel
theorem dX3_readOrder_163 : decode cX3_readOrder 163 = .ok (.ifCond .eq 7, 3) := by decide +kernel
theorem dX3_readOrder_166 : decode cX3_readOrder 166 = .ok (.iconst 1, 1) := by decide +kernel
theorem dX3_readOrder_167 : decode cX3_readOrder 167 = .ok (.goto 4, 3) := by decide +kernel
theorem dX3_readOrder_170 : decode cX3_readOrder 170 = .ok (.iconst 0, 1) := by decide +kernel
theorem dX3_readOrder_171 : decode cX3_readOrder 171 = .ok (.ireturn, 1) := by decide +kernel
theorem dX3_readOrder_172 : decode cX3_readOrder 172 = .ok (.aload_n 0, 1) := by decide +kernel
theorem dX3_readOrder_173 : decode cX3_readOrder 173 = .ok (.dup, 1) := by decide +kernel
theorem dX3_readOrder_174 : decode cX3_readOrder 174 = .ok (.getfield 20, 3) := by decide +kernel
theorem dX3_readOrder_177 : decode cX3_readOrder 177 = .ok (.iconst 1, 1) := by decide +kernel
theorem dX3_readOrder_178 : decode cX3_readOrder 178 = .ok (.iadd, 1) := by decide +kernel
theorem dX3_readOrder_179 : decode cX3_readOrder 179 = .ok (.putfield 20, 3) := by decide +kernel
theorem dX3_readOrder_182 : decode cX3_readOrder 182 = .ok (.aload_n 0, 1) := by decide +kernel
theorem dX3_readOrder_183 : decode cX3_readOrder 183 = .ok (.aload_n 1, 1) := by decide +kernel
theorem dX3_readOrder_184 : decode cX3_readOrder 184 = .ok (.invokevirtual 48, 3) := by decide +kernel
theorem dX3_readOrder_187 : decode cX3_readOrder 187 = .ok (.ifCond .eq 43, 3) := by decide +kernel
theorem dX3_readOrder_190 : decode cX3_readOrder 190 = .ok (.aload_n 0, 1) := by decide +kernel
theorem dX3_readOrder_191 : decode cX3_readOrder 191 = .ok (.aload_n 1, 1) := by decide +kernel
theorem dX3_readOrder_192 : decode cX3_readOrder 192 = .ok (.bipush 45, 2) := by decide +kernel
theorem dX3_readOrder_194 : decode cX3_readOrder 194 = .ok (.invokevirtual 34, 3) := by decide +kernel
theorem dX3_readOrder_197 : decode cX3_readOrder 197 = .ok (.ifCond .eq 33, 3) := by decide +kernel
theorem dX3_readOrder_200 : decode cX3_readOrder 200 = .ok (.aload_n 0, 1) := by decide +kernel
theorem dX3_readOrder_201 : decode cX3_readOrder 201 = .ok (.aload_n 1, 1) := by decide +kernel
theorem dX3_readOrder_202 : decode cX3_readOrder 202 = .ok (.invokevirtual 48, 3) := by decide +kernel
theorem dX3_readOrder_205 : decode cX3_readOrder 205 = .ok (.ifCond .eq 25, 3) := by decide +kernel
theorem dX3_readOrder_208 : decode cX3_readOrder 208 = .ok (.aload_n 0, 1) := by decide +kernel
theorem dX3_readOrder_209 : decode cX3_readOrder 209 = .ok (.aload_n 1, 1) := by decide +kernel
theorem dX3_readOrder_210 : decode cX3_readOrder 210 = .ok (.bipush 62, 2) := by decide +kernel
theorem dX3_readOrder_212 : decode cX3_readOrder 212 = .ok (.invokevirtual 34, 3) := by decide +kernel
theorem dX3_readOrder_215 : decode cX3_readOrder 215 = .ok (.ifCond .eq 15, 3) := by decide +kernel
theorem dX3_readOrder_218 : decode cX3_readOrder 218 = .ok (.aload_n 0, 1) := by decide +kernel
theorem dX3_readOrder_219 : decode cX3_readOrder 219 = .ok (.aload_n 1, 1) := by decide +kernel
theorem dX3_readOrder_220 : decode cX3_readOrder 220 = .ok (.invokevirtual 48, 3) := by decide +kernel
theorem dX3_readOrder_223 : decode cX3_readOrder 223 = .ok (.ifCond .eq 7, 3) := by decide +kernel
theorem dX3_readOrder_226 : decode cX3_readOrder 226 = .ok (.iconst 1, 1) := by decide +kernel
theorem dX3_readOrder_227 : decode cX3_readOrder 227 = .ok (.goto 4, 3) := by decide +kernel
theorem dX3_readOrder_230 : decode cX3_readOrder 230 = .ok (.iconst 0, 1) := by decide +kernel
theorem dX3_readOrder_231 : decode cX3_readOrder 231 = .ok (.ireturn, 1) := by decide +kernel
theorem dX3_readOrder_232 : decode cX3_readOrder 232 = .ok (.aload_n 0, 1) := by decide +kernel
theorem dX3_readOrder_233 : decode cX3_readOrder 233 = .ok (.dup, 1) := by decide +kernel
theorem dX3_readOrder_234 : decode cX3_readOrder 234 = .ok (.getfield 20, 3) := by decide +kernel
theorem dX3_readOrder_237 : decode cX3_readOrder 237 = .ok (.iconst 1, 1) := by decide +kernel
theorem dX3_readOrder_238 : decode cX3_readOrder 238 = .ok (.iadd, 1) := by decide +kernel
theorem dX3_readOrder_239 : decode cX3_readOrder 239 = .ok (.putfield 20, 3) := by decide +kernel
theorem dX3_readOrder_242 : decode cX3_readOrder 242 = .ok (.aload_n 0, 1) := by decide +kernel
theorem dX3_readOrder_243 : decode cX3_readOrder 243 = .ok (.aload_n 1, 1) := by decide +kernel
theorem dX3_readOrder_244 : decode cX3_readOrder 244 = .ok (.invokevirtual 48, 3) := by decide +kernel
theorem dX3_readOrder_247 : decode cX3_readOrder 247 = .ok (.ireturn, 1) := by decide +kernel
theorem dX3_readOrder_248 : decode cX3_readOrder 248 = .ok (.iconst 0, 1) := by decide +kernel
theorem dX3_readOrder_249 : decode cX3_readOrder 249 = .ok (.ireturn, 1) := by decide +kernel
theorem dX3_skip_0 : decode cX3_skip 0 = .ok (.aload_n 1, 1) := by decide +kernel
theorem dX3_skip_1 : decode cX3_skip 1 = .ok (.aload_n 0, 1) := by decide +kernel
theorem dX3_skip_2 : decode cX3_skip 2 = .ok (.getfield 20, 3) := by decide +kernel
theorem dX3_skip_5 : decode cX3_skip 5 = .ok (.invokevirtual 38, 3) := by decide +kernel
theorem dX3_skip_8 : decode cX3_skip 8 = .ok (.iload_n 2, 1) := by decide +kernel
theorem dX3_skip_9 : decode cX3_skip 9 = .ok (.if_icmp .eq 5, 3) := by decide +kernel
theorem dX3_skip_12 : decode cX3_skip 12 = .ok (.iconst 0, 1) := by decide +kernel
theorem dX3_skip_13 : decode cX3_skip 13 = .ok (.ireturn, 1) := by decide +kernel
theorem dX3_skip_14 : decode cX3_skip 14 = .ok (.aload_n 0, 1) := by decide +kernel
theorem dX3_skip_15 : decode cX3_skip 15 = .ok (.dup, 1) := by decide +kernel
theorem dX3_skip_16 : decode cX3_skip 16 = .ok (.getfield 20, 3) := by decide +kernel
theorem dX3_skip_19 : decode cX3_skip 19 = .ok (.iconst 1, 1) := by decide +kernel
theorem dX3_skip_20 : decode cX3_skip 20 = .ok (.iadd, 1) := by decide +kernel
theorem dX3_skip_21 : decode cX3_skip 21 = .ok (.putfield 20, 3) := by decide +kernel
theorem dX3_skip_24 : decode cX3_skip 24 = .ok (.iconst 1, 1) := by decide +kernel
theorem dX3_skip_25 : decode cX3_skip 25 = .ok (.ireturn, 1) := by decide +kernel
theorem dX3_readNumber_0 : decode cX3_readNumber 0 = .ok (.aload_n 1, 1) := by decide +kernel
theorem dX3_readNumber_1 : decode cX3_readNumber 1 = .ok (.aload_n 0, 1) := by decide +kernel
theorem dX3_readNumber_2 : decode cX3_readNumber 2 = .ok (.getfield 20, 3) := by decide +kernel
theorem dX3_readNumber_5 : decode cX3_readNumber 5 = .ok (.invokevirtual 38, 3) := by decide +kernel
theorem dX3_readNumber_8 : decode cX3_readNumber 8 = .ok (.invokestatic 54, 3) := by decide +kernel
theorem dX3_readNumber_11 : decode cX3_readNumber 11 = .ok (.ifCond .ne 5, 3) := by decide +kernel
theorem dX3_readNumber_14 : decode cX3_readNumber 14 = .ok (.iconst 0, 1) := by decide +kernel
theorem dX3_readNumber_15 : decode cX3_readNumber 15 = .ok (.ireturn, 1) := by decide +kernel
theorem dX3_readNumber_16 : decode cX3_readNumber 16 = .ok (.aload_n 1, 1) := by decide +kernel
theorem dX3_readNumber_17 : decode cX3_readNumber 17 = .ok (.aload_n 0, 1) := by decide +kernel
theorem dX3_readNumber_18 : decode cX3_readNumber 18 = .ok (.getfield 20, 3) := by decide +kernel
theorem dX3_readNumber_21 : decode cX3_readNumber 21 = .ok (.invokevirtual 38, 3) := by decide +kernel
theorem dX3_readNumber_24 : decode cX3_readNumber 24 = .ok (.bipush 48, 2) := by decide +kernel
theorem dX3_readNumber_26 : decode cX3_readNumber 26 = .ok (.isub, 1) := by decide +kernel
theorem dX3_readNumber_27 : decode cX3_readNumber 27 = .ok (.istore_n 2, 1) := by decide +kernel
theorem dX3_readNumber_28 : decode cX3_readNumber 28 = .ok (.aload_n 0, 1) := by decide +kernel
theorem dX3_readNumber_29 : decode cX3_readNumber 29 = .ok (.dup, 1) := by decide +kernel
theorem dX3_readNumber_30 : decode cX3_readNumber 30 = .ok (.getfield 20, 3) := by decide +kernel
theorem dX3_readNumber_33 : decode cX3_readNumber 33 = .ok (.iconst 1, 1) := by decide +kernel
theorem dX3_readNumber_34 : decode cX3_readNumber 34 = .ok (.iadd, 1) := by decide +kernel
theorem dX3_readNumber_35 : decode cX3_readNumber 35 = .ok (.putfield 20, 3) := by decide +kernel
theorem dX3_readNumber_38 : decode cX3_readNumber 38 = .ok (.iload_n 2, 1) := by decide +kernel
theorem dX3_readNumber_39 : decode cX3_readNumber 39 = .ok (.ifCond .eq 44, 3) := by decide +kernel
theorem dX3_readNumber_42 : decode cX3_readNumber 42 = .ok (.aload_n 1, 1) := by decide +kernel
theorem dX3_readNumber_43 : decode cX3_readNumber 43 = .ok (.aload_n 0, 1) := by decide +kernel
theorem dX3_readNumber_44 : decode cX3_readNumber 44 = .ok (.getfield 20, 3) := by decide +kernel
theorem dX3_readNumber_47 : decode cX3_readNumber 47 = .ok (.invokevirtual 38, 3) := by decide +kernel
theorem dX3_readNumber_50 : decode cX3_readNumber 50 = .ok (.invokestatic 54, 3) := by decide +kernel
theorem dX3_readNumber_53 : decode cX3_readNumber 53 = .ok (.ifCond .eq 30, 3) := by decide +kernel
theorem dX3_readNumber_56 : decode cX3_readNumber 56 = .ok (.bipush 10, 2) := by decide +kernel
theorem dX3_readNumber_58 : decode cX3_readNumber 58 = .ok (.iload_n 2, 1) := by decide +kernel
theorem dX3_readNumber_59 : decode cX3_readNumber 59 = .ok (.imul, 1) := by decide +kernel
theorem dX3_readNumber_60 : decode cX3_readNumber 60 = .ok (.aload_n 1, 1) := by decide +kernel
theorem dX3_readNumber_61 : decode cX3_readNumber 61 = .ok (.aload_n 0, 1) := by decide +kernel
theorem dX3_readNumber_62 : decode cX3_readNumber 62 = .ok (.getfield 20, 3) := by decide +kernel
theorem dX3_readNumber_65 : decode cX3_readNumber 65 = .ok (.invokevirtual 38, 3) := by decide +kernel
theorem dX3_readNumber_68 : decode cX3_readNumber 68 = .ok (.iadd, 1) := by decide +kernel
theorem dX3_readNumber_69 : decode cX3_readNumber 69 = .ok (.bipush 48, 2) := by decide +kernel
theorem dX3_readNumber_71 : decode cX3_readNumber 71 = .ok (.isub, 1) := by decide +kernel
theorem dX3_readNumber_72 : decode cX3_readNumber 72 = .ok (.istore_n 2, 1) := by decide +kernel
theorem dX3_readNumber_73 : decode cX3_readNumber 73 = .ok (.aload_n 0, 1) := by decide +kernel
theorem dX3_readNumber_74 : decode cX3_readNumber 74 = .ok (.dup, 1) := by decide +kernel
theorem dX3_readNumber_75 : decode cX3_readNumber 75 = .ok (.getfield 20, 3) := by decide +kernel
theorem dX3_readNumber_78 : decode cX3_readNumber 78 = .ok (.iconst 1, 1) := by decide +kernel
theorem dX3_readNumber_79 : decode cX3_readNumber 79 = .ok (.iadd, 1) := by decide +kernel
theorem dX3_readNumber_80 : decode cX3_readNumber 80 = .ok (.putfield 20, 3) := by decide +kernel
theorem dX3_readNumber_83 : decode cX3_readNumber 83 = .ok (.aload_n 0, 1) := by decide +kernel
theorem dX3_readNumber_84 : decode cX3_readNumber 84 = .ok (.getfield 14, 3) := by decide +kernel
theorem dX3_readNumber_87 : decode cX3_readNumber 87 = .ok (.iload_n 2, 1) := by decide +kernel
theorem dX3_readNumber_88 : decode cX3_readNumber 88 = .ok (.invokevirtual 58, 3) := by decide +kernel
theorem dX3_readNumber_91 : decode cX3_readNumber 91 = .ok (.iconst 1, 1) := by decide +kernel
theorem dX3_readNumber_92 : decode cX3_readNumber 92 = .ok (.ireturn, 1) := by decide +kernel
theorem dX3_readLetters_0 : decode cX3_readLetters 0 = .ok (.aload_n 0, 1) := by decide +kernel
theorem dX3_readLetters_1 : decode cX3_readLetters 1 = .ok (.aload_n 0, 1) := by decide +kernel
theorem dX3_readLetters_2 : decode cX3_readLetters 2 = .ok (.getfield 20, 3) := by decide +kernel
theorem dX3_readLetters_5 : decode cX3_readLetters 5 = .ok (.putfield 61, 3) := by decide +kernel
theorem dX3_readLetters_8 : decode cX3_readLetters 8 = .ok (.aload_n 0, 1) := by decide +kernel
theorem dX3_readLetters_9 : decode cX3_readLetters 9 = .ok (.getfield 20, 3) := by decide +kernel
theorem dX3_readLetters_12 : decode cX3_readLetters 12 = .ok (.aload_n 1, 1) := by decide +kernel
theorem dX3_readLetters_13 : decode cX3_readLetters 13 = .ok (.getfield 31, 3) := by decide +kernel
theorem dX3_readLetters_16 : decode cX3_readLetters 16 = .ok (.if_icmp .ge 30, 3) := by decide +kernel
theorem dX3_readLetters_19 : decode cX3_readLetters 19 = .ok (.aload_n 1, 1) := by decide +kernel
theorem dX3_readLetters_20 : decode cX3_readLetters 20 = .ok (.aload_n 0, 1) := by decide +kernel
theorem dX3_readLetters_21 : decode cX3_readLetters 21 = .ok (.getfield 20, 3) := by decide +kernel
theorem dX3_readLetters_24 : decode cX3_readLetters 24 = .ok (.invokevirtual 38, 3) := by decide +kernel
theorem dX3_readLetters_27 : decode cX3_readLetters 27 = .ok (.invokestatic 64, 3) := by decide +kernel
theorem dX3_readLetters_30 : decode cX3_readLetters 30 = .ok (.ifCond .eq 16, 3) := by decide +kernel
theorem dX3_readLetters_33 : decode cX3_readLetters 33 = .ok (.aload_n 0, 1) := by decide +kernel
theorem dX3_readLetters_34 : decode cX3_readLetters 34 = .ok (.dup, 1) := by decide +kernel
theorem dX3_readLetters_35 : decode cX3_readLetters 35 = .ok (.getfield 20, 3) := by decide +kernel
theorem dX3_readLetters_38 : decode cX3_readLetters 38 = .ok (.iconst 1, 1) := by decide +kernel
theorem dX3_readLetters_39 : decode cX3_readLetters 39 = .ok (.iadd, 1) := by decide +kernel
theorem dX3_readLetters_40 : decode cX3_readLetters 40 = .ok (.putfield 20, 3) := by decide +kernel
theorem dX3_readLetters_43 : decode cX3_readLetters 43 = .ok (.goto (-35), 3) := by decide +kernel
theorem dX3_readLetters_46 : decode cX3_readLetters 46 = .ok (.aload_n 0, 1) := by decide +kernel
theorem dX3_readLetters_47 : decode cX3_readLetters 47 = .ok (.getfield 20, 3) := by decide +kernel
theorem dX3_readLetters_50 : decode cX3_readLetters 50 = .ok (.aload_n 0, 1) := by decide +kernel
theorem dX3_readLetters_51 : decode cX3_readLetters 51 = .ok (.getfield 61, 3) := by decide +kernel
theorem dX3_readLetters_54 : decode cX3_readLetters 54 = .ok (.if_icmp .le 7, 3) := by decide +kernel
theorem dX3_readLetters_57 : decode cX3_readLetters 57 = .ok (.iconst 1, 1) := by decide +kernel
theorem dX3_readLetters_58 : decode cX3_readLetters 58 = .ok (.goto 4, 3) := by decide +kernel
theorem dX3_readLetters_61 : decode cX3_readLetters 61 = .ok (.iconst 0, 1) := by decide +kernel
theorem dX3_readLetters_62 : decode cX3_readLetters 62 = .ok (.ireturn, 1) := by decide +kernel
theorem dX3_isDigit_0 : decode cX3_isDigit 0 = .ok (.iload_n 0, 1) := by decide +kernel
theorem dX3_isDigit_1 : decode cX3_isDigit 1 = .ok (.bipush 48, 2) := by decide +kernel
theorem dX3_isDigit_3 : decode cX3_isDigit 3 = .ok (.if_icmp .lt 13, 3) := by decide +kernel
theorem dX3_isDigit_6 : decode cX3_isDigit 6 = .ok (.iload_n 0, 1) := by decide +kernel
theorem dX3_isDigit_7 : decode cX3_isDigit 7 = .ok (.bipush 57, 2) := by decide +kernel
theorem dX3_isDigit_9 : decode cX3_isDigit 9 = .ok (.if_icmp .gt 7, 3) := by decide +kernel
theorem dX3_isDigit_12 : decode cX3_isDigit 12 = .ok (.iconst 1, 1) := by decide +kernel
theorem dX3_isDigit_13 : decode cX3_isDigit 13 = .ok (.goto 4, 3) := by decide +kernel
theorem dX3_isDigit_16 : decode cX3_isDigit 16 = .ok (.iconst 0, 1) := by decide +kernel
theorem dX3_isDigit_17 : decode cX3_isDigit 17 = .ok (.ireturn, 1) := by decide +kernel
theorem dX3_isLetter_0 : decode cX3_isLetter 0 = .ok (.iload_n 0, 1) := by decide +kernel
theorem dX3_isLetter_1 : decode cX3_isLetter 1 = .ok (.bipush 97, 2) := by decide +kernel
theorem dX3_isLetter_3 : decode cX3_isLetter 3 = .ok (.if_icmp .lt 13, 3) := by decide +kernel
theorem dX3_isLetter_6 : decode cX3_isLetter 6 = .ok (.iload_n 0, 1) := by decide +kernel
theorem dX3_isLetter_7 : decode cX3_isLetter 7 = .ok (.bipush 122, 2) := by decide +kernel
theorem dX3_isLetter_9 : decode cX3_isLetter 9 = .ok (.if_icmp .gt 7, 3) := by decide +kernel
theorem dX3_isLetter_12 : decode cX3_isLetter 12 = .ok (.iconst 1, 1) := by decide +kernel
theorem dX3_isLetter_13 : decode cX3_isLetter 13 = .ok (.goto 4, 3) := by decide +kernel
theorem dX3_isLetter_16 : decode cX3_isLetter 16 = .ok (.iconst 0, 1) := by decide +kernel
theorem dX3_isLetter_17 : decode cX3_isLetter 17 = .ok (.ireturn, 1) := by decide +kernel
set_option maxRecDepth 20000 in
theorem ggX8_init_X4_init : GoodIn wsX8_init wsX4_init := goodIn_r _ [31, 32, 2, 3, 33, 17, 18, 34, 35, 36, 37, 38, 39, 40, 41, 42, 43, 44, 45, 46, 47, 48, 49, 50, 51, 52, 53, 54, 55, 56, 57, 58, 59, 60, 61, 62, 63, 64, 65, 66, 67, 115, 116, 92, 93, 94, 95, 96, 97, 123, 124, 125, 126, 127, 128, 129, 130] (by decide +kernel) (by decide +kernel)
set_option maxRecDepth 20000 in
theorem gX8_init_X4_init : GoodIn wsX8_init (wsX4_init) := ggX8_init_X4_init
set_option maxRecDepth 20000 in
theorem ggX8_init_X1_init : GoodIn wsX8_init wsX1_init := goodIn_r _ [69, 70, 2, 3, 71, 17, 18, 72, 73, 74, 75, 76, 46, 47, 48, 49, 50, 115, 116, 105, 106, 107, 108, 109, 110, 111] (by decide +kernel) (by decide +kernel)
set_option maxRecDepth 20000 in
theorem gX8_init_X1_init_n18 : GoodIn wsX8_init (wsX1_init) := ggX8_init_X1_init
set_option maxRecDepth 20000 in
theorem ggX8_init_X7_init : GoodIn wsX8_init wsX7_init := goodIn_r _ [78, 79, 2, 3] (by decide +kernel) (by decide +kernel)
set_option maxRecDepth 20000 in
theorem gX8_init_X7_init_n25 : GoodIn wsX8_init (wsX7_init) := ggX8_init_X7_init
set_option maxRecDepth 20000 in
theorem ggX8_init_X6_init : GoodIn wsX8_init wsX6_init := goodIn_r _ [47, 48, 2, 3, 49, 50, 115, 116] (by decide +kernel) (by decide +kernel)
set_option maxRecDepth 20000 in
theorem gX8_init_X6_init : GoodIn wsX8_init (wsX6_init) := ggX8_init_X6_init
set_option maxRecDepth 20000 in
theorem ggX8_init_X3_init : GoodIn wsX8_init wsX3_init := goodIn_r _ [82, 83, 2, 3, 84, 17, 18, 85, 86, 46, 47, 48, 49, 50, 115, 116, 117, 118, 119, 120] (by decide +kernel) (by decide +kernel)
set_option maxRecDepth 20000 in
theorem gX8_init_X3_init_n41 : GoodIn wsX8_init (wsX3_init) := ggX8_init_X3_init
set_option maxRecDepth 20000 in
theorem ggX8_init_X0_init : GoodIn wsX8_init wsX0_init := goodIn_r _ [88, 89, 2, 3, 90, 91, 121, 122] (by decide +kernel) (by decide +kernel)
set_option maxRecDepth 20000 in
theorem gX8_init_X0_init_n48 : GoodIn wsX8_init (wsX0_init) := ggX8_init_X0_init
set_option maxRecDepth 20000 in
theorem ggX8_set_X0_keep : GoodIn wsX8_set wsX0_keep := goodIn_r _ [7, 8, 9, 10, 11, 12, 13, 14, 15, 16, 17, 18, 19, 20, 21, 22, 23, 24, 25, 26, 27, 28, 29, 30, 31, 32, 33, 34, 35, 36, 37, 38, 39, 40, 41, 42, 43, 44, 45, 46, 47, 48, 49, 50, 51, 52, 53, 54, 55, 56, 57, 58, 59, 60, 61, 62, 63, 64, 65, 66, 67, 68, 69, 70, 71, 72, 73, 74, 75, 76, 77, 78, 79, 80, 81, 120, 121, 122, 123, 124, 125, 126, 127, 128, 129, 130, 131, 132, 133, 134, 135, 136, 137] (by decide +kernel) (by decide +kernel)
set_option maxRecDepth 20000 in
theorem gX8_set_X0_keep : GoodIn wsX8_set (wsV RX8 57 RX0 yX0_keep wsX0_keep) := goodIn_app (goodIn_of _ (by decide +kernel)) ggX8_set_X0_keep
set_option maxRecDepth 20000 in
theorem ggX8_set_X4_changeSetting : GoodIn wsX8_set wsX4_changeSetting := goodIn_r _ [85, 22, 86, 87, 88, 21, 89, 46, 38, 90, 91, 12, 92, 93, 94, 95, 96, 97, 98, 99, 100, 101, 102, 103, 104, 122, 123, 124, 125, 126, 127, 128, 129] (by decide +kernel) (by decide +kernel)
set_option maxRecDepth 20000 in
theorem gX8_set_X4_changeSetting : GoodIn wsX8_set (wsV RX8 61 RX4 yX4_changeSetting wsX4_changeSetting) := goodIn_app (goodIn_of _ (by decide +kernel)) ggX8_set_X4_changeSetting
set_option maxRecDepth 20000 in
theorem ggX8_set_X0_confirm : GoodIn wsX8_set wsX0_confirm := goodIn_r _ [108, 8, 109, 110, 111, 6, 112, 9, 120, 121] (by decide +kernel) (by decide +kernel)
set_option maxRecDepth 20000 in
theorem gX8_set_X0_confirm : GoodIn wsX8_set (wsV RX8 65 RX0 yX0_confirm wsX0_confirm) := goodIn_app (goodIn_of _ (by decide +kernel)) ggX8_set_X0_confirm
set_option maxRecDepth 20000 in
theorem ggX8_write_X0_keep : GoodIn wsX8_write wsX0_keep := goodIn_r _ [7, 8, 9, 10, 11, 12, 13, 14, 15, 16, 17, 18, 19, 20, 21, 22, 23, 24, 25, 26, 27, 28, 29, 30, 31, 32, 33, 34, 35, 36, 37, 38, 39, 40, 41, 42, 43, 44, 45, 46, 47, 48, 49, 50, 51, 52, 53, 54, 55, 56, 57, 58, 59, 60, 61, 62, 63, 64, 65, 66, 67, 68, 69, 70, 71, 72, 73, 74, 75, 76, 77, 78, 79, 80, 81, 106, 107, 108, 109, 110, 111, 112, 113, 114, 115, 116, 117, 118, 119, 120, 121, 122, 123] (by decide +kernel) (by decide +kernel)
set_option maxRecDepth 20000 in
theorem gX8_write_X0_keep : GoodIn wsX8_write (wsV RX8 57 RX0 yX0_keep wsX0_keep) := goodIn_app (goodIn_of _ (by decide +kernel)) ggX8_write_X0_keep
set_option maxRecDepth 20000 in
theorem ggX8_write_X4_writeLetter : GoodIn wsX8_write wsX4_writeLetter := goodIn_r _ [85, 23, 86, 24, 87, 88, 89, 21, 90, 46, 38, 69, 70, 71, 72, 108, 109, 110, 111, 112, 113, 114, 115] (by decide +kernel) (by decide +kernel)
set_option maxRecDepth 20000 in
theorem gX8_write_X4_writeLetter : GoodIn wsX8_write (wsV RX8 69 RX4 yX4_writeLetter wsX4_writeLetter) := goodIn_app (goodIn_of _ (by decide +kernel)) ggX8_write_X4_writeLetter
set_option maxRecDepth 20000 in
theorem ggX8_write_X0_confirm : GoodIn wsX8_write wsX0_confirm := goodIn_r _ [94, 8, 95, 96, 97, 6, 98, 9, 106, 107] (by decide +kernel) (by decide +kernel)
set_option maxRecDepth 20000 in
theorem gX8_write_X0_confirm : GoodIn wsX8_write (wsV RX8 65 RX0 yX0_confirm wsX0_confirm) := goodIn_app (goodIn_of _ (by decide +kernel)) ggX8_write_X0_confirm
set_option maxRecDepth 20000 in
theorem ggX8_erase_X0_keep : GoodIn wsX8_erase wsX0_keep := goodIn_r _ [7, 8, 9, 10, 11, 12, 13, 14, 15, 16, 17, 18, 19, 20, 21, 22, 23, 24, 25, 26, 27, 28, 29, 30, 31, 32, 33, 34, 35, 36, 37, 38, 39, 40, 41, 42, 43, 44, 45, 46, 47, 48, 49, 50, 51, 52, 53, 54, 55, 56, 57, 58, 59, 60, 61, 62, 63, 64, 65, 66, 67, 68, 69, 70, 71, 72, 73, 74, 75, 76, 77, 78, 79, 80, 81, 130, 131, 132, 133, 134, 135, 136, 137, 138, 139, 140, 141, 142, 143, 144, 145, 146, 147] (by decide +kernel) (by decide +kernel)
set_option maxRecDepth 20000 in
theorem gX8_erase_X0_keep : GoodIn wsX8_erase (wsV RX8 57 RX0 yX0_keep wsX0_keep) := goodIn_app (goodIn_of _ (by decide +kernel)) ggX8_erase_X0_keep
set_option maxRecDepth 20000 in
theorem ggX8_erase_X4_eraseLetters : GoodIn wsX8_erase wsX4_eraseLetters := goodIn_r _ [85, 23, 24, 86, 87, 88, 12, 89, 90, 91, 92, 93, 94, 95, 96, 97, 21, 98, 46, 38, 99, 100, 101, 102, 103, 104, 105, 106, 69, 70, 71, 72, 107, 108, 109, 110, 111, 112, 113, 114, 132, 133, 134, 135, 136, 137, 138, 139] (by decide +kernel) (by decide +kernel)
set_option maxRecDepth 20000 in
theorem gX8_erase_X4_eraseLetters : GoodIn wsX8_erase (wsV RX8 72 RX4 yX4_eraseLetters wsX4_eraseLetters) := goodIn_app (goodIn_of _ (by decide +kernel)) ggX8_erase_X4_eraseLetters
set_option maxRecDepth 20000 in
theorem ggX8_erase_X0_confirm : GoodIn wsX8_erase wsX0_confirm := goodIn_r _ [118, 8, 119, 120, 121, 6, 122, 9, 130, 131] (by decide +kernel) (by decide +kernel)
set_option maxRecDepth 20000 in
theorem gX8_erase_X0_confirm : GoodIn wsX8_erase (wsV RX8 65 RX0 yX0_confirm wsX0_confirm) := goodIn_app (goodIn_of _ (by decide +kernel)) ggX8_erase_X0_confirm
set_option maxRecDepth 20000 in
theorem ggX8_move_X0_keep : GoodIn wsX8_move wsX0_keep := goodIn_r _ [7, 8, 9, 10, 11, 12, 13, 14, 15, 16, 17, 18, 19, 20, 21, 22, 23, 24, 25, 26, 27, 28, 29, 30, 31, 32, 33, 34, 35, 36, 37, 38, 39, 40, 41, 42, 43, 44, 45, 46, 47, 48, 49, 50, 51, 52, 53, 54, 55, 56, 57, 58, 59, 60, 61, 62, 63, 64, 65, 66, 67, 68, 69, 70, 71, 72, 73, 74, 75, 76, 77, 78, 79, 80, 81, 148, 149, 150, 151, 152, 153, 154, 155, 156, 157, 158, 159, 160, 161, 162, 163, 164, 165] (by decide +kernel) (by decide +kernel)
set_option maxRecDepth 20000 in
theorem gX8_move_X0_keep : GoodIn wsX8_move (wsV RX8 57 RX0 yX0_keep wsX0_keep) := goodIn_app (goodIn_of _ (by decide +kernel)) ggX8_move_X0_keep
set_option maxRecDepth 20000 in
theorem ggX8_move_X4_moveLetters : GoodIn wsX8_move wsX4_moveLetters := goodIn_r _ [85, 23, 86, 24, 87, 88, 89, 12, 90, 91, 92, 93, 21, 94, 46, 38, 95, 96, 97, 98, 99, 100, 101, 102, 103, 104, 105, 106, 107, 108, 109, 110, 111, 60, 112, 113, 114, 115, 116, 30, 117, 118, 119, 29, 120, 121, 122, 123, 124, 125, 126, 127, 128, 129, 130, 131, 132, 150, 151, 152, 153, 154, 155, 156, 157, 158, 159, 160, 161] (by decide +kernel) (by decide +kernel)
set_option maxRecDepth 20000 in
theorem gX8_move_X4_moveLetters : GoodIn wsX8_move (wsV RX8 75 RX4 yX4_moveLetters wsX4_moveLetters) := goodIn_app (goodIn_of _ (by decide +kernel)) ggX8_move_X4_moveLetters
set_option maxRecDepth 20000 in
theorem ggX8_move_X0_confirm : GoodIn wsX8_move wsX0_confirm := goodIn_r _ [136, 8, 137, 138, 139, 6, 140, 9, 148, 149] (by decide +kernel) (by decide +kernel)
set_option maxRecDepth 20000 in
theorem gX8_move_X0_confirm : GoodIn wsX8_move (wsV RX8 65 RX0 yX0_confirm wsX0_confirm) := goodIn_app (goodIn_of _ (by decide +kernel)) ggX8_move_X0_confirm
set_option maxRecDepth 20000 in
theorem ggX8_note_X0_keep : GoodIn wsX8_note wsX0_keep := goodIn_r _ [7, 8, 9, 10, 11, 12, 13, 14, 15, 16, 17, 18, 19, 20, 21, 22, 23, 24, 25, 26, 27, 28, 29, 30, 31, 32, 33, 34, 35, 36, 37, 38, 39, 40, 41, 42, 43, 44, 45, 46, 47, 48, 49, 50, 51, 52, 53, 54, 55, 56, 57, 58, 59, 60, 61, 62, 63, 64, 65, 66, 67, 68, 69, 70, 71, 72, 73, 74, 75, 76, 77, 78, 79, 80, 81, 137, 138, 139, 140, 141, 142, 143, 144, 145, 146, 147, 148, 149, 150, 151, 152, 153, 154] (by decide +kernel) (by decide +kernel)
set_option maxRecDepth 20000 in
theorem gX8_note_X0_keep : GoodIn wsX8_note (wsV RX8 57 RX0 yX0_keep wsX0_keep) := goodIn_app (goodIn_of _ (by decide +kernel)) ggX8_note_X0_keep
set_option maxRecDepth 20000 in
theorem ggX8_note_X4_addNote : GoodIn wsX8_note wsX4_addNote := goodIn_r _ [85, 60, 86, 87, 88, 12, 89, 23, 90, 91, 92, 21, 93, 46, 38, 94, 95, 96, 97, 22, 24, 98, 73, 74, 75, 76, 26, 99, 100, 101, 102, 103, 104, 105, 32, 106, 50, 52, 53, 54, 107, 108, 109, 110, 111, 112, 113, 114, 115, 116, 117, 43, 44, 45, 118, 119, 120, 121, 139, 140, 141, 142, 143, 144, 145, 146, 151, 152, 153, 154] (by decide +kernel) (by decide +kernel)
set_option maxRecDepth 20000 in
theorem gX8_note_X4_addNote : GoodIn wsX8_note (wsV RX8 79 RX4 yX4_addNote wsX4_addNote) := goodIn_app (goodIn_of _ (by decide +kernel)) ggX8_note_X4_addNote
set_option maxRecDepth 20000 in
theorem ggX8_note_X0_confirm : GoodIn wsX8_note wsX0_confirm := goodIn_r _ [125, 8, 126, 127, 128, 6, 129, 9, 137, 138] (by decide +kernel) (by decide +kernel)
set_option maxRecDepth 20000 in
theorem gX8_note_X0_confirm : GoodIn wsX8_note (wsV RX8 65 RX0 yX0_confirm wsX0_confirm) := goodIn_app (goodIn_of _ (by decide +kernel)) ggX8_note_X0_confirm
set_option maxRecDepth 20000 in
theorem ggX8_reply_X0_keep : GoodIn wsX8_reply wsX0_keep := goodIn_r _ [7, 8, 9, 10, 11, 12, 13, 14, 15, 16, 17, 18, 19, 20, 21, 22, 23, 24, 25, 26, 27, 28, 29, 30, 31, 32, 33, 34, 35, 36, 37, 38, 39, 40, 41, 42, 43, 44, 45, 46, 47, 48, 49, 50, 51, 52, 53, 54, 55, 56, 57, 58, 59, 60, 61, 62, 63, 64, 65, 66, 67, 68, 69, 70, 71, 72, 73, 74, 75, 76, 77, 78, 79, 80, 81, 109, 110, 111, 112, 113, 114, 115, 116, 117, 118, 119, 120, 121, 122, 123, 124, 125, 126] (by decide +kernel) (by decide +kernel)
set_option maxRecDepth 20000 in
theorem gX8_reply_X0_keep : GoodIn wsX8_reply (wsV RX8 57 RX0 yX0_keep wsX0_keep) := goodIn_app (goodIn_of _ (by decide +kernel)) ggX8_reply_X0_keep
set_option maxRecDepth 20000 in
theorem ggX8_reply_X4_addReply : GoodIn wsX8_reply wsX4_addReply := goodIn_r _ [85, 60, 73, 74, 75, 12, 76, 26, 86, 87, 88, 32, 89, 50, 52, 53, 54, 90, 91, 92, 21, 93, 46, 111, 112, 113, 114, 115, 116, 123, 124, 125, 126, 117, 118] (by decide +kernel) (by decide +kernel)
set_option maxRecDepth 20000 in
theorem gX8_reply_X4_addReply : GoodIn wsX8_reply (wsV RX8 82 RX4 yX4_addReply wsX4_addReply) := goodIn_app (goodIn_of _ (by decide +kernel)) ggX8_reply_X4_addReply
set_option maxRecDepth 20000 in
theorem ggX8_reply_X0_confirm : GoodIn wsX8_reply wsX0_confirm := goodIn_r _ [97, 8, 98, 99, 100, 6, 101, 9, 109, 110] (by decide +kernel) (by decide +kernel)
set_option maxRecDepth 20000 in
theorem gX8_reply_X0_confirm : GoodIn wsX8_reply (wsV RX8 65 RX0 yX0_confirm wsX0_confirm) := goodIn_app (goodIn_of _ (by decide +kernel)) ggX8_reply_X0_confirm
set_option maxRecDepth 20000 in
theorem ggX8_drop_X0_keep : GoodIn wsX8_drop wsX0_keep := goodIn_r _ [7, 8, 9, 10, 11, 12, 13, 14, 15, 16, 17, 18, 19, 20, 21, 22, 23, 24, 25, 26, 27, 28, 29, 30, 31, 32, 33, 34, 35, 36, 37, 38, 39, 40, 41, 42, 43, 44, 45, 46, 47, 48, 49, 50, 51, 52, 53, 54, 55, 56, 57, 58, 59, 60, 61, 62, 63, 64, 65, 66, 67, 68, 69, 70, 71, 72, 73, 74, 75, 76, 77, 78, 79, 80, 81, 133, 134, 135, 136, 137, 138, 139, 140, 141, 142, 143, 144, 145, 146, 147, 148, 149, 150] (by decide +kernel) (by decide +kernel)
set_option maxRecDepth 20000 in
theorem gX8_drop_X0_keep : GoodIn wsX8_drop (wsV RX8 57 RX0 yX0_keep wsX0_keep) := goodIn_app (goodIn_of _ (by decide +kernel)) ggX8_drop_X0_keep
set_option maxRecDepth 20000 in
theorem ggX8_drop_X4_dropFamily : GoodIn wsX8_drop wsX4_dropFamily := goodIn_r _ [85, 60, 73, 74, 75, 12, 76, 26, 86, 87, 88, 89, 90, 91, 92, 93, 94, 95, 96, 97, 24, 98, 99, 100, 101, 21, 102, 46, 38, 103, 104, 105, 106, 107, 108, 109, 110, 111, 112, 113, 114, 115, 116, 117, 135, 136, 137, 138, 139, 140, 147, 148, 149, 150, 141, 142] (by decide +kernel) (by decide +kernel)
set_option maxRecDepth 20000 in
theorem gX8_drop_X4_dropFamily : GoodIn wsX8_drop (wsV RX8 85 RX4 yX4_dropFamily wsX4_dropFamily) := goodIn_app (goodIn_of _ (by decide +kernel)) ggX8_drop_X4_dropFamily
set_option maxRecDepth 20000 in
theorem ggX8_drop_X0_confirm : GoodIn wsX8_drop wsX0_confirm := goodIn_r _ [121, 8, 122, 123, 124, 6, 125, 9, 133, 134] (by decide +kernel) (by decide +kernel)
set_option maxRecDepth 20000 in
theorem gX8_drop_X0_confirm : GoodIn wsX8_drop (wsV RX8 65 RX0 yX0_confirm wsX0_confirm) := goodIn_app (goodIn_of _ (by decide +kernel)) ggX8_drop_X0_confirm
set_option maxRecDepth 20000 in
theorem ggX8_reclaim_X0_keep : GoodIn wsX8_reclaim wsX0_keep := goodIn_r _ [8, 9, 10, 11, 12, 13, 14, 15, 16, 17, 18, 19, 20, 21, 22, 23, 24, 25, 26, 27, 28, 29, 30, 31, 32, 33, 34, 35, 36, 37, 38, 39, 40, 41, 42, 43, 44, 45, 46, 47, 48, 49, 50, 51, 52, 53, 54, 55, 56, 57, 58, 59, 60, 61, 62, 63, 64, 65, 66, 67, 68, 69, 70, 71, 72, 73, 74, 75, 76, 77, 78, 79, 80, 81, 82, 178, 179, 180, 181, 182, 183, 184, 185, 186, 187, 188, 189, 190, 191, 192, 193, 194, 195] (by decide +kernel) (by decide +kernel)
set_option maxRecDepth 20000 in
theorem gX8_reclaim_X0_keep : GoodIn wsX8_reclaim (wsV RX8 57 RX0 yX0_keep wsX0_keep) := goodIn_app (goodIn_of _ (by decide +kernel)) ggX8_reclaim_X0_keep
set_option maxRecDepth 20000 in
theorem ggX8_reclaim_X4_reclaimNote : GoodIn wsX8_reclaim wsX4_reclaimNote := goodIn_r _ [86, 24, 87, 88, 89, 90, 74, 75, 76, 13, 77, 61, 27, 91, 92, 93, 94, 95, 96, 97, 98, 33, 99, 51, 100, 101, 102, 103, 31, 25, 104, 105, 106, 30, 107, 108, 109, 110, 111, 112, 113, 114, 115, 22, 116, 47, 39, 117, 118, 119, 120, 121, 122, 123, 124, 125, 126, 127, 128, 129, 130, 131, 132, 133, 134, 135, 136, 137, 138, 139, 140, 23, 141, 142, 143, 144, 145, 53, 54, 55, 146, 147, 148, 149, 150, 151, 152, 153, 154, 155, 156, 157, 158, 44, 45, 46, 159, 160, 161, 162, 180, 181, 182, 183, 184, 185, 196, 197, 198, 192, 193, 194, 195, 186, 187, 188, 189, 190, 191] (by decide +kernel) (by decide +kernel)
set_option maxRecDepth 20000 in
theorem gX8_reclaim_X4_reclaimNote : GoodIn wsX8_reclaim (wsV RX8 88 RX4 yX4_reclaimNote wsX4_reclaimNote) := goodIn_app (goodIn_of _ (by decide +kernel)) ggX8_reclaim_X4_reclaimNote
set_option maxRecDepth 20000 in
theorem ggX8_reclaim_X0_confirm : GoodIn wsX8_reclaim wsX0_confirm := goodIn_r _ [166, 9, 167, 168, 169, 7, 170, 10, 178, 179] (by decide +kernel) (by decide +kernel)
set_option maxRecDepth 20000 in
theorem gX8_reclaim_X0_confirm : GoodIn wsX8_reclaim (wsV RX8 65 RX0 yX0_confirm wsX0_confirm) := goodIn_app (goodIn_of _ (by decide +kernel)) ggX8_reclaim_X0_confirm
set_option maxRecDepth 20000 in
theorem ggX8_letter_X6_item : GoodIn wsX8_letter wsX6_item := goodIn_r _ [7, 8, 9, 23, 24] (by decide +kernel) (by decide +kernel)
set_option maxRecDepth 20000 in
theorem gX8_letter_X6_item : GoodIn wsX8_letter (wsV RX8 95 RX6 yX6_item wsX6_item) := goodIn_app (goodIn_of _ (by decide +kernel)) ggX8_letter_X6_item
set_option maxRecDepth 20000 in
theorem ggX8_of_X4_find : GoodIn wsX8_of wsX4_find := goodIn_r _ [13, 14, 15, 94, 95, 96, 97, 98, 99] (by decide +kernel) (by decide +kernel)
set_option maxRecDepth 20000 in
theorem gX8_of_X4_find : GoodIn wsX8_of (wsV RX8 98 RX4 yX4_find wsX4_find) := goodIn_app (goodIn_of _ (by decide +kernel)) ggX8_of_X4_find
set_option maxRecDepth 20000 in
theorem ggX8_of_X4_state : GoodIn wsX8_of wsX4_state := goodIn_r _ [19, 20, 21, 10, 11, 12, 13, 14, 15, 22, 23, 24, 25, 26, 27, 28, 29, 30, 31, 32, 33, 34, 35, 36, 37, 38, 39, 40, 41, 42, 43, 44, 45, 46, 47, 48, 49, 50, 51, 52, 53, 84, 85, 86, 87, 94, 95, 96, 97, 98, 99, 88, 89, 90, 91, 92, 93] (by decide +kernel) (by decide +kernel)
set_option maxRecDepth 20000 in
theorem gX8_of_X4_state : GoodIn wsX8_of (wsV RX8 102 RX4 yX4_state wsX4_state) := goodIn_app (goodIn_of _ (by decide +kernel)) ggX8_of_X4_state
set_option maxRecDepth 20000 in
theorem ggX8_of_X4_root : GoodIn wsX8_of wsX4_root := goodIn_r _ [57, 58, 59, 60, 61, 12, 62, 21, 10, 11, 13, 14, 15, 22, 23, 24, 25, 26, 27, 88, 89, 90, 91, 94, 95, 96, 97, 98, 99] (by decide +kernel) (by decide +kernel)
set_option maxRecDepth 20000 in
theorem gX8_of_X4_root : GoodIn wsX8_of (wsV RX8 105 RX4 yX4_root wsX4_root) := goodIn_app (goodIn_of _ (by decide +kernel)) ggX8_of_X4_root
set_option maxRecDepth 20000 in
theorem ggX8_of_X4_piecesOf : GoodIn wsX8_of wsX4_piecesOf := goodIn_r _ [31, 32, 33, 34, 35, 36, 37, 38, 39, 40, 41, 42, 43, 44, 45, 46, 47, 48, 49, 50, 51, 52, 53, 94, 95, 96, 97, 98, 99, 84, 85, 86, 87, 92, 93] (by decide +kernel) (by decide +kernel)
set_option maxRecDepth 20000 in
theorem gX8_of_X4_piecesOf : GoodIn wsX8_of (wsV RX8 108 RX4 yX4_piecesOf wsX4_piecesOf) := goodIn_app (goodIn_of _ (by decide +kernel)) ggX8_of_X4_piecesOf
set_option maxRecDepth 20000 in
theorem ggX8_of_X2_isReply : GoodIn wsX8_of wsX2_isReply := goodIn_r _ [26, 27, 88, 89, 90, 91] (by decide +kernel) (by decide +kernel)
set_option maxRecDepth 20000 in
theorem gX8_of_X2_isReply : GoodIn wsX8_of (wsV RX8 121 RX2 yX2_isReply wsX2_isReply) := goodIn_app (goodIn_of _ (by decide +kernel)) ggX8_of_X2_isReply
set_option maxRecDepth 20000 in
theorem ggX8_of_X4_family : GoodIn wsX8_of wsX4_family := goodIn_r _ [68, 14, 58, 21, 10, 11, 12, 13, 15, 51, 52, 53, 94, 95, 96, 97, 98, 99, 88, 89, 90, 91] (by decide +kernel) (by decide +kernel)
set_option maxRecDepth 20000 in
theorem gX8_of_X4_family : GoodIn wsX8_of (wsV RX8 141 RX4 yX4_family wsX4_family) := goodIn_app (goodIn_of _ (by decide +kernel)) ggX8_of_X4_family
set_option maxRecDepth 20000 in
theorem ggX8_of_J6_bitCount_0f7a4 : GoodIn wsX8_of wsJ6_bitCount_0f7a4 := goodIn_r _ [72, 73, 74, 75] (by decide +kernel) (by decide +kernel)
set_option maxRecDepth 20000 in
theorem gX8_of_J6_bitCount_0f7a4 : GoodIn wsX8_of (va_wsS RX8 144 yJ6_bitCount_0f7a4 wsJ6_bitCount_0f7a4) := goodIn_app (goodIn_of _ (by decide +kernel)) ggX8_of_J6_bitCount_0f7a4
set_option maxRecDepth 20000 in
theorem ggX8_of_X4_depth : GoodIn wsX8_of wsX4_depth := goodIn_r _ [62, 58, 21, 10, 11, 12, 13, 14, 15, 22, 23, 24, 25, 26, 27, 88, 89, 90, 91, 94, 95, 96, 97, 98, 99] (by decide +kernel) (by decide +kernel)
set_option maxRecDepth 20000 in
theorem gX8_of_X4_depth : GoodIn wsX8_of (wsV RX8 149 RX4 yX4_depth wsX4_depth) := goodIn_app (goodIn_of _ (by decide +kernel)) ggX8_of_X4_depth
set_option maxRecDepth 20000 in
theorem ggX8_word_X4_find : GoodIn wsX8_word wsX4_find := goodIn_r _ [7, 8, 9, 34, 35, 36, 37, 38, 39] (by decide +kernel) (by decide +kernel)
set_option maxRecDepth 20000 in
theorem gX8_word_X4_find : GoodIn wsX8_word (wsV RX8 98 RX4 yX4_find wsX4_find) := goodIn_app (goodIn_of _ (by decide +kernel)) ggX8_word_X4_find
set_option maxRecDepth 20000 in
theorem ggX8_word_X2_isReply : GoodIn wsX8_word wsX2_isReply := goodIn_r _ [14, 15, 30, 31, 32, 33] (by decide +kernel) (by decide +kernel)
set_option maxRecDepth 20000 in
theorem gX8_word_X2_isReply : GoodIn wsX8_word (wsV RX8 121 RX2 yX2_isReply wsX2_isReply) := goodIn_app (goodIn_of _ (by decide +kernel)) ggX8_word_X2_isReply
set_option maxRecDepth 20000 in
theorem ggX8_word_X6_item : GoodIn wsX8_word wsX6_item := goodIn_r _ [20, 21, 22, 40, 41] (by decide +kernel) (by decide +kernel)
set_option maxRecDepth 20000 in
theorem gX8_word_X6_item : GoodIn wsX8_word (wsV RX8 95 RX6 yX6_item wsX6_item) := goodIn_app (goodIn_of _ (by decide +kernel)) ggX8_word_X6_item
set_option maxRecDepth 20000 in
theorem ggX8_at_X6_item : GoodIn wsX8_at wsX6_item := goodIn_r _ [7, 8, 9, 23, 24] (by decide +kernel) (by decide +kernel)
set_option maxRecDepth 20000 in
theorem gX8_at_X6_item : GoodIn wsX8_at (wsV RX8 95 RX6 yX6_item wsX6_item) := goodIn_app (goodIn_of _ (by decide +kernel)) ggX8_at_X6_item
set_option maxRecDepth 20000 in
theorem ggX8_printed_X4_find : GoodIn wsX8_printed wsX4_find := goodIn_r _ [10, 11, 12, 98, 99, 100, 101, 102, 103] (by decide +kernel) (by decide +kernel)
set_option maxRecDepth 20000 in
theorem gX8_printed_X4_find : GoodIn wsX8_printed (wsV RX8 98 RX4 yX4_find wsX4_find) := goodIn_app (goodIn_of _ (by decide +kernel)) ggX8_printed_X4_find
set_option maxRecDepth 20000 in
theorem ggX8_printed_X6_item : GoodIn wsX8_printed wsX6_item := goodIn_r _ [17, 18, 19, 111, 112] (by decide +kernel) (by decide +kernel)
set_option maxRecDepth 20000 in
theorem gX8_printed_X6_item : GoodIn wsX8_printed (wsV RX8 95 RX6 yX6_item wsX6_item) := goodIn_app (goodIn_of _ (by decide +kernel)) ggX8_printed_X6_item
set_option maxRecDepth 20000 in
theorem ggX8_printed_X1_layOut : GoodIn wsX8_printed wsX1_layOut := goodIn_r _ [24, 25, 26, 27, 28, 29, 30, 31, 32, 33, 34, 23, 35, 36, 37, 38, 39, 40, 41, 42, 16, 43, 18, 44, 45, 46, 47, 19, 48, 49, 50, 9, 51, 52, 53, 54, 55, 56, 57, 58, 59, 60, 61, 62, 63, 64, 14, 15, 17, 65, 66, 67, 68, 69, 70, 71, 72, 73, 74, 75, 76, 77, 78, 79, 80, 81, 82, 83, 84, 85, 86, 87, 88, 89, 90, 98, 99, 100, 101, 102, 103, 104, 105, 106, 107, 108, 109, 110, 113, 114, 115, 116, 111, 112] (by decide +kernel) (by decide +kernel)
set_option maxRecDepth 20000 in
theorem gX8_printed_X1_layOut : GoodIn wsX8_printed (wsV RX8 158 RX1 yX1_layOut wsX1_layOut) := goodIn_app (goodIn_of _ (by decide +kernel)) ggX8_printed_X1_layOut
set_option maxRecDepth 20000 in
theorem ggX8_count_X4_countState : GoodIn wsX8_count wsX4_countState := goodIn_r _ [16, 17, 18, 19, 20, 15, 21, 22, 23, 24, 25, 26, 27, 28, 29, 30, 31, 32, 33, 34, 35, 36, 37, 38, 39, 40, 41, 42, 43, 44, 45, 46, 47, 48, 49, 50, 51, 52, 53, 54, 55, 56, 57, 58, 59, 132, 133, 134, 135, 136, 137, 149, 150, 151, 152, 153, 154, 155, 156, 138, 139] (by decide +kernel) (by decide +kernel)
set_option maxRecDepth 20000 in
theorem gX8_count_X4_countState : GoodIn wsX8_count (wsV RX8 171 RX4 yX4_countState wsX4_countState) := goodIn_app (goodIn_of _ (by decide +kernel)) ggX8_count_X4_countState
set_option maxRecDepth 20000 in
theorem ggX8_count_X4_countParted : GoodIn wsX8_count wsX4_countParted := goodIn_r _ [63, 17, 64, 34, 35, 36, 15, 37, 38, 39, 40, 41, 42, 43, 44, 45, 46, 47, 48, 49, 50, 51, 52, 53, 54, 55, 56, 57, 58, 59, 132, 133, 134, 135, 136, 137, 149, 150, 151, 152, 138, 139] (by decide +kernel) (by decide +kernel)
set_option maxRecDepth 20000 in
theorem gX8_count_X4_countParted : GoodIn wsX8_count (wsV RX8 174 RX4 yX4_countParted wsX4_countParted) := goodIn_app (goodIn_of _ (by decide +kernel)) ggX8_count_X4_countParted
set_option maxRecDepth 20000 in
theorem ggX8_count_X4_countLines : GoodIn wsX8_count wsX4_countLines := goodIn_r _ [68, 69, 70, 71, 72, 73, 15, 74, 75, 76, 51, 52, 53, 54, 55, 56, 132, 133, 134, 135, 136, 137, 138, 139] (by decide +kernel) (by decide +kernel)
set_option maxRecDepth 20000 in
theorem gX8_count_X4_countLines : GoodIn wsX8_count (wsV RX8 178 RX4 yX4_countLines wsX4_countLines) := goodIn_app (goodIn_of _ (by decide +kernel)) ggX8_count_X4_countLines
set_option maxRecDepth 20000 in
theorem ggX8_count_X6_item : GoodIn wsX8_count wsX6_item := goodIn_r _ [54, 55, 56, 138, 139] (by decide +kernel) (by decide +kernel)
set_option maxRecDepth 20000 in
theorem gX8_count_X6_item : GoodIn wsX8_count (wsV RX8 95 RX6 yX6_item wsX6_item) := goodIn_app (goodIn_of _ (by decide +kernel)) ggX8_count_X6_item
set_option maxRecDepth 20000 in
theorem ggX8_count_X1_layOut : GoodIn wsX8_count wsX1_layOut := goodIn_r _ [82, 83, 84, 85, 86, 87, 88, 89, 90, 91, 92, 81, 93, 94, 95, 96, 97, 98, 99, 100, 53, 101, 55, 102, 103, 104, 105, 56, 106, 35, 36, 15, 37, 38, 39, 40, 41, 42, 43, 44, 45, 46, 47, 48, 49, 50, 51, 52, 54, 57, 58, 59, 107, 108, 72, 73, 74, 75, 76, 109, 110, 111, 112, 113, 114, 115, 116, 117, 118, 119, 120, 121, 122, 123, 124, 132, 133, 134, 135, 136, 137, 140, 141, 142, 143, 144, 145, 146, 149, 150, 151, 152, 138, 139] (by decide +kernel) (by decide +kernel)
set_option maxRecDepth 20000 in
theorem gX8_count_X1_layOut : GoodIn wsX8_count (wsV RX8 158 RX1 yX1_layOut wsX1_layOut) := goodIn_app (goodIn_of _ (by decide +kernel)) ggX8_count_X1_layOut
set_option maxRecDepth 20000 in
theorem ggX8_orphansIf_X4_orphanedBy : GoodIn wsX8_orphansIf wsX4_orphanedBy := goodIn_r _ [6, 7, 8, 9, 10, 11, 5, 12, 13, 14, 15, 16, 17, 18, 19, 20, 21, 22, 23, 24, 32, 33, 34, 35, 36, 37, 38, 39] (by decide +kernel) (by decide +kernel)
set_option maxRecDepth 20000 in
theorem gX8_orphansIf_X4_orphanedBy : GoodIn wsX8_orphansIf (wsV RX8 190 RX4 yX4_orphanedBy wsX4_orphanedBy) := goodIn_app (goodIn_of _ (by decide +kernel)) ggX8_orphansIf_X4_orphanedBy
set_option maxRecDepth 20000 in
theorem ggX8_could_X4_find : GoodIn wsX8_could wsX4_find := goodIn_r _ [11, 12, 13, 76, 77, 78, 79, 80, 81] (by decide +kernel) (by decide +kernel)
set_option maxRecDepth 20000 in
theorem gX8_could_X4_find : GoodIn wsX8_could (wsV RX8 98 RX4 yX4_find wsX4_find) := goodIn_app (goodIn_of _ (by decide +kernel)) ggX8_could_X4_find
set_option maxRecDepth 20000 in
theorem ggX8_could_X4_state : GoodIn wsX8_could wsX4_state := goodIn_r _ [17, 18, 19, 8, 9, 10, 11, 12, 13, 20, 21, 22, 23, 24, 25, 26, 27, 28, 29, 30, 31, 32, 33, 34, 35, 36, 37, 38, 39, 40, 41, 42, 43, 44, 45, 46, 47, 48, 49, 50, 51, 85, 86, 87, 88, 76, 77, 78, 79, 80, 81, 89, 90, 91, 92, 93, 94] (by decide +kernel) (by decide +kernel)
set_option maxRecDepth 20000 in
theorem gX8_could_X4_state : GoodIn wsX8_could (wsV RX8 102 RX4 yX4_state wsX4_state) := goodIn_app (goodIn_of _ (by decide +kernel)) ggX8_could_X4_state
set_option maxRecDepth 20000 in
theorem ggX8_could_X7_look : GoodIn wsX8_could wsX7_look := goodIn_r _ [56, 57, 58, 59, 60, 61, 62, 63, 64, 65, 66, 45, 67, 47, 68, 43, 44, 46, 48, 82, 83, 84, 89, 90, 91, 92, 93, 94] (by decide +kernel) (by decide +kernel)
set_option maxRecDepth 20000 in
theorem gX8_could_X7_look : GoodIn wsX8_could (wsV RX8 193 RX7 yX7_look wsX7_look) := goodIn_app (goodIn_of _ (by decide +kernel)) ggX8_could_X7_look
set_option maxRecDepth 20000 in
theorem ggX8_leastRoom_X1_layOut : GoodIn wsX8_leastRoom wsX1_layOut := goodIn_r _ [8, 9, 10, 11, 12, 13, 14, 15, 16, 17, 18, 7, 19, 20, 21, 22, 23, 24, 25, 26, 27, 28, 29, 30, 31, 32, 33, 34, 35, 36, 37, 38, 39, 40, 41, 42, 43, 44, 45, 46, 47, 48, 49, 50, 51, 52, 53, 54, 55, 56, 57, 58, 59, 60, 61, 62, 63, 64, 65, 66, 67, 68, 69, 70, 71, 72, 73, 74, 75, 76, 77, 78, 79, 80, 81, 96, 97, 98, 99, 100, 101, 89, 90, 91, 92, 93, 94, 95, 102, 103, 104, 105, 106, 107] (by decide +kernel) (by decide +kernel)
set_option maxRecDepth 20000 in
theorem gX8_leastRoom_X1_layOut : GoodIn wsX8_leastRoom (wsV RX8 158 RX1 yX1_layOut wsX1_layOut) := goodIn_app (goodIn_of _ (by decide +kernel)) ggX8_leastRoom_X1_layOut
set_option maxRecDepth 20000 in
theorem ggX8_put_X8_countCharacters : GoodIn wsX8_put wsX8_countCharacters := goodIn_r _ [7, 3] (by decide +kernel) (by decide +kernel)
set_option maxRecDepth 20000 in
theorem gX8_put_X8_countCharacters : GoodIn wsX8_put (va_wsS RX8 209 yX8_countCharacters wsX8_countCharacters) := goodIn_app (goodIn_of _ (by decide +kernel)) ggX8_put_X8_countCharacters
set_option maxRecDepth 20000 in
theorem ggX8_put_X6_add : GoodIn wsX8_put wsX6_add := goodIn_r _ [12, 13, 14, 22, 23] (by decide +kernel) (by decide +kernel)
set_option maxRecDepth 20000 in
theorem gX8_put_X6_add : GoodIn wsX8_put (wsV RX8 215 RX6 yX6_add wsX6_add) := goodIn_app (goodIn_of _ (by decide +kernel)) ggX8_put_X6_add
set_option maxRecDepth 20000 in
theorem ggX8_wipe_X6_clear : GoodIn wsX8_wipe wsX6_clear := goodIn_r _ [7, 8, 16, 17] (by decide +kernel) (by decide +kernel)
set_option maxRecDepth 20000 in
theorem gX8_wipe_X6_clear : GoodIn wsX8_wipe (wsV RX8 218 RX6 yX6_clear wsX6_clear) := goodIn_app (goodIn_of _ (by decide +kernel)) ggX8_wipe_X6_clear
set_option maxRecDepth 20000 in
theorem ggX8_fault_X3_findFault : GoodIn wsX8_fault wsX3_findFault := goodIn_r _ [7, 8, 9, 10, 11, 12, 6, 13, 14, 15, 16, 17, 18, 19, 20, 21, 22, 23, 24, 25, 26, 27, 28, 29, 30, 31, 32, 33, 34, 35, 36, 37, 38, 39, 40, 41, 42, 43, 44, 45, 46, 47, 48, 49, 50, 51, 52, 53, 61, 62, 63, 64, 65, 66] (by decide +kernel) (by decide +kernel)
set_option maxRecDepth 20000 in
theorem gX8_fault_X3_findFault : GoodIn wsX8_fault (wsV RX8 221 RX3 yX3_findFault wsX3_findFault) := goodIn_app (goodIn_of _ (by decide +kernel)) ggX8_fault_X3_findFault
set_option maxRecDepth 20000 in
theorem ggX8_carryOut_X3_findFault : GoodIn wsX8_carryOut wsX3_findFault := goodIn_r _ [9, 10, 11, 12, 13, 14, 8, 15, 16, 17, 18, 19, 20, 21, 22, 23, 24, 25, 26, 27, 28, 29, 30, 31, 32, 33, 34, 35, 36, 37, 38, 39, 40, 41, 42, 43, 44, 45, 46, 47, 48, 49, 50, 51, 52, 53, 54, 55, 315, 316, 317, 318, 319, 320] (by decide +kernel) (by decide +kernel)
set_option maxRecDepth 20000 in
theorem gX8_carryOut_X3_findFault : GoodIn wsX8_carryOut (wsV RX8 221 RX3 yX3_findFault wsX3_findFault) := goodIn_app (goodIn_of _ (by decide +kernel)) ggX8_carryOut_X3_findFault
set_option maxRecDepth 20000 in
theorem ggX8_carryOut_X0_keep : GoodIn wsX8_carryOut wsX0_keep := goodIn_r _ [60, 61, 62, 63, 64, 65, 66, 67, 68, 69, 70, 71, 72, 73, 25, 74, 75, 76, 77, 78, 79, 80, 81, 82, 83, 84, 85, 86, 87, 88, 89, 28, 90, 91, 92, 93, 41, 42, 43, 27, 94, 95, 96, 97, 98, 99, 100, 101, 102, 103, 104, 105, 106, 107, 108, 109, 110, 111, 112, 113, 114, 115, 116, 117, 118, 119, 120, 121, 122, 123, 124, 125, 126, 127, 128, 321, 322, 323, 324, 325, 326, 327, 328, 319, 320, 329, 330, 331, 332, 333, 334, 335, 336] (by decide +kernel) (by decide +kernel)
set_option maxRecDepth 20000 in
theorem gX8_carryOut_X0_keep : GoodIn wsX8_carryOut (wsV RX8 57 RX0 yX0_keep wsX0_keep) := goodIn_app (goodIn_of _ (by decide +kernel)) ggX8_carryOut_X0_keep
set_option maxRecDepth 20000 in
theorem ggX8_carryOut_X3_start : GoodIn wsX8_carryOut wsX3_start := goodIn_r _ [15, 10, 315, 316, 317, 318] (by decide +kernel) (by decide +kernel)
set_option maxRecDepth 20000 in
theorem gX8_carryOut_X3_start : GoodIn wsX8_carryOut (wsV RX8 225 RX3 yX3_start wsX3_start) := goodIn_app (goodIn_of _ (by decide +kernel)) ggX8_carryOut_X3_start
set_option maxRecDepth 20000 in
theorem ggX8_carryOut_X3_readOrder : GoodIn wsX8_carryOut wsX3_readOrder := goodIn_r _ [19, 10, 20, 21, 22, 23, 24, 25, 26, 27, 28, 29, 30, 31, 32, 33, 34, 35, 8, 36, 37, 38, 39, 40, 41, 42, 43, 44, 45, 46, 47, 48, 49, 50, 51, 52, 11, 53, 54, 55, 315, 316, 317, 318, 319, 320] (by decide +kernel) (by decide +kernel)
set_option maxRecDepth 20000 in
theorem gX8_carryOut_X3_readOrder : GoodIn wsX8_carryOut (wsV RX8 228 RX3 yX3_readOrder wsX3_readOrder) := goodIn_app (goodIn_of _ (by decide +kernel)) ggX8_carryOut_X3_readOrder
set_option maxRecDepth 20000 in
theorem ggX8_carryOut_X8_obey : GoodIn wsX8_carryOut wsX8_obey := goodIn_r _ [135, 1, 136, 137, 4, 138, 139, 23, 24, 25, 26, 27, 28, 140, 141, 142, 134, 143, 144, 145, 2, 146, 147, 148, 65, 149, 75, 150, 76, 151, 152, 153, 154, 116, 117, 118, 119, 155, 156, 157, 158, 159, 160, 161, 162, 163, 164, 165, 166, 167, 168, 169, 170, 171, 172, 173, 174, 175, 176, 177, 178, 179, 180, 181, 182, 183, 184, 185, 186, 187, 188, 189, 190, 191, 192, 193, 194, 195, 196, 197, 198, 199, 200, 201, 202, 203, 107, 204, 205, 206, 207, 208, 82, 209, 210, 211, 81, 212, 213, 214, 215, 216, 217, 218, 219, 220, 221, 222, 223, 224, 225, 226, 227, 228, 74, 120, 121, 122, 123, 78, 229, 230, 231, 84, 232, 97, 99, 100, 101, 233, 234, 235, 236, 237, 30, 31, 32, 238, 239, 41, 42, 43, 240, 241, 242, 243, 244, 245, 246, 247, 248, 249, 250, 251, 252, 253, 254, 255, 256, 257, 258, 259, 260, 261, 262, 263, 264, 265, 266, 267, 268, 269, 270, 271, 272, 273, 274, 275, 276, 277, 278, 279, 280, 281, 282, 283, 284, 285, 286, 287, 288, 289, 290, 291, 292, 293, 294, 295, 296, 297, 308, 309, 310, 311, 312, 313, 314, 315, 316, 317, 318, 319, 320, 323, 324, 325, 326, 327, 328, 329, 330, 331, 332, 333, 334, 335, 336, 337, 338, 339] (by decide +kernel) (by decide +kernel)
set_option maxRecDepth 20000 in
theorem gX8_carryOut_X8_obey : GoodIn wsX8_carryOut (wsV RX8 232 RX8 yX8_obey wsX8_obey) := goodIn_app (goodIn_of _ (by decide +kernel)) ggX8_carryOut_X8_obey
set_option maxRecDepth 20000 in
theorem ggX8_carryOut_X3_skip : GoodIn wsX8_carryOut wsX3_skip := goodIn_r _ [47, 10, 22, 23, 24, 25, 26, 27, 28, 315, 316, 317, 318, 319, 320] (by decide +kernel) (by decide +kernel)
set_option maxRecDepth 20000 in
theorem gX8_carryOut_X3_skip : GoodIn wsX8_carryOut (wsV RX8 235 RX3 yX3_skip wsX3_skip) := goodIn_app (goodIn_of _ (by decide +kernel)) ggX8_carryOut_X3_skip
set_option maxRecDepth 20000 in
theorem ggX8_carryOut_X6_clear : GoodIn wsX8_carryOut wsX6_clear := goodIn_r _ [32, 27, 319, 320] (by decide +kernel) (by decide +kernel)
set_option maxRecDepth 20000 in
theorem gX8_carryOut_X6_clear : GoodIn wsX8_carryOut (wsV RX8 218 RX6 yX6_clear wsX6_clear) := goodIn_app (goodIn_of _ (by decide +kernel)) ggX8_carryOut_X6_clear
set_option maxRecDepth 20000 in
theorem ggX8_carryOut_X0_confirm : GoodIn wsX8_carryOut wsX0_confirm := goodIn_r _ [303, 61, 304, 305, 306, 59, 307, 62, 321, 322] (by decide +kernel) (by decide +kernel)
set_option maxRecDepth 20000 in
theorem gX8_carryOut_X0_confirm : GoodIn wsX8_carryOut (wsV RX8 65 RX0 yX0_confirm wsX0_confirm) := goodIn_app (goodIn_of _ (by decide +kernel)) ggX8_carryOut_X0_confirm
set_option maxRecDepth 20000 in
theorem ggX8_undo_X0_goBack : GoodIn wsX8_undo wsX0_goBack := goodIn_r _ [8, 9, 10, 11, 12, 13, 14, 15, 16, 17, 18, 19, 20, 21, 22, 23, 24, 25, 26, 27, 28, 29, 30, 31, 32, 33, 34, 35, 36, 37, 38, 39, 40, 41, 42, 43, 44, 45, 46, 47, 48, 49, 57, 58, 59, 60, 61, 62, 63, 64, 65, 66, 67, 68, 69, 70] (by decide +kernel) (by decide +kernel)
set_option maxRecDepth 20000 in
theorem gX8_undo_X0_goBack : GoodIn wsX8_undo (wsV RX8 239 RX0 yX0_goBack wsX0_goBack) := goodIn_app (goodIn_of _ (by decide +kernel)) ggX8_undo_X0_goBack
set_option maxRecDepth 20000 in
theorem ggX8_save_X4_init : GoodIn wsX8_save wsX4_init := goodIn_r _ [10, 11, 12, 13, 14, 15, 16, 17, 18, 19, 20, 21, 22, 23, 24, 25, 26, 27, 28, 29, 30, 31, 32, 33, 34, 35, 36, 37, 38, 39, 40, 41, 42, 43, 44, 45, 46, 47, 48, 49, 50, 90, 91, 84, 85, 86, 87, 88, 89, 92, 93, 94, 95, 96, 97, 98, 99] (by decide +kernel) (by decide +kernel)
set_option maxRecDepth 20000 in
theorem gX8_save_X4_init : GoodIn wsX8_save (wsX4_init) := ggX8_save_X4_init
set_option maxRecDepth 20000 in
theorem ggX8_save_X4_copyFrom : GoodIn wsX8_save wsX4_copyFrom := goodIn_r _ [54, 17, 18, 19, 55, 56, 57, 58, 16, 59, 41, 33, 60, 61, 62, 63, 64, 65, 66, 67, 68, 69, 70, 4, 71, 21, 72, 73, 74, 27, 75, 45, 47, 48, 49, 76, 84, 85, 86, 87, 88, 89, 90, 91, 96, 97, 98, 99] (by decide +kernel) (by decide +kernel)
set_option maxRecDepth 20000 in
theorem gX8_save_X4_copyFrom : GoodIn wsX8_save (wsV RX8 243 RX4 yX4_copyFrom wsX4_copyFrom) := goodIn_app (goodIn_of _ (by decide +kernel)) ggX8_save_X4_copyFrom
set_option maxRecDepth 20000 in
theorem ggX8_restore_X0_keep : GoodIn wsX8_restore wsX0_keep := goodIn_r _ [10, 11, 12, 13, 14, 15, 16, 17, 18, 19, 20, 21, 22, 23, 24, 25, 26, 27, 28, 29, 30, 31, 32, 33, 34, 35, 36, 37, 38, 39, 40, 41, 42, 43, 44, 45, 46, 47, 48, 49, 50, 51, 52, 53, 54, 55, 56, 57, 58, 59, 60, 61, 62, 63, 64, 65, 66, 67, 68, 69, 70, 71, 72, 73, 74, 75, 76, 77, 78, 79, 80, 81, 82, 83, 84, 109, 110, 101, 102, 103, 104, 105, 106, 107, 108, 111, 112, 113, 114, 115, 116, 117, 118] (by decide +kernel) (by decide +kernel)
set_option maxRecDepth 20000 in
theorem gX8_restore_X0_keep : GoodIn wsX8_restore (wsV RX8 57 RX0 yX0_keep wsX0_keep) := goodIn_app (goodIn_of _ (by decide +kernel)) ggX8_restore_X0_keep
set_option maxRecDepth 20000 in
theorem ggX8_restore_X4_copyFrom : GoodIn wsX8_restore wsX4_copyFrom := goodIn_r _ [62, 25, 26, 27, 63, 64, 65, 66, 24, 67, 49, 41, 68, 69, 70, 71, 72, 73, 74, 75, 76, 77, 78, 15, 79, 29, 80, 81, 82, 35, 83, 53, 55, 56, 57, 84, 101, 102, 103, 104, 105, 106, 107, 108, 115, 116, 117, 118] (by decide +kernel) (by decide +kernel)
set_option maxRecDepth 20000 in
theorem gX8_restore_X4_copyFrom : GoodIn wsX8_restore (wsV RX8 243 RX4 yX4_copyFrom wsX4_copyFrom) := goodIn_app (goodIn_of _ (by decide +kernel)) ggX8_restore_X4_copyFrom
set_option maxRecDepth 20000 in
theorem ggX8_restore_X0_confirm : GoodIn wsX8_restore wsX0_confirm := goodIn_r _ [89, 11, 90, 91, 92, 9, 93, 12, 109, 110] (by decide +kernel) (by decide +kernel)
set_option maxRecDepth 20000 in
theorem gX8_restore_X0_confirm : GoodIn wsX8_restore (wsV RX8 65 RX0 yX0_confirm wsX0_confirm) := goodIn_app (goodIn_of _ (by decide +kernel)) ggX8_restore_X0_confirm
set_option maxRecDepth 20000 in
theorem ggX8_obey_X6_item : GoodIn wsX8_obey wsX6_item := goodIn_r _ [10, 11, 12, 211, 212] (by decide +kernel) (by decide +kernel)
set_option maxRecDepth 20000 in
theorem gX8_obey_X6_item : GoodIn wsX8_obey (wsV RX8 95 RX6 yX6_item wsX6_item) := goodIn_app (goodIn_of _ (by decide +kernel)) ggX8_obey_X6_item
set_option maxRecDepth 20000 in
theorem ggX8_obey_X8_writeRow : GoodIn wsX8_obey wsX8_writeRow := goodIn_r _ [17, 1, 18, 19, 4, 20, 6, 7, 8, 9, 10, 11, 12, 21, 22, 23, 24, 25, 26, 27, 28, 29, 30, 31, 32, 33, 34, 35, 36, 200, 201, 202, 203, 204, 205, 206, 207, 208, 209, 210, 211, 212, 213, 214, 215, 216, 217, 218] (by decide +kernel) (by decide +kernel)
set_option maxRecDepth 20000 in
theorem gX8_obey_X8_writeRow : GoodIn wsX8_obey (wsV RX8 252 RX8 yX8_writeRow wsX8_writeRow) := goodIn_app (goodIn_of _ (by decide +kernel)) ggX8_obey_X8_writeRow
set_option maxRecDepth 20000 in
theorem ggX8_obey_X4_eraseLetters : GoodIn wsX8_obey wsX4_eraseLetters := goodIn_r _ [40, 26, 28, 41, 42, 43, 24, 44, 27, 45, 46, 47, 48, 49, 50, 51, 9, 52, 11, 12, 53, 7, 8, 10, 54, 55, 56, 57, 33, 34, 35, 36, 58, 59, 60, 61, 62, 63, 64, 65, 213, 214, 215, 216, 217, 218, 211, 212] (by decide +kernel) (by decide +kernel)
set_option maxRecDepth 20000 in
theorem gX8_obey_X4_eraseLetters : GoodIn wsX8_obey (wsV RX8 72 RX4 yX4_eraseLetters wsX4_eraseLetters) := goodIn_app (goodIn_of _ (by decide +kernel)) ggX8_obey_X4_eraseLetters
set_option maxRecDepth 20000 in
theorem ggX8_obey_X4_moveLetters : GoodIn wsX8_obey wsX4_moveLetters := goodIn_r _ [69, 26, 27, 28, 45, 46, 47, 24, 48, 49, 50, 51, 9, 52, 11, 12, 70, 71, 72, 73, 74, 75, 76, 77, 78, 79, 80, 81, 58, 82, 83, 84, 85, 86, 87, 88, 89, 90, 91, 92, 93, 94, 95, 96, 97, 98, 99, 100, 101, 102, 103, 7, 8, 10, 104, 16, 105, 213, 214, 215, 216, 217, 218, 211, 212, 219, 220, 221, 222] (by decide +kernel) (by decide +kernel)
set_option maxRecDepth 20000 in
theorem gX8_obey_X4_moveLetters : GoodIn wsX8_obey (wsV RX8 75 RX4 yX4_moveLetters wsX4_moveLetters) := goodIn_app (goodIn_of _ (by decide +kernel)) ggX8_obey_X4_moveLetters
set_option maxRecDepth 20000 in
theorem ggX8_obey_X4_addNote : GoodIn wsX8_obey wsX4_addNote := goodIn_r _ [109, 86, 45, 46, 47, 24, 48, 26, 49, 50, 51, 9, 52, 11, 12, 110, 111, 112, 113, 114, 28, 27, 115, 116, 117, 118, 119, 53, 7, 8, 10, 120, 121, 122, 123, 124, 125, 126, 127, 128, 129, 130, 131, 132, 133, 134, 135, 136, 58, 137, 138, 139, 140, 141, 142, 143, 144, 145, 213, 214, 215, 216, 217, 218, 211, 212, 223, 224, 225, 226] (by decide +kernel) (by decide +kernel)
set_option maxRecDepth 20000 in
theorem gX8_obey_X4_addNote : GoodIn wsX8_obey (wsV RX8 79 RX4 yX4_addNote wsX4_addNote) := goodIn_app (goodIn_of _ (by decide +kernel)) ggX8_obey_X4_addNote
set_option maxRecDepth 20000 in
theorem ggX8_obey_X4_addReply : GoodIn wsX8_obey wsX4_addReply := goodIn_r _ [149, 86, 115, 116, 117, 24, 118, 119, 150, 151, 152, 123, 153, 125, 126, 127, 128, 154, 134, 135, 9, 136, 11, 213, 214, 215, 216, 217, 218, 223, 224, 225, 226, 211, 212] (by decide +kernel) (by decide +kernel)
set_option maxRecDepth 20000 in
theorem gX8_obey_X4_addReply : GoodIn wsX8_obey (wsV RX8 82 RX4 yX4_addReply wsX4_addReply) := goodIn_app (goodIn_of _ (by decide +kernel)) ggX8_obey_X4_addReply
set_option maxRecDepth 20000 in
theorem ggX8_obey_X4_dropFamily : GoodIn wsX8_obey wsX4_dropFamily := goodIn_r _ [158, 86, 115, 116, 117, 24, 118, 119, 159, 160, 161, 162, 163, 104, 16, 105, 164, 165, 166, 167, 28, 27, 53, 7, 8, 9, 10, 11, 12, 142, 143, 144, 145, 58, 50, 51, 52, 59, 60, 61, 62, 63, 64, 65, 213, 214, 215, 216, 217, 218, 223, 224, 225, 226, 211, 212] (by decide +kernel) (by decide +kernel)
set_option maxRecDepth 20000 in
theorem gX8_obey_X4_dropFamily : GoodIn wsX8_obey (wsV RX8 85 RX4 yX4_dropFamily wsX4_dropFamily) := goodIn_app (goodIn_of _ (by decide +kernel)) ggX8_obey_X4_dropFamily
set_option maxRecDepth 20000 in
theorem ggX8_obey_X4_reclaimNote : GoodIn wsX8_obey wsX4_reclaimNote := goodIn_r _ [171, 26, 172, 173, 174, 27, 115, 116, 117, 24, 118, 86, 119, 175, 176, 177, 178, 179, 180, 181, 182, 123, 183, 125, 88, 89, 90, 91, 92, 28, 93, 94, 95, 96, 97, 98, 99, 100, 101, 102, 103, 7, 8, 9, 10, 11, 12, 104, 16, 105, 184, 185, 186, 187, 188, 189, 190, 191, 192, 193, 194, 195, 196, 197, 198, 199, 137, 110, 111, 112, 113, 114, 53, 120, 121, 122, 124, 126, 127, 128, 129, 130, 131, 132, 133, 134, 135, 136, 58, 50, 51, 52, 138, 139, 140, 141, 142, 143, 144, 145, 213, 214, 215, 216, 217, 218, 227, 228, 229, 223, 224, 225, 226, 211, 212, 219, 220, 221, 222] (by decide +kernel) (by decide +kernel)
set_option maxRecDepth 20000 in
theorem gX8_obey_X4_reclaimNote : GoodIn wsX8_obey (wsV RX8 88 RX4 yX4_reclaimNote wsX4_reclaimNote) := goodIn_app (goodIn_of _ (by decide +kernel)) ggX8_obey_X4_reclaimNote
set_option maxRecDepth 20000 in
theorem ggX8_writeRow_X6_item : GoodIn wsX8_writeRow wsX6_item := goodIn_r _ [10, 11, 12, 40, 41] (by decide +kernel) (by decide +kernel)
set_option maxRecDepth 20000 in
theorem gX8_writeRow_X6_item : GoodIn wsX8_writeRow (wsV RX8 95 RX6 yX6_item wsX6_item) := goodIn_app (goodIn_of _ (by decide +kernel)) ggX8_writeRow_X6_item
set_option maxRecDepth 20000 in
theorem ggX8_writeRow_X4_writeLetter : GoodIn wsX8_writeRow wsX4_writeLetter := goodIn_r _ [17, 18, 19, 20, 21, 22, 23, 9, 24, 11, 12, 25, 26, 27, 28, 42, 43, 44, 45, 46, 47, 40, 41] (by decide +kernel) (by decide +kernel)
set_option maxRecDepth 20000 in
theorem gX8_writeRow_X4_writeLetter : GoodIn wsX8_writeRow (wsV RX8 69 RX4 yX4_writeLetter wsX4_writeLetter) := goodIn_app (goodIn_of _ (by decide +kernel)) ggX8_writeRow_X4_writeLetter
theorem dX8_init_0 : decode cX8_init 0 = .ok (.aload_n 0, 1) := by decide +kernel
theorem dX8_init_1 : decode cX8_init 1 = .ok (.invokespecial 1, 3) := by decide +kernel
theorem dX8_init_4 : decode cX8_init 4 = .ok (.aload_n 0, 1) := by decide +kernel
theorem dX8_init_5 : decode cX8_init 5 = .ok (.new 7, 3) := by decide +kernel
theorem dX8_init_8 : decode cX8_init 8 = .ok (.dup, 1) := by decide +kernel
theorem dX8_init_9 : decode cX8_init 9 = .ok (.invokespecial 9, 3) := by decide +kernel
theorem dX8_init_12 : decode cX8_init 12 = .ok (.putfield 10, 3) := by decide +kernel
theorem dX8_init_15 : decode cX8_init 15 = .ok (.aload_n 0, 1) := by decide +kernel
theorem dX8_init_16 : decode cX8_init 16 = .ok (.new 16, 3) := by decide +kernel
theorem dX8_init_19 : decode cX8_init 19 = .ok (.dup, 1) := by decide +kernel
theorem dX8_init_20 : decode cX8_init 20 = .ok (.invokespecial 18, 3) := by decide +kernel
theorem dX8_init_23 : decode cX8_init 23 = .ok (.putfield 19, 3) := by decide +kernel
theorem dX8_init_26 : decode cX8_init 26 = .ok (.aload_n 0, 1) := by decide +kernel
theorem dX8_init_27 : decode cX8_init 27 = .ok (.new 23, 3) := by decide +kernel
theorem dX8_init_30 : decode cX8_init 30 = .ok (.dup, 1) := by decide +kernel
theorem dX8_init_31 : decode cX8_init 31 = .ok (.invokespecial 25, 3) := by decide +kernel
theorem dX8_init_34 : decode cX8_init 34 = .ok (.putfield 26, 3) := by decide +kernel
theorem dX8_init_37 : decode cX8_init 37 = .ok (.aload_n 0, 1) := by decide +kernel
theorem dX8_init_38 : decode cX8_init 38 = .ok (.new 30, 3) := by decide +kernel
theorem dX8_init_41 : decode cX8_init 41 = .ok (.dup, 1) := by decide +kernel
theorem dX8_init_42 : decode cX8_init 42 = .ok (.bipush 80, 2) := by decide +kernel
theorem dX8_init_44 : decode cX8_init 44 = .ok (.invokespecial 32, 3) := by decide +kernel
theorem dX8_init_47 : decode cX8_init 47 = .ok (.putfield 35, 3) := by decide +kernel
theorem dX8_init_50 : decode cX8_init 50 = .ok (.aload_n 0, 1) := by decide +kernel
theorem dX8_init_51 : decode cX8_init 51 = .ok (.new 39, 3) := by decide +kernel
theorem dX8_init_54 : decode cX8_init 54 = .ok (.dup, 1) := by decide +kernel
theorem dX8_init_55 : decode cX8_init 55 = .ok (.invokespecial 41, 3) := by decide +kernel
theorem dX8_init_58 : decode cX8_init 58 = .ok (.putfield 42, 3) := by decide +kernel
theorem dX8_init_61 : decode cX8_init 61 = .ok (.aload_n 0, 1) := by decide +kernel
theorem dX8_init_62 : decode cX8_init 62 = .ok (.new 46, 3) := by decide +kernel
theorem dX8_init_65 : decode cX8_init 65 = .ok (.dup, 1) := by decide +kernel
theorem dX8_init_66 : decode cX8_init 66 = .ok (.invokespecial 48, 3) := by decide +kernel
theorem dX8_init_69 : decode cX8_init 69 = .ok (.putfield 49, 3) := by decide +kernel
theorem dX8_init_72 : decode cX8_init 72 = .ok (.aload_n 0, 1) := by decide +kernel
theorem dX8_init_73 : decode cX8_init 73 = .ok (.iconst 2, 1) := by decide +kernel
theorem dX8_init_74 : decode cX8_init 74 = .ok (.anewarray 7, 3) := by decide +kernel
theorem dX8_init_77 : decode cX8_init 77 = .ok (.putfield 53, 3) := by decide +kernel
theorem dX8_init_80 : decode cX8_init 80 = .ok (.return_, 1) := by decide +kernel
theorem dX8_set_0 : decode cX8_set 0 = .ok (.aload_n 0, 1) := by decide +kernel
theorem dX8_set_1 : decode cX8_set 1 = .ok (.getfield 49, 3) := by decide +kernel
theorem dX8_set_4 : decode cX8_set 4 = .ok (.aload_n 0, 1) := by decide +kernel
theorem dX8_set_5 : decode cX8_set 5 = .ok (.getfield 10, 3) := by decide +kernel
theorem dX8_set_8 : decode cX8_set 8 = .ok (.invokevirtual 57, 3) := by decide +kernel
theorem dX8_set_11 : decode cX8_set 11 = .ok (.aload_n 0, 1) := by decide +kernel
theorem dX8_set_12 : decode cX8_set 12 = .ok (.getfield 49, 3) := by decide +kernel
theorem dX8_set_15 : decode cX8_set 15 = .ok (.aload_n 0, 1) := by decide +kernel
theorem dX8_set_16 : decode cX8_set 16 = .ok (.getfield 10, 3) := by decide +kernel
theorem dX8_set_19 : decode cX8_set 19 = .ok (.iload_n 1, 1) := by decide +kernel
theorem dX8_set_20 : decode cX8_set 20 = .ok (.iload_n 2, 1) := by decide +kernel
theorem dX8_set_21 : decode cX8_set 21 = .ok (.invokevirtual 61, 3) := by decide +kernel
theorem dX8_set_24 : decode cX8_set 24 = .ok (.invokevirtual 65, 3) := by decide +kernel
theorem dX8_set_27 : decode cX8_set 27 = .ok (.ireturn, 1) := by decide +kernel
theorem dX8_write_0 : decode cX8_write 0 = .ok (.aload_n 0, 1) := by decide +kernel
theorem dX8_write_1 : decode cX8_write 1 = .ok (.getfield 49, 3) := by decide +kernel
theorem dX8_write_4 : decode cX8_write 4 = .ok (.aload_n 0, 1) := by decide +kernel
theorem dX8_write_5 : decode cX8_write 5 = .ok (.getfield 10, 3) := by decide +kernel
theorem dX8_write_8 : decode cX8_write 8 = .ok (.invokevirtual 57, 3) := by decide +kernel
theorem dX8_write_11 : decode cX8_write 11 = .ok (.aload_n 0, 1) := by decide +kernel
theorem dX8_write_12 : decode cX8_write 12 = .ok (.getfield 49, 3) := by decide +kernel
theorem dX8_write_15 : decode cX8_write 15 = .ok (.aload_n 0, 1) := by decide +kernel
theorem dX8_write_16 : decode cX8_write 16 = .ok (.getfield 10, 3) := by decide +kernel
theorem dX8_write_19 : decode cX8_write 19 = .ok (.iload_n 1, 1) := by decide +kernel
theorem dX8_write_20 : decode cX8_write 20 = .ok (.iload_n 2, 1) := by decide +kernel
theorem dX8_write_21 : decode cX8_write 21 = .ok (.invokevirtual 69, 3) := by decide +kernel
theorem dX8_write_24 : decode cX8_write 24 = .ok (.invokevirtual 65, 3) := by decide +kernel
theorem dX8_write_27 : decode cX8_write 27 = .ok (.ireturn, 1) := by decide +kernel
theorem dX8_erase_0 : decode cX8_erase 0 = .ok (.aload_n 0, 1) := by decide +kernel
theorem dX8_erase_1 : decode cX8_erase 1 = .ok (.getfield 49, 3) := by decide +kernel
theorem dX8_erase_4 : decode cX8_erase 4 = .ok (.aload_n 0, 1) := by decide +kernel
theorem dX8_erase_5 : decode cX8_erase 5 = .ok (.getfield 10, 3) := by decide +kernel
theorem dX8_erase_8 : decode cX8_erase 8 = .ok (.invokevirtual 57, 3) := by decide +kernel
theorem dX8_erase_11 : decode cX8_erase 11 = .ok (.aload_n 0, 1) := by decide +kernel
theorem dX8_erase_12 : decode cX8_erase 12 = .ok (.getfield 49, 3) := by decide +kernel
theorem dX8_erase_15 : decode cX8_erase 15 = .ok (.aload_n 0, 1) := by decide +kernel
theorem dX8_erase_16 : decode cX8_erase 16 = .ok (.getfield 10, 3) := by decide +kernel
theorem dX8_erase_19 : decode cX8_erase 19 = .ok (.iload_n 1, 1) := by decide +kernel
theorem dX8_erase_20 : decode cX8_erase 20 = .ok (.iload_n 2, 1) := by decide +kernel
theorem dX8_erase_21 : decode cX8_erase 21 = .ok (.invokevirtual 72, 3) := by decide +kernel
theorem dX8_erase_24 : decode cX8_erase 24 = .ok (.invokevirtual 65, 3) := by decide +kernel
theorem dX8_erase_27 : decode cX8_erase 27 = .ok (.ireturn, 1) := by decide +kernel
theorem dX8_move_0 : decode cX8_move 0 = .ok (.aload_n 0, 1) := by decide +kernel
theorem dX8_move_1 : decode cX8_move 1 = .ok (.getfield 49, 3) := by decide +kernel
theorem dX8_move_4 : decode cX8_move 4 = .ok (.aload_n 0, 1) := by decide +kernel
theorem dX8_move_5 : decode cX8_move 5 = .ok (.getfield 10, 3) := by decide +kernel
theorem dX8_move_8 : decode cX8_move 8 = .ok (.invokevirtual 57, 3) := by decide +kernel
theorem dX8_move_11 : decode cX8_move 11 = .ok (.aload_n 0, 1) := by decide +kernel
theorem dX8_move_12 : decode cX8_move 12 = .ok (.getfield 49, 3) := by decide +kernel
theorem dX8_move_15 : decode cX8_move 15 = .ok (.aload_n 0, 1) := by decide +kernel
theorem dX8_move_16 : decode cX8_move 16 = .ok (.getfield 10, 3) := by decide +kernel
theorem dX8_move_19 : decode cX8_move 19 = .ok (.iload_n 1, 1) := by decide +kernel
theorem dX8_move_20 : decode cX8_move 20 = .ok (.iload_n 2, 1) := by decide +kernel
theorem dX8_move_21 : decode cX8_move 21 = .ok (.iload_n 3, 1) := by decide +kernel
theorem dX8_move_22 : decode cX8_move 22 = .ok (.invokevirtual 75, 3) := by decide +kernel
theorem dX8_move_25 : decode cX8_move 25 = .ok (.invokevirtual 65, 3) := by decide +kernel
theorem dX8_move_28 : decode cX8_move 28 = .ok (.ireturn, 1) := by decide +kernel
theorem dX8_note_0 : decode cX8_note 0 = .ok (.aload_n 0, 1) := by decide +kernel
theorem dX8_note_1 : decode cX8_note 1 = .ok (.getfield 49, 3) := by decide +kernel
theorem dX8_note_4 : decode cX8_note 4 = .ok (.aload_n 0, 1) := by decide +kernel
theorem dX8_note_5 : decode cX8_note 5 = .ok (.getfield 10, 3) := by decide +kernel
theorem dX8_note_8 : decode cX8_note 8 = .ok (.invokevirtual 57, 3) := by decide +kernel
theorem dX8_note_11 : decode cX8_note 11 = .ok (.aload_n 0, 1) := by decide +kernel
theorem dX8_note_12 : decode cX8_note 12 = .ok (.getfield 49, 3) := by decide +kernel
theorem dX8_note_15 : decode cX8_note 15 = .ok (.aload_n 0, 1) := by decide +kernel
theorem dX8_note_16 : decode cX8_note 16 = .ok (.getfield 10, 3) := by decide +kernel
theorem dX8_note_19 : decode cX8_note 19 = .ok (.iload_n 1, 1) := by decide +kernel
theorem dX8_note_20 : decode cX8_note 20 = .ok (.iload_n 2, 1) := by decide +kernel
theorem dX8_note_21 : decode cX8_note 21 = .ok (.invokevirtual 79, 3) := by decide +kernel
theorem dX8_note_24 : decode cX8_note 24 = .ok (.invokevirtual 65, 3) := by decide +kernel
theorem dX8_note_27 : decode cX8_note 27 = .ok (.ireturn, 1) := by decide +kernel
theorem dX8_reply_0 : decode cX8_reply 0 = .ok (.aload_n 0, 1) := by decide +kernel
theorem dX8_reply_1 : decode cX8_reply 1 = .ok (.getfield 49, 3) := by decide +kernel
theorem dX8_reply_4 : decode cX8_reply 4 = .ok (.aload_n 0, 1) := by decide +kernel
theorem dX8_reply_5 : decode cX8_reply 5 = .ok (.getfield 10, 3) := by decide +kernel
theorem dX8_reply_8 : decode cX8_reply 8 = .ok (.invokevirtual 57, 3) := by decide +kernel
theorem dX8_reply_11 : decode cX8_reply 11 = .ok (.aload_n 0, 1) := by decide +kernel
theorem dX8_reply_12 : decode cX8_reply 12 = .ok (.getfield 49, 3) := by decide +kernel
theorem dX8_reply_15 : decode cX8_reply 15 = .ok (.aload_n 0, 1) := by decide +kernel
theorem dX8_reply_16 : decode cX8_reply 16 = .ok (.getfield 10, 3) := by decide +kernel
theorem dX8_reply_19 : decode cX8_reply 19 = .ok (.iload_n 1, 1) := by decide +kernel
theorem dX8_reply_20 : decode cX8_reply 20 = .ok (.invokevirtual 82, 3) := by decide +kernel
theorem dX8_reply_23 : decode cX8_reply 23 = .ok (.invokevirtual 65, 3) := by decide +kernel
theorem dX8_reply_26 : decode cX8_reply 26 = .ok (.ireturn, 1) := by decide +kernel
theorem dX8_drop_0 : decode cX8_drop 0 = .ok (.aload_n 0, 1) := by decide +kernel
theorem dX8_drop_1 : decode cX8_drop 1 = .ok (.getfield 49, 3) := by decide +kernel
theorem dX8_drop_4 : decode cX8_drop 4 = .ok (.aload_n 0, 1) := by decide +kernel
theorem dX8_drop_5 : decode cX8_drop 5 = .ok (.getfield 10, 3) := by decide +kernel
theorem dX8_drop_8 : decode cX8_drop 8 = .ok (.invokevirtual 57, 3) := by decide +kernel
theorem dX8_drop_11 : decode cX8_drop 11 = .ok (.aload_n 0, 1) := by decide +kernel
theorem dX8_drop_12 : decode cX8_drop 12 = .ok (.getfield 49, 3) := by decide +kernel
theorem dX8_drop_15 : decode cX8_drop 15 = .ok (.aload_n 0, 1) := by decide +kernel
theorem dX8_drop_16 : decode cX8_drop 16 = .ok (.getfield 10, 3) := by decide +kernel
theorem dX8_drop_19 : decode cX8_drop 19 = .ok (.iload_n 1, 1) := by decide +kernel
theorem dX8_drop_20 : decode cX8_drop 20 = .ok (.invokevirtual 85, 3) := by decide +kernel
theorem dX8_drop_23 : decode cX8_drop 23 = .ok (.invokevirtual 65, 3) := by decide +kernel
theorem dX8_drop_26 : decode cX8_drop 26 = .ok (.ireturn, 1) := by decide +kernel
theorem dX8_reclaim_0 : decode cX8_reclaim 0 = .ok (.aload_n 0, 1) := by decide +kernel
theorem dX8_reclaim_1 : decode cX8_reclaim 1 = .ok (.getfield 49, 3) := by decide +kernel
theorem dX8_reclaim_4 : decode cX8_reclaim 4 = .ok (.aload_n 0, 1) := by decide +kernel
theorem dX8_reclaim_5 : decode cX8_reclaim 5 = .ok (.getfield 10, 3) := by decide +kernel
theorem dX8_reclaim_8 : decode cX8_reclaim 8 = .ok (.invokevirtual 57, 3) := by decide +kernel
theorem dX8_reclaim_11 : decode cX8_reclaim 11 = .ok (.aload_n 0, 1) := by decide +kernel
theorem dX8_reclaim_12 : decode cX8_reclaim 12 = .ok (.getfield 49, 3) := by decide +kernel
theorem dX8_reclaim_15 : decode cX8_reclaim 15 = .ok (.aload_n 0, 1) := by decide +kernel
theorem dX8_reclaim_16 : decode cX8_reclaim 16 = .ok (.getfield 10, 3) := by decide +kernel
theorem dX8_reclaim_19 : decode cX8_reclaim 19 = .ok (.iload_n 1, 1) := by decide +kernel
theorem dX8_reclaim_20 : decode cX8_reclaim 20 = .ok (.aload_n 0, 1) := by decide +kernel
theorem dX8_reclaim_21 : decode cX8_reclaim 21 = .ok (.getfield 26, 3) := by decide +kernel
theorem dX8_reclaim_24 : decode cX8_reclaim 24 = .ok (.invokevirtual 88, 3) := by decide +kernel
theorem dX8_reclaim_27 : decode cX8_reclaim 27 = .ok (.invokevirtual 65, 3) := by decide +kernel
theorem dX8_reclaim_30 : decode cX8_reclaim 30 = .ok (.ireturn, 1) := by decide +kernel
theorem dX8_letter_0 : decode cX8_letter 0 = .ok (.aload_n 0, 1) := by decide +kernel
theorem dX8_letter_1 : decode cX8_letter 1 = .ok (.getfield 10, 3) := by decide +kernel
theorem dX8_letter_4 : decode cX8_letter 4 = .ok (.getfield 92, 3) := by decide +kernel
theorem dX8_letter_7 : decode cX8_letter 7 = .ok (.iload_n 1, 1) := by decide +kernel
theorem dX8_letter_8 : decode cX8_letter 8 = .ok (.invokevirtual 95, 3) := by decide +kernel
theorem dX8_letter_11 : decode cX8_letter 11 = .ok (.ireturn, 1) := by decide +kernel
theorem dX8_of_0 : decode cX8_of 0 = .ok (.aload_n 0, 1) := by decide +kernel
theorem dX8_of_1 : decode cX8_of 1 = .ok (.getfield 10, 3) := by decide +kernel
theorem dX8_of_4 : decode cX8_of 4 = .ok (.iload_n 1, 1) := by decide +kernel
theorem dX8_of_5 : decode cX8_of 5 = .ok (.invokevirtual 98, 3) := by decide +kernel
theorem dX8_of_8 : decode cX8_of 8 = .ok (.astore_n 3, 1) := by decide +kernel
theorem dX8_of_9 : decode cX8_of 9 = .ok (.aload_n 3, 1) := by decide +kernel
theorem dX8_of_10 : decode cX8_of 10 = .ok (.ifnonnull 5, 3) := by decide +kernel
theorem dX8_of_13 : decode cX8_of 13 = .ok (.iconst (-1), 1) := by decide +kernel
theorem dX8_of_14 : decode cX8_of 14 = .ok (.ireturn, 1) := by decide +kernel
theorem dX8_of_15 : decode cX8_of 15 = .ok (.iload_n 2, 1) := by decide +kernel
theorem dX8_of_16 : decode cX8_of 16 = .ok (.tableswitch 195 0 8 #[52, 61, 80, 99, 119, 143, 167, 172, 186], 52) := by decide +kernel
theorem dX8_of_68 : decode cX8_of 68 = .ok (.aload_n 0, 1) := by decide +kernel
theorem dX8_of_69 : decode cX8_of 69 = .ok (.getfield 10, 3) := by decide +kernel
theorem dX8_of_72 : decode cX8_of 72 = .ok (.iload_n 1, 1) := by decide +kernel
theorem dX8_of_73 : decode cX8_of 73 = .ok (.invokevirtual 102, 3) := by decide +kernel
theorem dX8_of_76 : decode cX8_of 76 = .ok (.ireturn, 1) := by decide +kernel
theorem dX8_of_77 : decode cX8_of 77 = .ok (.aload_n 0, 1) := by decide +kernel
theorem dX8_of_78 : decode cX8_of 78 = .ok (.getfield 10, 3) := by decide +kernel
theorem dX8_of_81 : decode cX8_of 81 = .ok (.aload_n 0, 1) := by decide +kernel
theorem dX8_of_82 : decode cX8_of 82 = .ok (.getfield 10, 3) := by decide +kernel
theorem dX8_of_85 : decode cX8_of 85 = .ok (.iload_n 1, 1) := by decide +kernel
theorem dX8_of_86 : decode cX8_of 86 = .ok (.invokevirtual 105, 3) := by decide +kernel
theorem dX8_of_89 : decode cX8_of 89 = .ok (.invokevirtual 108, 3) := by decide +kernel
theorem dX8_of_92 : decode cX8_of 92 = .ok (.getfield 112, 3) := by decide +kernel
theorem dX8_of_95 : decode cX8_of 95 = .ok (.ireturn, 1) := by decide +kernel
theorem dX8_of_96 : decode cX8_of 96 = .ok (.aload_n 0, 1) := by decide +kernel
theorem dX8_of_97 : decode cX8_of 97 = .ok (.getfield 10, 3) := by decide +kernel
theorem dX8_of_100 : decode cX8_of 100 = .ok (.aload_n 0, 1) := by decide +kernel
theorem dX8_of_101 : decode cX8_of 101 = .ok (.getfield 10, 3) := by decide +kernel
theorem dX8_of_104 : decode cX8_of 104 = .ok (.iload_n 1, 1) := by decide +kernel
theorem dX8_of_105 : decode cX8_of 105 = .ok (.invokevirtual 105, 3) := by decide +kernel
theorem dX8_of_108 : decode cX8_of 108 = .ok (.invokevirtual 108, 3) := by decide +kernel
theorem dX8_of_111 : decode cX8_of 111 = .ok (.getfield 118, 3) := by decide +kernel
theorem dX8_of_114 : decode cX8_of 114 = .ok (.ireturn, 1) := by decide +kernel
theorem dX8_of_115 : decode cX8_of 115 = .ok (.aload_n 3, 1) := by decide +kernel
theorem dX8_of_116 : decode cX8_of 116 = .ok (.invokevirtual 121, 3) := by decide +kernel
theorem dX8_of_119 : decode cX8_of 119 = .ok (.ifCond .eq 8, 3) := by decide +kernel
theorem dX8_of_122 : decode cX8_of 122 = .ok (.bipush (-6), 2) := by decide +kernel
theorem dX8_of_124 : decode cX8_of 124 = .ok (.goto 10, 3) := by decide +kernel
theorem dX8_of_127 : decode cX8_of 127 = .ok (.aload_n 3, 1) := by decide +kernel
theorem dX8_of_128 : decode cX8_of 128 = .ok (.getfield 127, 3) := by decide +kernel
theorem dX8_of_131 : decode cX8_of 131 = .ok (.getfield 130, 3) := by decide +kernel
theorem dX8_of_134 : decode cX8_of 134 = .ok (.ireturn, 1) := by decide +kernel
theorem dX8_of_135 : decode cX8_of 135 = .ok (.aload_n 3, 1) := by decide +kernel
theorem dX8_of_136 : decode cX8_of 136 = .ok (.invokevirtual 121, 3) := by decide +kernel
theorem dX8_of_139 : decode cX8_of 139 = .ok (.ifCond .eq 8, 3) := by decide +kernel
theorem dX8_of_142 : decode cX8_of 142 = .ok (.bipush (-6), 2) := by decide +kernel
theorem dX8_of_144 : decode cX8_of 144 = .ok (.goto 14, 3) := by decide +kernel
theorem dX8_of_147 : decode cX8_of 147 = .ok (.aload_n 0, 1) := by decide +kernel
theorem dX8_of_148 : decode cX8_of 148 = .ok (.getfield 10, 3) := by decide +kernel
theorem dX8_of_151 : decode cX8_of 151 = .ok (.iload_n 1, 1) := by decide +kernel
theorem dX8_of_152 : decode cX8_of 152 = .ok (.invokevirtual 108, 3) := by decide +kernel
theorem dX8_of_155 : decode cX8_of 155 = .ok (.getfield 133, 3) := by decide +kernel
theorem dX8_of_158 : decode cX8_of 158 = .ok (.ireturn, 1) := by decide +kernel
theorem dX8_of_159 : decode cX8_of 159 = .ok (.aload_n 3, 1) := by decide +kernel
theorem dX8_of_160 : decode cX8_of 160 = .ok (.invokevirtual 121, 3) := by decide +kernel
theorem dX8_of_163 : decode cX8_of 163 = .ok (.ifCond .eq 8, 3) := by decide +kernel
theorem dX8_of_166 : decode cX8_of 166 = .ok (.bipush (-6), 2) := by decide +kernel
theorem dX8_of_168 : decode cX8_of 168 = .ok (.goto 14, 3) := by decide +kernel
theorem dX8_of_171 : decode cX8_of 171 = .ok (.aload_n 0, 1) := by decide +kernel
theorem dX8_of_172 : decode cX8_of 172 = .ok (.getfield 10, 3) := by decide +kernel
theorem dX8_of_175 : decode cX8_of 175 = .ok (.iload_n 1, 1) := by decide +kernel
theorem dX8_of_176 : decode cX8_of 176 = .ok (.invokevirtual 108, 3) := by decide +kernel
theorem dX8_of_179 : decode cX8_of 179 = .ok (.getfield 135, 3) := by decide +kernel
theorem dX8_of_182 : decode cX8_of 182 = .ok (.ireturn, 1) := by decide +kernel
theorem dX8_of_183 : decode cX8_of 183 = .ok (.aload_n 3, 1) := by decide +kernel
theorem dX8_of_184 : decode cX8_of 184 = .ok (.getfield 138, 3) := by decide +kernel
theorem dX8_of_187 : decode cX8_of 187 = .ok (.ireturn, 1) := by decide +kernel
theorem dX8_of_188 : decode cX8_of 188 = .ok (.aload_n 0, 1) := by decide +kernel
theorem dX8_of_189 : decode cX8_of 189 = .ok (.getfield 10, 3) := by decide +kernel
theorem dX8_of_192 : decode cX8_of 192 = .ok (.iload_n 1, 1) := by decide +kernel
theorem dX8_of_193 : decode cX8_of 193 = .ok (.invokevirtual 141, 3) := by decide +kernel
theorem dX8_of_196 : decode cX8_of 196 = .ok (.invokestatic 144, 3) := by decide +kernel
theorem dX8_of_199 : decode cX8_of 199 = .ok (.iconst 1, 1) := by decide +kernel
theorem dX8_of_200 : decode cX8_of 200 = .ok (.isub, 1) := by decide +kernel
theorem dX8_of_201 : decode cX8_of 201 = .ok (.ireturn, 1) := by decide +kernel
theorem dX8_of_202 : decode cX8_of 202 = .ok (.aload_n 0, 1) := by decide +kernel
theorem dX8_of_203 : decode cX8_of 203 = .ok (.getfield 10, 3) := by decide +kernel
theorem dX8_of_206 : decode cX8_of 206 = .ok (.iload_n 1, 1) := by decide +kernel
theorem dX8_of_207 : decode cX8_of 207 = .ok (.invokevirtual 149, 3) := by decide +kernel
theorem dX8_of_210 : decode cX8_of 210 = .ok (.ireturn, 1) := by decide +kernel
theorem dX8_of_211 : decode cX8_of 211 = .ok (.bipush (-2), 2) := by decide +kernel
theorem dX8_of_213 : decode cX8_of 213 = .ok (.ireturn, 1) := by decide +kernel
theorem dX8_word_0 : decode cX8_word 0 = .ok (.aload_n 0, 1) := by decide +kernel
theorem dX8_word_1 : decode cX8_word 1 = .ok (.getfield 10, 3) := by decide +kernel
theorem dX8_word_4 : decode cX8_word 4 = .ok (.iload_n 1, 1) := by decide +kernel
theorem dX8_word_5 : decode cX8_word 5 = .ok (.invokevirtual 98, 3) := by decide +kernel
theorem dX8_word_8 : decode cX8_word 8 = .ok (.astore_n 3, 1) := by decide +kernel
theorem dX8_word_9 : decode cX8_word 9 = .ok (.aload_n 3, 1) := by decide +kernel
theorem dX8_word_10 : decode cX8_word 10 = .ok (.ifnonnull 5, 3) := by decide +kernel
theorem dX8_word_13 : decode cX8_word 13 = .ok (.iconst (-1), 1) := by decide +kernel
theorem dX8_word_14 : decode cX8_word 14 = .ok (.ireturn, 1) := by decide +kernel
theorem dX8_word_15 : decode cX8_word 15 = .ok (.aload_n 3, 1) := by decide +kernel
theorem dX8_word_16 : decode cX8_word 16 = .ok (.invokevirtual 121, 3) := by decide +kernel
theorem dX8_word_19 : decode cX8_word 19 = .ok (.ifCond .eq 8, 3) := by decide +kernel
theorem dX8_word_22 : decode cX8_word 22 = .ok (.bipush (-6), 2) := by decide +kernel
theorem dX8_word_24 : decode cX8_word 24 = .ok (.goto 11, 3) := by decide +kernel
theorem dX8_word_27 : decode cX8_word 27 = .ok (.aload_n 3, 1) := by decide +kernel
theorem dX8_word_28 : decode cX8_word 28 = .ok (.getfield 127, 3) := by decide +kernel
theorem dX8_word_31 : decode cX8_word 31 = .ok (.iload_n 2, 1) := by decide +kernel
theorem dX8_word_32 : decode cX8_word 32 = .ok (.invokevirtual 95, 3) := by decide +kernel
theorem dX8_word_35 : decode cX8_word 35 = .ok (.ireturn, 1) := by decide +kernel
theorem dX8_at_0 : decode cX8_at 0 = .ok (.aload_n 0, 1) := by decide +kernel
theorem dX8_at_1 : decode cX8_at 1 = .ok (.getfield 10, 3) := by decide +kernel
theorem dX8_at_4 : decode cX8_at 4 = .ok (.getfield 152, 3) := by decide +kernel
theorem dX8_at_7 : decode cX8_at 7 = .ok (.iload_n 1, 1) := by decide +kernel
theorem dX8_at_8 : decode cX8_at 8 = .ok (.invokevirtual 95, 3) := by decide +kernel
theorem dX8_at_11 : decode cX8_at 11 = .ok (.ireturn, 1) := by decide +kernel
theorem dX8_printed_0 : decode cX8_printed 0 = .ok (.aload_n 0, 1) := by decide +kernel
theorem dX8_printed_1 : decode cX8_printed 1 = .ok (.getfield 10, 3) := by decide +kernel
theorem dX8_printed_4 : decode cX8_printed 4 = .ok (.iload_n 1, 1) := by decide +kernel
theorem dX8_printed_5 : decode cX8_printed 5 = .ok (.invokevirtual 98, 3) := by decide +kernel
theorem dX8_printed_8 : decode cX8_printed 8 = .ok (.ifnonnull 5, 3) := by decide +kernel
theorem dX8_printed_11 : decode cX8_printed 11 = .ok (.iconst (-1), 1) := by decide +kernel
theorem dX8_printed_12 : decode cX8_printed 12 = .ok (.ireturn, 1) := by decide +kernel
theorem dX8_printed_13 : decode cX8_printed 13 = .ok (.iload_n 2, 1) := by decide +kernel
theorem dX8_printed_14 : decode cX8_printed 14 = .ok (.ifCond .eq 11, 3) := by decide +kernel
theorem dX8_printed_17 : decode cX8_printed 17 = .ok (.iload_n 2, 1) := by decide +kernel
theorem dX8_printed_18 : decode cX8_printed 18 = .ok (.iconst 1, 1) := by decide +kernel
theorem dX8_printed_19 : decode cX8_printed 19 = .ok (.if_icmp .eq 6, 3) := by decide +kernel
theorem dX8_printed_22 : decode cX8_printed 22 = .ok (.bipush (-2), 2) := by decide +kernel
theorem dX8_printed_24 : decode cX8_printed 24 = .ok (.ireturn, 1) := by decide +kernel
theorem dX8_printed_25 : decode cX8_printed 25 = .ok (.aload_n 0, 1) := by decide +kernel
theorem dX8_printed_26 : decode cX8_printed 26 = .ok (.getfield 19, 3) := by decide +kernel
theorem dX8_printed_29 : decode cX8_printed 29 = .ok (.aload_n 0, 1) := by decide +kernel
theorem dX8_printed_30 : decode cX8_printed 30 = .ok (.getfield 10, 3) := by decide +kernel
theorem dX8_printed_33 : decode cX8_printed 33 = .ok (.aload_n 0, 1) := by decide +kernel
theorem dX8_printed_34 : decode cX8_printed 34 = .ok (.getfield 10, 3) := by decide +kernel
theorem dX8_printed_37 : decode cX8_printed 37 = .ok (.getfield 155, 3) := by decide +kernel
theorem dX8_printed_40 : decode cX8_printed 40 = .ok (.iconst 2, 1) := by decide +kernel
theorem dX8_printed_41 : decode cX8_printed 41 = .ok (.invokevirtual 95, 3) := by decide +kernel
theorem dX8_printed_44 : decode cX8_printed 44 = .ok (.invokevirtual 158, 3) := by decide +kernel
theorem dX8_printed_47 : decode cX8_printed 47 = .ok (.iload_n 2, 1) := by decide +kernel
theorem dX8_printed_48 : decode cX8_printed 48 = .ok (.ifCond .ne 17, 3) := by decide +kernel
theorem dX8_printed_51 : decode cX8_printed 51 = .ok (.aload_n 0, 1) := by decide +kernel
theorem dX8_printed_52 : decode cX8_printed 52 = .ok (.getfield 19, 3) := by decide +kernel
theorem dX8_printed_55 : decode cX8_printed 55 = .ok (.getfield 162, 3) := by decide +kernel
theorem dX8_printed_58 : decode cX8_printed 58 = .ok (.iload_n 1, 1) := by decide +kernel
theorem dX8_printed_59 : decode cX8_printed 59 = .ok (.invokevirtual 95, 3) := by decide +kernel
theorem dX8_printed_62 : decode cX8_printed 62 = .ok (.goto 14, 3) := by decide +kernel
theorem dX8_printed_65 : decode cX8_printed 65 = .ok (.aload_n 0, 1) := by decide +kernel
theorem dX8_printed_66 : decode cX8_printed 66 = .ok (.getfield 19, 3) := by decide +kernel
theorem dX8_printed_69 : decode cX8_printed 69 = .ok (.getfield 165, 3) := by decide +kernel
theorem dX8_printed_72 : decode cX8_printed 72 = .ok (.iload_n 1, 1) := by decide +kernel
theorem dX8_printed_73 : decode cX8_printed 73 = .ok (.invokevirtual 95, 3) := by decide +kernel
theorem dX8_printed_76 : decode cX8_printed 76 = .ok (.ireturn, 1) := by decide +kernel
theorem dX8_count_0 : decode cX8_count 0 = .ok (.iload_n 1, 1) := by decide +kernel
theorem dX8_count_1 : decode cX8_count 1 = .ok (.tableswitch 211 0 12 #[67, 78, 86, 95, 104, 112, 120, 150, 180, 180, 180, 195, 203], 67) := by decide +kernel
theorem dX8_count_68 : decode cX8_count 68 = .ok (.aload_n 0, 1) := by decide +kernel
theorem dX8_count_69 : decode cX8_count 69 = .ok (.getfield 10, 3) := by decide +kernel
theorem dX8_count_72 : decode cX8_count 72 = .ok (.getfield 92, 3) := by decide +kernel
theorem dX8_count_75 : decode cX8_count 75 = .ok (.getfield 130, 3) := by decide +kernel
theorem dX8_count_78 : decode cX8_count 78 = .ok (.ireturn, 1) := by decide +kernel
theorem dX8_count_79 : decode cX8_count 79 = .ok (.aload_n 0, 1) := by decide +kernel
theorem dX8_count_80 : decode cX8_count 80 = .ok (.getfield 10, 3) := by decide +kernel
theorem dX8_count_83 : decode cX8_count 83 = .ok (.getfield 168, 3) := by decide +kernel
theorem dX8_count_86 : decode cX8_count 86 = .ok (.ireturn, 1) := by decide +kernel
theorem dX8_count_87 : decode cX8_count 87 = .ok (.aload_n 0, 1) := by decide +kernel
theorem dX8_count_88 : decode cX8_count 88 = .ok (.getfield 10, 3) := by decide +kernel
theorem dX8_count_91 : decode cX8_count 91 = .ok (.iconst 1, 1) := by decide +kernel
theorem dX8_count_92 : decode cX8_count 92 = .ok (.invokevirtual 171, 3) := by decide +kernel
theorem dX8_count_95 : decode cX8_count 95 = .ok (.ireturn, 1) := by decide +kernel
theorem dX8_count_96 : decode cX8_count 96 = .ok (.aload_n 0, 1) := by decide +kernel
theorem dX8_count_97 : decode cX8_count 97 = .ok (.getfield 10, 3) := by decide +kernel
theorem dX8_count_100 : decode cX8_count 100 = .ok (.iconst 2, 1) := by decide +kernel
theorem dX8_count_101 : decode cX8_count 101 = .ok (.invokevirtual 171, 3) := by decide +kernel
theorem dX8_count_104 : decode cX8_count 104 = .ok (.ireturn, 1) := by decide +kernel
theorem dX8_count_105 : decode cX8_count 105 = .ok (.aload_n 0, 1) := by decide +kernel
theorem dX8_count_106 : decode cX8_count 106 = .ok (.getfield 10, 3) := by decide +kernel
theorem dX8_count_109 : decode cX8_count 109 = .ok (.invokevirtual 174, 3) := by decide +kernel
theorem dX8_count_112 : decode cX8_count 112 = .ok (.ireturn, 1) := by decide +kernel
theorem dX8_count_113 : decode cX8_count 113 = .ok (.aload_n 0, 1) := by decide +kernel
theorem dX8_count_114 : decode cX8_count 114 = .ok (.getfield 10, 3) := by decide +kernel
theorem dX8_count_117 : decode cX8_count 117 = .ok (.invokevirtual 178, 3) := by decide +kernel
theorem dX8_count_120 : decode cX8_count 120 = .ok (.ireturn, 1) := by decide +kernel
theorem dX8_count_121 : decode cX8_count 121 = .ok (.aload_n 0, 1) := by decide +kernel
theorem dX8_count_122 : decode cX8_count 122 = .ok (.getfield 19, 3) := by decide +kernel
theorem dX8_count_125 : decode cX8_count 125 = .ok (.aload_n 0, 1) := by decide +kernel
theorem dX8_count_126 : decode cX8_count 126 = .ok (.getfield 10, 3) := by decide +kernel
theorem dX8_count_129 : decode cX8_count 129 = .ok (.aload_n 0, 1) := by decide +kernel
theorem dX8_count_130 : decode cX8_count 130 = .ok (.getfield 10, 3) := by decide +kernel
theorem dX8_count_133 : decode cX8_count 133 = .ok (.getfield 155, 3) := by decide +kernel
theorem dX8_count_136 : decode cX8_count 136 = .ok (.iconst 2, 1) := by decide +kernel
theorem dX8_count_137 : decode cX8_count 137 = .ok (.invokevirtual 95, 3) := by decide +kernel
theorem dX8_count_140 : decode cX8_count 140 = .ok (.invokevirtual 158, 3) := by decide +kernel
theorem dX8_count_143 : decode cX8_count 143 = .ok (.aload_n 0, 1) := by decide +kernel
theorem dX8_count_144 : decode cX8_count 144 = .ok (.getfield 19, 3) := by decide +kernel
theorem dX8_count_147 : decode cX8_count 147 = .ok (.getfield 181, 3) := by decide +kernel
theorem dX8_count_150 : decode cX8_count 150 = .ok (.ireturn, 1) := by decide +kernel
theorem dX8_count_151 : decode cX8_count 151 = .ok (.aload_n 0, 1) := by decide +kernel
theorem dX8_count_152 : decode cX8_count 152 = .ok (.getfield 19, 3) := by decide +kernel
theorem dX8_count_155 : decode cX8_count 155 = .ok (.aload_n 0, 1) := by decide +kernel
theorem dX8_count_156 : decode cX8_count 156 = .ok (.getfield 10, 3) := by decide +kernel
theorem dX8_count_159 : decode cX8_count 159 = .ok (.aload_n 0, 1) := by decide +kernel
theorem dX8_count_160 : decode cX8_count 160 = .ok (.getfield 10, 3) := by decide +kernel
theorem dX8_count_163 : decode cX8_count 163 = .ok (.getfield 155, 3) := by decide +kernel
theorem dX8_count_166 : decode cX8_count 166 = .ok (.iconst 2, 1) := by decide +kernel
theorem dX8_count_167 : decode cX8_count 167 = .ok (.invokevirtual 95, 3) := by decide +kernel
theorem dX8_count_170 : decode cX8_count 170 = .ok (.invokevirtual 158, 3) := by decide +kernel
theorem dX8_count_173 : decode cX8_count 173 = .ok (.aload_n 0, 1) := by decide +kernel
theorem dX8_count_174 : decode cX8_count 174 = .ok (.getfield 19, 3) := by decide +kernel
theorem dX8_count_177 : decode cX8_count 177 = .ok (.getfield 184, 3) := by decide +kernel
theorem dX8_count_180 : decode cX8_count 180 = .ok (.ireturn, 1) := by decide +kernel
theorem dX8_count_181 : decode cX8_count 181 = .ok (.aload_n 0, 1) := by decide +kernel
theorem dX8_count_182 : decode cX8_count 182 = .ok (.getfield 10, 3) := by decide +kernel
theorem dX8_count_185 : decode cX8_count 185 = .ok (.getfield 155, 3) := by decide +kernel
theorem dX8_count_188 : decode cX8_count 188 = .ok (.iload_n 1, 1) := by decide +kernel
theorem dX8_count_189 : decode cX8_count 189 = .ok (.bipush 8, 2) := by decide +kernel
theorem dX8_count_191 : decode cX8_count 191 = .ok (.isub, 1) := by decide +kernel
theorem dX8_count_192 : decode cX8_count 192 = .ok (.invokevirtual 95, 3) := by decide +kernel
theorem dX8_count_195 : decode cX8_count 195 = .ok (.ireturn, 1) := by decide +kernel
theorem dX8_count_196 : decode cX8_count 196 = .ok (.aload_n 0, 1) := by decide +kernel
theorem dX8_count_197 : decode cX8_count 197 = .ok (.getfield 35, 3) := by decide +kernel
theorem dX8_count_200 : decode cX8_count 200 = .ok (.getfield 130, 3) := by decide +kernel
theorem dX8_count_203 : decode cX8_count 203 = .ok (.ireturn, 1) := by decide +kernel
theorem dX8_count_204 : decode cX8_count 204 = .ok (.aload_n 0, 1) := by decide +kernel
theorem dX8_count_205 : decode cX8_count 205 = .ok (.getfield 49, 3) := by decide +kernel
theorem dX8_count_208 : decode cX8_count 208 = .ok (.getfield 187, 3) := by decide +kernel
theorem dX8_count_211 : decode cX8_count 211 = .ok (.ireturn, 1) := by decide +kernel
theorem dX8_count_212 : decode cX8_count 212 = .ok (.bipush (-2), 2) := by decide +kernel
theorem dX8_count_214 : decode cX8_count 214 = .ok (.ireturn, 1) := by decide +kernel
theorem dX8_orphansIf_0 : decode cX8_orphansIf 0 = .ok (.aload_n 0, 1) := by decide +kernel
theorem dX8_orphansIf_1 : decode cX8_orphansIf 1 = .ok (.getfield 10, 3) := by decide +kernel
theorem dX8_orphansIf_4 : decode cX8_orphansIf 4 = .ok (.iload_n 1, 1) := by decide +kernel
theorem dX8_orphansIf_5 : decode cX8_orphansIf 5 = .ok (.iload_n 2, 1) := by decide +kernel
theorem dX8_orphansIf_6 : decode cX8_orphansIf 6 = .ok (.invokevirtual 190, 3) := by decide +kernel
theorem dX8_orphansIf_9 : decode cX8_orphansIf 9 = .ok (.ireturn, 1) := by decide +kernel
theorem dX8_could_0 : decode cX8_could 0 = .ok (.aload_n 0, 1) := by decide +kernel
theorem dX8_could_1 : decode cX8_could 1 = .ok (.getfield 10, 3) := by decide +kernel
theorem dX8_could_4 : decode cX8_could 4 = .ok (.iload_n 1, 1) := by decide +kernel
theorem dX8_could_5 : decode cX8_could 5 = .ok (.invokevirtual 98, 3) := by decide +kernel
theorem dX8_could_8 : decode cX8_could 8 = .ok (.astore_n 3, 1) := by decide +kernel
theorem dX8_could_9 : decode cX8_could 9 = .ok (.aload_n 3, 1) := by decide +kernel
theorem dX8_could_10 : decode cX8_could 10 = .ok (.ifnonnull 5, 3) := by decide +kernel
theorem dX8_could_13 : decode cX8_could 13 = .ok (.iconst (-1), 1) := by decide +kernel
theorem dX8_could_14 : decode cX8_could 14 = .ok (.ireturn, 1) := by decide +kernel
theorem dX8_could_15 : decode cX8_could 15 = .ok (.iload_n 2, 1) := by decide +kernel
theorem dX8_could_16 : decode cX8_could 16 = .ok (.ifCond .lt 8, 3) := by decide +kernel
theorem dX8_could_19 : decode cX8_could 19 = .ok (.iload_n 2, 1) := by decide +kernel
theorem dX8_could_20 : decode cX8_could 20 = .ok (.iconst 2, 1) := by decide +kernel
theorem dX8_could_21 : decode cX8_could 21 = .ok (.if_icmp .le 6, 3) := by decide +kernel
theorem dX8_could_24 : decode cX8_could 24 = .ok (.bipush (-2), 2) := by decide +kernel
theorem dX8_could_26 : decode cX8_could 26 = .ok (.ireturn, 1) := by decide +kernel
theorem dX8_could_27 : decode cX8_could 27 = .ok (.aload_n 0, 1) := by decide +kernel
theorem dX8_could_28 : decode cX8_could 28 = .ok (.getfield 10, 3) := by decide +kernel
theorem dX8_could_31 : decode cX8_could 31 = .ok (.iload_n 1, 1) := by decide +kernel
theorem dX8_could_32 : decode cX8_could 32 = .ok (.invokevirtual 102, 3) := by decide +kernel
theorem dX8_could_35 : decode cX8_could 35 = .ok (.iconst 1, 1) := by decide +kernel
theorem dX8_could_36 : decode cX8_could 36 = .ok (.if_icmp .eq 6, 3) := by decide +kernel
theorem dX8_could_39 : decode cX8_could 39 = .ok (.bipush (-5), 2) := by decide +kernel
theorem dX8_could_41 : decode cX8_could 41 = .ok (.ireturn, 1) := by decide +kernel
theorem dX8_could_42 : decode cX8_could 42 = .ok (.aload_n 0, 1) := by decide +kernel
theorem dX8_could_43 : decode cX8_could 43 = .ok (.getfield 26, 3) := by decide +kernel
theorem dX8_could_46 : decode cX8_could 46 = .ok (.aload_n 0, 1) := by decide +kernel
theorem dX8_could_47 : decode cX8_could 47 = .ok (.getfield 10, 3) := by decide +kernel
theorem dX8_could_50 : decode cX8_could 50 = .ok (.getfield 92, 3) := by decide +kernel
theorem dX8_could_53 : decode cX8_could 53 = .ok (.aload_n 3, 1) := by decide +kernel
theorem dX8_could_54 : decode cX8_could 54 = .ok (.invokevirtual 193, 3) := by decide +kernel
theorem dX8_could_57 : decode cX8_could 57 = .ok (.aload_n 0, 1) := by decide +kernel
theorem dX8_could_58 : decode cX8_could 58 = .ok (.getfield 26, 3) := by decide +kernel
theorem dX8_could_61 : decode cX8_could 61 = .ok (.getfield 197, 3) := by decide +kernel
theorem dX8_could_64 : decode cX8_could 64 = .ok (.ifCond .ne 6, 3) := by decide +kernel
theorem dX8_could_67 : decode cX8_could 67 = .ok (.bipush (-6), 2) := by decide +kernel
theorem dX8_could_69 : decode cX8_could 69 = .ok (.ireturn, 1) := by decide +kernel
theorem dX8_could_70 : decode cX8_could 70 = .ok (.iload_n 2, 1) := by decide +kernel
theorem dX8_could_71 : decode cX8_could 71 = .ok (.ifCond .ne 13, 3) := by decide +kernel
theorem dX8_could_74 : decode cX8_could 74 = .ok (.aload_n 0, 1) := by decide +kernel
theorem dX8_could_75 : decode cX8_could 75 = .ok (.getfield 26, 3) := by decide +kernel
theorem dX8_could_78 : decode cX8_could 78 = .ok (.getfield 200, 3) := by decide +kernel
theorem dX8_could_81 : decode cX8_could 81 = .ok (.goto 25, 3) := by decide +kernel
theorem dX8_could_84 : decode cX8_could 84 = .ok (.iload_n 2, 1) := by decide +kernel
theorem dX8_could_85 : decode cX8_could 85 = .ok (.iconst 1, 1) := by decide +kernel
theorem dX8_could_86 : decode cX8_could 86 = .ok (.if_icmp .ne 13, 3) := by decide +kernel
theorem dX8_could_89 : decode cX8_could 89 = .ok (.aload_n 0, 1) := by decide +kernel
theorem dX8_could_90 : decode cX8_could 90 = .ok (.getfield 26, 3) := by decide +kernel
theorem dX8_could_93 : decode cX8_could 93 = .ok (.getfield 203, 3) := by decide +kernel
theorem dX8_could_96 : decode cX8_could 96 = .ok (.goto 10, 3) := by decide +kernel
theorem dX8_could_99 : decode cX8_could 99 = .ok (.aload_n 0, 1) := by decide +kernel
theorem dX8_could_100 : decode cX8_could 100 = .ok (.getfield 26, 3) := by decide +kernel
theorem dX8_could_103 : decode cX8_could 103 = .ok (.getfield 197, 3) := by decide +kernel
theorem dX8_could_106 : decode cX8_could 106 = .ok (.ireturn, 1) := by decide +kernel
theorem dX8_leastRoom_0 : decode cX8_leastRoom 0 = .ok (.iload_n 1, 1) := by decide +kernel
theorem dX8_leastRoom_1 : decode cX8_leastRoom 1 = .ok (.ifCond .lt 9, 3) := by decide +kernel
theorem dX8_leastRoom_4 : decode cX8_leastRoom 4 = .ok (.iload_n 1, 1) := by decide +kernel
theorem dX8_leastRoom_5 : decode cX8_leastRoom 5 = .ok (.bipush 60, 2) := by decide +kernel
theorem dX8_leastRoom_7 : decode cX8_leastRoom 7 = .ok (.if_icmp .le 6, 3) := by decide +kernel
theorem dX8_leastRoom_10 : decode cX8_leastRoom 10 = .ok (.bipush (-2), 2) := by decide +kernel
theorem dX8_leastRoom_12 : decode cX8_leastRoom 12 = .ok (.ireturn, 1) := by decide +kernel
theorem dX8_leastRoom_13 : decode cX8_leastRoom 13 = .ok (.iconst 1, 1) := by decide +kernel
theorem dX8_leastRoom_14 : decode cX8_leastRoom 14 = .ok (.istore_n 2, 1) := by decide +kernel
theorem dX8_leastRoom_15 : decode cX8_leastRoom 15 = .ok (.iload_n 2, 1) := by decide +kernel
theorem dX8_leastRoom_16 : decode cX8_leastRoom 16 = .ok (.bipush 9, 2) := by decide +kernel
theorem dX8_leastRoom_18 : decode cX8_leastRoom 18 = .ok (.if_icmp .gt 34, 3) := by decide +kernel
theorem dX8_leastRoom_21 : decode cX8_leastRoom 21 = .ok (.aload_n 0, 1) := by decide +kernel
theorem dX8_leastRoom_22 : decode cX8_leastRoom 22 = .ok (.getfield 19, 3) := by decide +kernel
theorem dX8_leastRoom_25 : decode cX8_leastRoom 25 = .ok (.aload_n 0, 1) := by decide +kernel
theorem dX8_leastRoom_26 : decode cX8_leastRoom 26 = .ok (.getfield 10, 3) := by decide +kernel
theorem dX8_leastRoom_29 : decode cX8_leastRoom 29 = .ok (.iload_n 2, 1) := by decide +kernel
theorem dX8_leastRoom_30 : decode cX8_leastRoom 30 = .ok (.invokevirtual 158, 3) := by decide +kernel
theorem dX8_leastRoom_33 : decode cX8_leastRoom 33 = .ok (.aload_n 0, 1) := by decide +kernel
theorem dX8_leastRoom_34 : decode cX8_leastRoom 34 = .ok (.getfield 19, 3) := by decide +kernel
theorem dX8_leastRoom_37 : decode cX8_leastRoom 37 = .ok (.getfield 206, 3) := by decide +kernel
theorem dX8_leastRoom_40 : decode cX8_leastRoom 40 = .ok (.iload_n 1, 1) := by decide +kernel
theorem dX8_leastRoom_41 : decode cX8_leastRoom 41 = .ok (.if_icmp .gt 5, 3) := by decide +kernel
theorem dX8_leastRoom_44 : decode cX8_leastRoom 44 = .ok (.iload_n 2, 1) := by decide +kernel
theorem dX8_leastRoom_45 : decode cX8_leastRoom 45 = .ok (.ireturn, 1) := by decide +kernel
theorem dX8_leastRoom_46 : decode cX8_leastRoom 46 = .ok (.iinc 2 1, 3) := by decide +kernel
theorem dX8_leastRoom_49 : decode cX8_leastRoom 49 = .ok (.goto (-34), 3) := by decide +kernel
theorem dX8_leastRoom_52 : decode cX8_leastRoom 52 = .ok (.bipush (-6), 2) := by decide +kernel
theorem dX8_leastRoom_54 : decode cX8_leastRoom 54 = .ok (.ireturn, 1) := by decide +kernel
theorem dX8_put_0 : decode cX8_put 0 = .ok (.lload_n 1, 1) := by decide +kernel
theorem dX8_put_1 : decode cX8_put 1 = .ok (.invokestatic 209, 3) := by decide +kernel
theorem dX8_put_4 : decode cX8_put 4 = .ok (.istore_n 3, 1) := by decide +kernel
theorem dX8_put_5 : decode cX8_put 5 = .ok (.iload_n 3, 1) := by decide +kernel
theorem dX8_put_6 : decode cX8_put 6 = .ok (.ifCond .ne 6, 3) := by decide +kernel
theorem dX8_put_9 : decode cX8_put 9 = .ok (.bipush (-2), 2) := by decide +kernel
theorem dX8_put_11 : decode cX8_put 11 = .ok (.ireturn, 1) := by decide +kernel
theorem dX8_put_12 : decode cX8_put 12 = .ok (.aload_n 0, 1) := by decide +kernel
theorem dX8_put_13 : decode cX8_put 13 = .ok (.getfield 35, 3) := by decide +kernel
theorem dX8_put_16 : decode cX8_put 16 = .ok (.getfield 130, 3) := by decide +kernel
theorem dX8_put_19 : decode cX8_put 19 = .ok (.iload_n 3, 1) := by decide +kernel
theorem dX8_put_20 : decode cX8_put 20 = .ok (.iadd, 1) := by decide +kernel
theorem dX8_put_21 : decode cX8_put 21 = .ok (.bipush 80, 2) := by decide +kernel
theorem dX8_put_23 : decode cX8_put 23 = .ok (.if_icmp .le 6, 3) := by decide +kernel
theorem dX8_put_26 : decode cX8_put 26 = .ok (.bipush (-4), 2) := by decide +kernel
theorem dX8_put_28 : decode cX8_put 28 = .ok (.ireturn, 1) := by decide +kernel
theorem dX8_put_29 : decode cX8_put 29 = .ok (.iload_n 3, 1) := by decide +kernel
theorem dX8_put_30 : decode cX8_put 30 = .ok (.iconst 1, 1) := by decide +kernel
theorem dX8_put_31 : decode cX8_put 31 = .ok (.isub, 1) := by decide +kernel
theorem dX8_put_32 : decode cX8_put 32 = .ok (.istore 4, 2) := by decide +kernel
theorem dX8_put_34 : decode cX8_put 34 = .ok (.iload 4, 2) := by decide +kernel
theorem dX8_put_36 : decode cX8_put 36 = .ok (.ifCond .lt 28, 3) := by decide +kernel
theorem dX8_put_39 : decode cX8_put 39 = .ok (.aload_n 0, 1) := by decide +kernel
theorem dX8_put_40 : decode cX8_put 40 = .ok (.getfield 35, 3) := by decide +kernel
theorem dX8_put_43 : decode cX8_put 43 = .ok (.lload_n 1, 1) := by decide +kernel
theorem dX8_put_44 : decode cX8_put 44 = .ok (.bipush 8, 2) := by decide +kernel
theorem dX8_put_46 : decode cX8_put 46 = .ok (.iload 4, 2) := by decide +kernel
theorem dX8_put_48 : decode cX8_put 48 = .ok (.imul, 1) := by decide +kernel
theorem dX8_put_49 : decode cX8_put 49 = .ok (.lushr, 1) := by decide +kernel
theorem dX8_put_50 : decode cX8_put 50 = .ok (.ldc2_w 213, 3) := by decide +kernel
theorem dX8_put_53 : decode cX8_put 53 = .ok (.land, 1) := by decide +kernel
theorem dX8_put_54 : decode cX8_put 54 = .ok (.l2i, 1) := by decide +kernel
theorem dX8_put_55 : decode cX8_put 55 = .ok (.invokevirtual 215, 3) := by decide +kernel
theorem dX8_put_58 : decode cX8_put 58 = .ok (.iinc 4 (-1), 3) := by decide +kernel
theorem dX8_put_61 : decode cX8_put 61 = .ok (.goto (-27), 3) := by decide +kernel
theorem dX8_put_64 : decode cX8_put 64 = .ok (.aload_n 0, 1) := by decide +kernel
theorem dX8_put_65 : decode cX8_put 65 = .ok (.getfield 35, 3) := by decide +kernel
theorem dX8_put_68 : decode cX8_put 68 = .ok (.getfield 130, 3) := by decide +kernel
theorem dX8_put_71 : decode cX8_put 71 = .ok (.ireturn, 1) := by decide +kernel
theorem dX8_wipe_0 : decode cX8_wipe 0 = .ok (.aload_n 0, 1) := by decide +kernel
theorem dX8_wipe_1 : decode cX8_wipe 1 = .ok (.getfield 35, 3) := by decide +kernel
theorem dX8_wipe_4 : decode cX8_wipe 4 = .ok (.getfield 130, 3) := by decide +kernel
theorem dX8_wipe_7 : decode cX8_wipe 7 = .ok (.istore_n 1, 1) := by decide +kernel
theorem dX8_wipe_8 : decode cX8_wipe 8 = .ok (.aload_n 0, 1) := by decide +kernel
theorem dX8_wipe_9 : decode cX8_wipe 9 = .ok (.getfield 35, 3) := by decide +kernel
theorem dX8_wipe_12 : decode cX8_wipe 12 = .ok (.invokevirtual 218, 3) := by decide +kernel
theorem dX8_wipe_15 : decode cX8_wipe 15 = .ok (.iload_n 1, 1) := by decide +kernel
theorem dX8_wipe_16 : decode cX8_wipe 16 = .ok (.ireturn, 1) := by decide +kernel
theorem dX8_fault_0 : decode cX8_fault 0 = .ok (.aload_n 0, 1) := by decide +kernel
theorem dX8_fault_1 : decode cX8_fault 1 = .ok (.getfield 42, 3) := by decide +kernel
theorem dX8_fault_4 : decode cX8_fault 4 = .ok (.aload_n 0, 1) := by decide +kernel
theorem dX8_fault_5 : decode cX8_fault 5 = .ok (.getfield 35, 3) := by decide +kernel
theorem dX8_fault_8 : decode cX8_fault 8 = .ok (.invokevirtual 221, 3) := by decide +kernel
theorem dX8_fault_11 : decode cX8_fault 11 = .ok (.ireturn, 1) := by decide +kernel
theorem dX8_carryOut_0 : decode cX8_carryOut 0 = .ok (.aload_n 0, 1) := by decide +kernel
theorem dX8_carryOut_1 : decode cX8_carryOut 1 = .ok (.getfield 42, 3) := by decide +kernel
theorem dX8_carryOut_4 : decode cX8_carryOut 4 = .ok (.aload_n 0, 1) := by decide +kernel
theorem dX8_carryOut_5 : decode cX8_carryOut 5 = .ok (.getfield 35, 3) := by decide +kernel
theorem dX8_carryOut_8 : decode cX8_carryOut 8 = .ok (.invokevirtual 221, 3) := by decide +kernel
theorem dX8_carryOut_11 : decode cX8_carryOut 11 = .ok (.bipush (-6), 2) := by decide +kernel
theorem dX8_carryOut_13 : decode cX8_carryOut 13 = .ok (.if_icmp .eq 6, 3) := by decide +kernel
theorem dX8_carryOut_16 : decode cX8_carryOut 16 = .ok (.bipush (-3), 2) := by decide +kernel
theorem dX8_carryOut_18 : decode cX8_carryOut 18 = .ok (.ireturn, 1) := by decide +kernel
theorem dX8_carryOut_19 : decode cX8_carryOut 19 = .ok (.aload_n 0, 1) := by decide +kernel
theorem dX8_carryOut_20 : decode cX8_carryOut 20 = .ok (.getfield 49, 3) := by decide +kernel
theorem dX8_carryOut_23 : decode cX8_carryOut 23 = .ok (.aload_n 0, 1) := by decide +kernel
theorem dX8_carryOut_24 : decode cX8_carryOut 24 = .ok (.getfield 10, 3) := by decide +kernel
theorem dX8_carryOut_27 : decode cX8_carryOut 27 = .ok (.invokevirtual 57, 3) := by decide +kernel
theorem dX8_carryOut_30 : decode cX8_carryOut 30 = .ok (.iconst 0, 1) := by decide +kernel
theorem dX8_carryOut_31 : decode cX8_carryOut 31 = .ok (.istore_n 1, 1) := by decide +kernel
theorem dX8_carryOut_32 : decode cX8_carryOut 32 = .ok (.aload_n 0, 1) := by decide +kernel
theorem dX8_carryOut_33 : decode cX8_carryOut 33 = .ok (.getfield 42, 3) := by decide +kernel
theorem dX8_carryOut_36 : decode cX8_carryOut 36 = .ok (.invokevirtual 225, 3) := by decide +kernel
theorem dX8_carryOut_39 : decode cX8_carryOut 39 = .ok (.iload_n 1, 1) := by decide +kernel
theorem dX8_carryOut_40 : decode cX8_carryOut 40 = .ok (.bipush 80, 2) := by decide +kernel
theorem dX8_carryOut_42 : decode cX8_carryOut 42 = .ok (.if_icmp .ge 44, 3) := by decide +kernel
theorem dX8_carryOut_45 : decode cX8_carryOut 45 = .ok (.aload_n 0, 1) := by decide +kernel
theorem dX8_carryOut_46 : decode cX8_carryOut 46 = .ok (.getfield 42, 3) := by decide +kernel
theorem dX8_carryOut_49 : decode cX8_carryOut 49 = .ok (.aload_n 0, 1) := by decide +kernel
theorem dX8_carryOut_50 : decode cX8_carryOut 50 = .ok (.getfield 35, 3) := by decide +kernel
theorem dX8_carryOut_53 : decode cX8_carryOut 53 = .ok (.invokevirtual 228, 3) := by decide +kernel
theorem dX8_carryOut_56 : decode cX8_carryOut 56 = .ok (.ifCond .eq 30, 3) := by decide +kernel
theorem dX8_carryOut_59 : decode cX8_carryOut 59 = .ok (.aload_n 0, 1) := by decide +kernel
theorem dX8_carryOut_60 : decode cX8_carryOut 60 = .ok (.invokevirtual 232, 3) := by decide +kernel
theorem dX8_carryOut_63 : decode cX8_carryOut 63 = .ok (.ifCond .lt 23, 3) := by decide +kernel
theorem dX8_carryOut_66 : decode cX8_carryOut 66 = .ok (.iinc 1 1, 3) := by decide +kernel
theorem dX8_carryOut_69 : decode cX8_carryOut 69 = .ok (.aload_n 0, 1) := by decide +kernel
theorem dX8_carryOut_70 : decode cX8_carryOut 70 = .ok (.getfield 42, 3) := by decide +kernel
theorem dX8_carryOut_73 : decode cX8_carryOut 73 = .ok (.aload_n 0, 1) := by decide +kernel
theorem dX8_carryOut_74 : decode cX8_carryOut 74 = .ok (.getfield 35, 3) := by decide +kernel
theorem dX8_carryOut_77 : decode cX8_carryOut 77 = .ok (.bipush 59, 2) := by decide +kernel
theorem dX8_carryOut_79 : decode cX8_carryOut 79 = .ok (.invokevirtual 235, 3) := by decide +kernel
theorem dX8_carryOut_82 : decode cX8_carryOut 82 = .ok (.pop, 1) := by decide +kernel
theorem dX8_carryOut_83 : decode cX8_carryOut 83 = .ok (.goto (-44), 3) := by decide +kernel
theorem dX8_carryOut_86 : decode cX8_carryOut 86 = .ok (.aload_n 0, 1) := by decide +kernel
theorem dX8_carryOut_87 : decode cX8_carryOut 87 = .ok (.getfield 35, 3) := by decide +kernel
theorem dX8_carryOut_90 : decode cX8_carryOut 90 = .ok (.invokevirtual 218, 3) := by decide +kernel
theorem dX8_carryOut_93 : decode cX8_carryOut 93 = .ok (.aload_n 0, 1) := by decide +kernel
theorem dX8_carryOut_94 : decode cX8_carryOut 94 = .ok (.getfield 49, 3) := by decide +kernel
theorem dX8_carryOut_97 : decode cX8_carryOut 97 = .ok (.iload_n 1, 1) := by decide +kernel
theorem dX8_carryOut_98 : decode cX8_carryOut 98 = .ok (.invokevirtual 65, 3) := by decide +kernel
theorem dX8_carryOut_101 : decode cX8_carryOut 101 = .ok (.ireturn, 1) := by decide +kernel
theorem dX8_undo_0 : decode cX8_undo 0 = .ok (.aload_n 0, 1) := by decide +kernel
theorem dX8_undo_1 : decode cX8_undo 1 = .ok (.getfield 49, 3) := by decide +kernel
theorem dX8_undo_4 : decode cX8_undo 4 = .ok (.aload_n 0, 1) := by decide +kernel
theorem dX8_undo_5 : decode cX8_undo 5 = .ok (.getfield 10, 3) := by decide +kernel
theorem dX8_undo_8 : decode cX8_undo 8 = .ok (.invokevirtual 239, 3) := by decide +kernel
theorem dX8_undo_11 : decode cX8_undo 11 = .ok (.ifCond .eq 13, 3) := by decide +kernel
theorem dX8_undo_14 : decode cX8_undo 14 = .ok (.aload_n 0, 1) := by decide +kernel
theorem dX8_undo_15 : decode cX8_undo 15 = .ok (.getfield 49, 3) := by decide +kernel
theorem dX8_undo_18 : decode cX8_undo 18 = .ok (.getfield 187, 3) := by decide +kernel
theorem dX8_undo_21 : decode cX8_undo 21 = .ok (.goto 5, 3) := by decide +kernel
theorem dX8_undo_24 : decode cX8_undo 24 = .ok (.bipush (-5), 2) := by decide +kernel
theorem dX8_undo_26 : decode cX8_undo 26 = .ok (.ireturn, 1) := by decide +kernel
theorem dX8_save_0 : decode cX8_save 0 = .ok (.iload_n 1, 1) := by decide +kernel
theorem dX8_save_1 : decode cX8_save 1 = .ok (.ifCond .lt 12, 3) := by decide +kernel
theorem dX8_save_4 : decode cX8_save 4 = .ok (.iload_n 1, 1) := by decide +kernel
theorem dX8_save_5 : decode cX8_save 5 = .ok (.aload_n 0, 1) := by decide +kernel
theorem dX8_save_6 : decode cX8_save 6 = .ok (.getfield 53, 3) := by decide +kernel
theorem dX8_save_9 : decode cX8_save 9 = .ok (.arraylength, 1) := by decide +kernel
theorem dX8_save_10 : decode cX8_save 10 = .ok (.if_icmp .lt 6, 3) := by decide +kernel
theorem dX8_save_13 : decode cX8_save 13 = .ok (.bipush (-2), 2) := by decide +kernel
theorem dX8_save_15 : decode cX8_save 15 = .ok (.ireturn, 1) := by decide +kernel
theorem dX8_save_16 : decode cX8_save 16 = .ok (.aload_n 0, 1) := by decide +kernel
theorem dX8_save_17 : decode cX8_save 17 = .ok (.getfield 53, 3) := by decide +kernel
theorem dX8_save_20 : decode cX8_save 20 = .ok (.iload_n 1, 1) := by decide +kernel
theorem dX8_save_21 : decode cX8_save 21 = .ok (.aaload, 1) := by decide +kernel
theorem dX8_save_22 : decode cX8_save 22 = .ok (.ifnonnull 16, 3) := by decide +kernel
theorem dX8_save_25 : decode cX8_save 25 = .ok (.aload_n 0, 1) := by decide +kernel
theorem dX8_save_26 : decode cX8_save 26 = .ok (.getfield 53, 3) := by decide +kernel
theorem dX8_save_29 : decode cX8_save 29 = .ok (.iload_n 1, 1) := by decide +kernel
theorem dX8_save_30 : decode cX8_save 30 = .ok (.new 7, 3) := by decide +kernel
theorem dX8_save_33 : decode cX8_save 33 = .ok (.dup, 1) := by decide +kernel
theorem dX8_save_34 : decode cX8_save 34 = .ok (.invokespecial 9, 3) := by decide +kernel
theorem dX8_save_37 : decode cX8_save 37 = .ok (.aastore, 1) := by decide +kernel
theorem dX8_save_38 : decode cX8_save 38 = .ok (.aload_n 0, 1) := by decide +kernel
theorem dX8_save_39 : decode cX8_save 39 = .ok (.getfield 53, 3) := by decide +kernel
theorem dX8_save_42 : decode cX8_save 42 = .ok (.iload_n 1, 1) := by decide +kernel
theorem dX8_save_43 : decode cX8_save 43 = .ok (.aaload, 1) := by decide +kernel
theorem dX8_save_44 : decode cX8_save 44 = .ok (.astore_n 2, 1) := by decide +kernel
theorem dX8_save_45 : decode cX8_save 45 = .ok (.aload_n 2, 1) := by decide +kernel
theorem dX8_save_46 : decode cX8_save 46 = .ok (.aload_n 0, 1) := by decide +kernel
theorem dX8_save_47 : decode cX8_save 47 = .ok (.getfield 10, 3) := by decide +kernel
theorem dX8_save_50 : decode cX8_save 50 = .ok (.invokevirtual 243, 3) := by decide +kernel
theorem dX8_save_53 : decode cX8_save 53 = .ok (.aload_n 0, 1) := by decide +kernel
theorem dX8_save_54 : decode cX8_save 54 = .ok (.getfield 10, 3) := by decide +kernel
theorem dX8_save_57 : decode cX8_save 57 = .ok (.getfield 92, 3) := by decide +kernel
theorem dX8_save_60 : decode cX8_save 60 = .ok (.getfield 130, 3) := by decide +kernel
theorem dX8_save_63 : decode cX8_save 63 = .ok (.ireturn, 1) := by decide +kernel
theorem dX8_restore_0 : decode cX8_restore 0 = .ok (.iload_n 1, 1) := by decide +kernel
theorem dX8_restore_1 : decode cX8_restore 1 = .ok (.ifCond .lt 12, 3) := by decide +kernel
theorem dX8_restore_4 : decode cX8_restore 4 = .ok (.iload_n 1, 1) := by decide +kernel
theorem dX8_restore_5 : decode cX8_restore 5 = .ok (.aload_n 0, 1) := by decide +kernel
theorem dX8_restore_6 : decode cX8_restore 6 = .ok (.getfield 53, 3) := by decide +kernel
theorem dX8_restore_9 : decode cX8_restore 9 = .ok (.arraylength, 1) := by decide +kernel
theorem dX8_restore_10 : decode cX8_restore 10 = .ok (.if_icmp .lt 6, 3) := by decide +kernel
theorem dX8_restore_13 : decode cX8_restore 13 = .ok (.bipush (-2), 2) := by decide +kernel
theorem dX8_restore_15 : decode cX8_restore 15 = .ok (.ireturn, 1) := by decide +kernel
theorem dX8_restore_16 : decode cX8_restore 16 = .ok (.aload_n 0, 1) := by decide +kernel
theorem dX8_restore_17 : decode cX8_restore 17 = .ok (.getfield 53, 3) := by decide +kernel
theorem dX8_restore_20 : decode cX8_restore 20 = .ok (.iload_n 1, 1) := by decide +kernel
theorem dX8_restore_21 : decode cX8_restore 21 = .ok (.aaload, 1) := by decide +kernel
theorem dX8_restore_22 : decode cX8_restore 22 = .ok (.astore_n 2, 1) := by decide +kernel
theorem dX8_restore_23 : decode cX8_restore 23 = .ok (.aload_n 2, 1) := by decide +kernel
theorem dX8_restore_24 : decode cX8_restore 24 = .ok (.ifnonnull 6, 3) := by decide +kernel
theorem dX8_restore_27 : decode cX8_restore 27 = .ok (.bipush (-5), 2) := by decide +kernel
theorem dX8_restore_29 : decode cX8_restore 29 = .ok (.ireturn, 1) := by decide +kernel
theorem dX8_restore_30 : decode cX8_restore 30 = .ok (.aload_n 0, 1) := by decide +kernel
theorem dX8_restore_31 : decode cX8_restore 31 = .ok (.getfield 49, 3) := by decide +kernel
theorem dX8_restore_34 : decode cX8_restore 34 = .ok (.aload_n 0, 1) := by decide +kernel
theorem dX8_restore_35 : decode cX8_restore 35 = .ok (.getfield 10, 3) := by decide +kernel
theorem dX8_restore_38 : decode cX8_restore 38 = .ok (.invokevirtual 57, 3) := by decide +kernel
theorem dX8_restore_41 : decode cX8_restore 41 = .ok (.aload_n 0, 1) := by decide +kernel
theorem dX8_restore_42 : decode cX8_restore 42 = .ok (.getfield 10, 3) := by decide +kernel
theorem dX8_restore_45 : decode cX8_restore 45 = .ok (.aload_n 2, 1) := by decide +kernel
theorem dX8_restore_46 : decode cX8_restore 46 = .ok (.invokevirtual 243, 3) := by decide +kernel
theorem dX8_restore_49 : decode cX8_restore 49 = .ok (.aload_n 0, 1) := by decide +kernel
theorem dX8_restore_50 : decode cX8_restore 50 = .ok (.getfield 49, 3) := by decide +kernel
theorem dX8_restore_53 : decode cX8_restore 53 = .ok (.aload_n 0, 1) := by decide +kernel
theorem dX8_restore_54 : decode cX8_restore 54 = .ok (.getfield 10, 3) := by decide +kernel
theorem dX8_restore_57 : decode cX8_restore 57 = .ok (.getfield 92, 3) := by decide +kernel
theorem dX8_restore_60 : decode cX8_restore 60 = .ok (.getfield 130, 3) := by decide +kernel
theorem dX8_restore_63 : decode cX8_restore 63 = .ok (.invokevirtual 65, 3) := by decide +kernel
theorem dX8_restore_66 : decode cX8_restore 66 = .ok (.ireturn, 1) := by decide +kernel
theorem dX8_obey_0 : decode cX8_obey 0 = .ok (.aload_n 0, 1) := by decide +kernel
theorem dX8_obey_1 : decode cX8_obey 1 = .ok (.getfield 42, 3) := by decide +kernel
theorem dX8_obey_4 : decode cX8_obey 4 = .ok (.getfield 246, 3) := by decide +kernel
theorem dX8_obey_7 : decode cX8_obey 7 = .ok (.iconst 0, 1) := by decide +kernel
theorem dX8_obey_8 : decode cX8_obey 8 = .ok (.invokevirtual 95, 3) := by decide +kernel
theorem dX8_obey_11 : decode cX8_obey 11 = .ok (.istore_n 1, 1) := by decide +kernel
theorem dX8_obey_12 : decode cX8_obey 12 = .ok (.aload_n 0, 1) := by decide +kernel
theorem dX8_obey_13 : decode cX8_obey 13 = .ok (.getfield 42, 3) := by decide +kernel
theorem dX8_obey_16 : decode cX8_obey 16 = .ok (.getfield 246, 3) := by decide +kernel
theorem dX8_obey_19 : decode cX8_obey 19 = .ok (.iconst 1, 1) := by decide +kernel
theorem dX8_obey_20 : decode cX8_obey 20 = .ok (.invokevirtual 95, 3) := by decide +kernel
theorem dX8_obey_23 : decode cX8_obey 23 = .ok (.istore_n 2, 1) := by decide +kernel
theorem dX8_obey_24 : decode cX8_obey 24 = .ok (.aload_n 0, 1) := by decide +kernel
theorem dX8_obey_25 : decode cX8_obey 25 = .ok (.getfield 42, 3) := by decide +kernel
theorem dX8_obey_28 : decode cX8_obey 28 = .ok (.getfield 249, 3) := by decide +kernel
theorem dX8_obey_31 : decode cX8_obey 31 = .ok (.lookupswitch 143 #[(43, 65), (45, 71), (99, 130), (109, 81), (110, 102), (114, 112), (120, 121)], 65) := by decide +kernel
theorem dX8_obey_96 : decode cX8_obey 96 = .ok (.aload_n 0, 1) := by decide +kernel
theorem dX8_obey_97 : decode cX8_obey 97 = .ok (.iload_n 1, 1) := by decide +kernel
theorem dX8_obey_98 : decode cX8_obey 98 = .ok (.invokevirtual 252, 3) := by decide +kernel
theorem dX8_obey_101 : decode cX8_obey 101 = .ok (.ireturn, 1) := by decide +kernel
theorem dX8_obey_102 : decode cX8_obey 102 = .ok (.aload_n 0, 1) := by decide +kernel
theorem dX8_obey_103 : decode cX8_obey 103 = .ok (.getfield 10, 3) := by decide +kernel
theorem dX8_obey_106 : decode cX8_obey 106 = .ok (.iload_n 1, 1) := by decide +kernel
theorem dX8_obey_107 : decode cX8_obey 107 = .ok (.iload_n 2, 1) := by decide +kernel
theorem dX8_obey_108 : decode cX8_obey 108 = .ok (.invokevirtual 72, 3) := by decide +kernel
theorem dX8_obey_111 : decode cX8_obey 111 = .ok (.ireturn, 1) := by decide +kernel
theorem dX8_obey_112 : decode cX8_obey 112 = .ok (.aload_n 0, 1) := by decide +kernel
theorem dX8_obey_113 : decode cX8_obey 113 = .ok (.getfield 10, 3) := by decide +kernel
theorem dX8_obey_116 : decode cX8_obey 116 = .ok (.iload_n 1, 1) := by decide +kernel
theorem dX8_obey_117 : decode cX8_obey 117 = .ok (.iload_n 2, 1) := by decide +kernel
theorem dX8_obey_118 : decode cX8_obey 118 = .ok (.aload_n 0, 1) := by decide +kernel
theorem dX8_obey_119 : decode cX8_obey 119 = .ok (.getfield 42, 3) := by decide +kernel
theorem dX8_obey_122 : decode cX8_obey 122 = .ok (.getfield 246, 3) := by decide +kernel
theorem dX8_obey_125 : decode cX8_obey 125 = .ok (.iconst 2, 1) := by decide +kernel
theorem dX8_obey_126 : decode cX8_obey 126 = .ok (.invokevirtual 95, 3) := by decide +kernel
theorem dX8_obey_129 : decode cX8_obey 129 = .ok (.invokevirtual 75, 3) := by decide +kernel
theorem dX8_obey_132 : decode cX8_obey 132 = .ok (.ireturn, 1) := by decide +kernel
theorem dX8_obey_133 : decode cX8_obey 133 = .ok (.aload_n 0, 1) := by decide +kernel
theorem dX8_obey_134 : decode cX8_obey 134 = .ok (.getfield 10, 3) := by decide +kernel
theorem dX8_obey_137 : decode cX8_obey 137 = .ok (.iload_n 1, 1) := by decide +kernel
theorem dX8_obey_138 : decode cX8_obey 138 = .ok (.iload_n 2, 1) := by decide +kernel
theorem dX8_obey_139 : decode cX8_obey 139 = .ok (.invokevirtual 79, 3) := by decide +kernel
theorem dX8_obey_142 : decode cX8_obey 142 = .ok (.ireturn, 1) := by decide +kernel
theorem dX8_obey_143 : decode cX8_obey 143 = .ok (.aload_n 0, 1) := by decide +kernel
theorem dX8_obey_144 : decode cX8_obey 144 = .ok (.getfield 10, 3) := by decide +kernel
theorem dX8_obey_147 : decode cX8_obey 147 = .ok (.iload_n 1, 1) := by decide +kernel
theorem dX8_obey_148 : decode cX8_obey 148 = .ok (.invokevirtual 82, 3) := by decide +kernel
theorem dX8_obey_151 : decode cX8_obey 151 = .ok (.ireturn, 1) := by decide +kernel
theorem dX8_obey_152 : decode cX8_obey 152 = .ok (.aload_n 0, 1) := by decide +kernel
theorem dX8_obey_153 : decode cX8_obey 153 = .ok (.getfield 10, 3) := by decide +kernel
theorem dX8_obey_156 : decode cX8_obey 156 = .ok (.iload_n 1, 1) := by decide +kernel
theorem dX8_obey_157 : decode cX8_obey 157 = .ok (.invokevirtual 85, 3) := by decide +kernel
theorem dX8_obey_160 : decode cX8_obey 160 = .ok (.ireturn, 1) := by decide +kernel
theorem dX8_obey_161 : decode cX8_obey 161 = .ok (.aload_n 0, 1) := by decide +kernel
theorem dX8_obey_162 : decode cX8_obey 162 = .ok (.getfield 10, 3) := by decide +kernel
theorem dX8_obey_165 : decode cX8_obey 165 = .ok (.iload_n 1, 1) := by decide +kernel
theorem dX8_obey_166 : decode cX8_obey 166 = .ok (.aload_n 0, 1) := by decide +kernel
theorem dX8_obey_167 : decode cX8_obey 167 = .ok (.getfield 26, 3) := by decide +kernel
theorem dX8_obey_170 : decode cX8_obey 170 = .ok (.invokevirtual 88, 3) := by decide +kernel
theorem dX8_obey_173 : decode cX8_obey 173 = .ok (.ireturn, 1) := by decide +kernel
theorem dX8_obey_174 : decode cX8_obey 174 = .ok (.bipush (-5), 2) := by decide +kernel
theorem dX8_obey_176 : decode cX8_obey 176 = .ok (.ireturn, 1) := by decide +kernel
theorem dX8_writeRow_0 : decode cX8_writeRow 0 = .ok (.iconst 0, 1) := by decide +kernel
theorem dX8_writeRow_1 : decode cX8_writeRow 1 = .ok (.istore_n 2, 1) := by decide +kernel
theorem dX8_writeRow_2 : decode cX8_writeRow 2 = .ok (.aload_n 0, 1) := by decide +kernel
theorem dX8_writeRow_3 : decode cX8_writeRow 3 = .ok (.getfield 42, 3) := by decide +kernel
theorem dX8_writeRow_6 : decode cX8_writeRow 6 = .ok (.getfield 255, 3) := by decide +kernel
theorem dX8_writeRow_9 : decode cX8_writeRow 9 = .ok (.istore_n 3, 1) := by decide +kernel
theorem dX8_writeRow_10 : decode cX8_writeRow 10 = .ok (.iload_n 3, 1) := by decide +kernel
theorem dX8_writeRow_11 : decode cX8_writeRow 11 = .ok (.aload_n 0, 1) := by decide +kernel
theorem dX8_writeRow_12 : decode cX8_writeRow 12 = .ok (.getfield 42, 3) := by decide +kernel
theorem dX8_writeRow_15 : decode cX8_writeRow 15 = .ok (.getfield 258, 3) := by decide +kernel
theorem dX8_writeRow_18 : decode cX8_writeRow 18 = .ok (.if_icmp .ge 43, 3) := by decide +kernel
theorem dX8_writeRow_21 : decode cX8_writeRow 21 = .ok (.iload_n 2, 1) := by decide +kernel
theorem dX8_writeRow_22 : decode cX8_writeRow 22 = .ok (.ifCond .lt 39, 3) := by decide +kernel
theorem dX8_writeRow_25 : decode cX8_writeRow 25 = .ok (.aload_n 0, 1) := by decide +kernel
theorem dX8_writeRow_26 : decode cX8_writeRow 26 = .ok (.getfield 10, 3) := by decide +kernel
theorem dX8_writeRow_29 : decode cX8_writeRow 29 = .ok (.iload_n 1, 1) := by decide +kernel
theorem dX8_writeRow_30 : decode cX8_writeRow 30 = .ok (.iload_n 3, 1) := by decide +kernel
theorem dX8_writeRow_31 : decode cX8_writeRow 31 = .ok (.iadd, 1) := by decide +kernel
theorem dX8_writeRow_32 : decode cX8_writeRow 32 = .ok (.aload_n 0, 1) := by decide +kernel
theorem dX8_writeRow_33 : decode cX8_writeRow 33 = .ok (.getfield 42, 3) := by decide +kernel
theorem dX8_writeRow_36 : decode cX8_writeRow 36 = .ok (.getfield 255, 3) := by decide +kernel
theorem dX8_writeRow_39 : decode cX8_writeRow 39 = .ok (.isub, 1) := by decide +kernel
theorem dX8_writeRow_40 : decode cX8_writeRow 40 = .ok (.aload_n 0, 1) := by decide +kernel
theorem dX8_writeRow_41 : decode cX8_writeRow 41 = .ok (.getfield 35, 3) := by decide +kernel
theorem dX8_writeRow_44 : decode cX8_writeRow 44 = .ok (.iload_n 3, 1) := by decide +kernel
theorem dX8_writeRow_45 : decode cX8_writeRow 45 = .ok (.invokevirtual 95, 3) := by decide +kernel
theorem dX8_writeRow_48 : decode cX8_writeRow 48 = .ok (.bipush 97, 2) := by decide +kernel
theorem dX8_writeRow_50 : decode cX8_writeRow 50 = .ok (.isub, 1) := by decide +kernel
theorem dX8_writeRow_51 : decode cX8_writeRow 51 = .ok (.invokevirtual 69, 3) := by decide +kernel
theorem dX8_writeRow_54 : decode cX8_writeRow 54 = .ok (.istore_n 2, 1) := by decide +kernel
theorem dX8_writeRow_55 : decode cX8_writeRow 55 = .ok (.iinc 3 1, 3) := by decide +kernel
theorem dX8_writeRow_58 : decode cX8_writeRow 58 = .ok (.goto (-48), 3) := by decide +kernel
theorem dX8_writeRow_61 : decode cX8_writeRow 61 = .ok (.iload_n 2, 1) := by decide +kernel
theorem dX8_writeRow_62 : decode cX8_writeRow 62 = .ok (.ireturn, 1) := by decide +kernel
theorem dX8_countCharacters_0 : decode cX8_countCharacters 0 = .ok (.iconst 0, 1) := by decide +kernel
theorem dX8_countCharacters_1 : decode cX8_countCharacters 1 = .ok (.istore_n 2, 1) := by decide +kernel
theorem dX8_countCharacters_2 : decode cX8_countCharacters 2 = .ok (.lload_n 0, 1) := by decide +kernel
theorem dX8_countCharacters_3 : decode cX8_countCharacters 3 = .ok (.lstore_n 3, 1) := by decide +kernel
theorem dX8_countCharacters_4 : decode cX8_countCharacters 4 = .ok (.lload_n 3, 1) := by decide +kernel
theorem dX8_countCharacters_5 : decode cX8_countCharacters 5 = .ok (.lconst 0, 1) := by decide +kernel
theorem dX8_countCharacters_6 : decode cX8_countCharacters 6 = .ok (.lcmp, 1) := by decide +kernel
theorem dX8_countCharacters_7 : decode cX8_countCharacters 7 = .ok (.ifCond .eq 44, 3) := by decide +kernel
theorem dX8_countCharacters_10 : decode cX8_countCharacters 10 = .ok (.iload_n 2, 1) := by decide +kernel
theorem dX8_countCharacters_11 : decode cX8_countCharacters 11 = .ok (.bipush 8, 2) := by decide +kernel
theorem dX8_countCharacters_13 : decode cX8_countCharacters 13 = .ok (.if_icmp .ge 38, 3) := by decide +kernel
theorem dX8_countCharacters_16 : decode cX8_countCharacters 16 = .ok (.lload_n 3, 1) := by decide +kernel
theorem dX8_countCharacters_17 : decode cX8_countCharacters 17 = .ok (.ldc2_w 213, 3) := by decide +kernel
theorem dX8_countCharacters_20 : decode cX8_countCharacters 20 = .ok (.land, 1) := by decide +kernel
theorem dX8_countCharacters_21 : decode cX8_countCharacters 21 = .ok (.l2i, 1) := by decide +kernel
theorem dX8_countCharacters_22 : decode cX8_countCharacters 22 = .ok (.istore 5, 2) := by decide +kernel
theorem dX8_countCharacters_24 : decode cX8_countCharacters 24 = .ok (.iload 5, 2) := by decide +kernel
theorem dX8_countCharacters_26 : decode cX8_countCharacters 26 = .ok (.bipush 33, 2) := by decide +kernel
theorem dX8_countCharacters_28 : decode cX8_countCharacters 28 = .ok (.if_icmp .lt 10, 3) := by decide +kernel
theorem dX8_countCharacters_31 : decode cX8_countCharacters 31 = .ok (.iload 5, 2) := by decide +kernel
theorem dX8_countCharacters_33 : decode cX8_countCharacters 33 = .ok (.bipush 126, 2) := by decide +kernel
theorem dX8_countCharacters_35 : decode cX8_countCharacters 35 = .ok (.if_icmp .le 5, 3) := by decide +kernel
theorem dX8_countCharacters_38 : decode cX8_countCharacters 38 = .ok (.iconst 0, 1) := by decide +kernel
theorem dX8_countCharacters_39 : decode cX8_countCharacters 39 = .ok (.ireturn, 1) := by decide +kernel
theorem dX8_countCharacters_40 : decode cX8_countCharacters 40 = .ok (.lload_n 3, 1) := by decide +kernel
theorem dX8_countCharacters_41 : decode cX8_countCharacters 41 = .ok (.bipush 8, 2) := by decide +kernel
theorem dX8_countCharacters_43 : decode cX8_countCharacters 43 = .ok (.lushr, 1) := by decide +kernel
theorem dX8_countCharacters_44 : decode cX8_countCharacters 44 = .ok (.lstore_n 3, 1) := by decide +kernel
theorem dX8_countCharacters_45 : decode cX8_countCharacters 45 = .ok (.iinc 2 1, 3) := by decide +kernel
theorem dX8_countCharacters_48 : decode cX8_countCharacters 48 = .ok (.goto (-44), 3) := by decide +kernel
theorem dX8_countCharacters_51 : decode cX8_countCharacters 51 = .ok (.iload_n 2, 1) := by decide +kernel
theorem dX8_countCharacters_52 : decode cX8_countCharacters 52 = .ok (.ireturn, 1) := by decide +kernel
theorem dX8_isIn_0 : decode cX8_isIn 0 = .ok (.iload_n 1, 1) := by decide +kernel
theorem dX8_isIn_1 : decode cX8_isIn 1 = .ok (.ifCond .lt 21, 3) := by decide +kernel
theorem dX8_isIn_4 : decode cX8_isIn 4 = .ok (.iload_n 1, 1) := by decide +kernel
theorem dX8_isIn_5 : decode cX8_isIn 5 = .ok (.bipush 16, 2) := by decide +kernel
theorem dX8_isIn_7 : decode cX8_isIn 7 = .ok (.if_icmp .ge 15, 3) := by decide +kernel
theorem dX8_isIn_10 : decode cX8_isIn 10 = .ok (.iload_n 0, 1) := by decide +kernel
theorem dX8_isIn_11 : decode cX8_isIn 11 = .ok (.iload_n 1, 1) := by decide +kernel
theorem dX8_isIn_12 : decode cX8_isIn 12 = .ok (.ishr, 1) := by decide +kernel
theorem dX8_isIn_13 : decode cX8_isIn 13 = .ok (.iconst 1, 1) := by decide +kernel
theorem dX8_isIn_14 : decode cX8_isIn 14 = .ok (.iand, 1) := by decide +kernel
theorem dX8_isIn_15 : decode cX8_isIn 15 = .ok (.ifCond .eq 7, 3) := by decide +kernel
theorem dX8_isIn_18 : decode cX8_isIn 18 = .ok (.iconst 1, 1) := by decide +kernel
theorem dX8_isIn_19 : decode cX8_isIn 19 = .ok (.goto 4, 3) := by decide +kernel
theorem dX8_isIn_22 : decode cX8_isIn 22 = .ok (.iconst 0, 1) := by decide +kernel
theorem dX8_isIn_23 : decode cX8_isIn 23 = .ok (.ireturn, 1) := by decide +kernel
end
section
/-! my layer: one goal G over the heap, one row an instruction; numbers are whole numbers behind J -/
abbrev J (z : Int) : Int32 := Int32.ofInt z
abbrev rg (z : Int) : Prop := -2147483648 ≤ z ∧ z < 2147483648
theorem J_toInt {z : Int} (h : rg z) : (J z).toInt = z := by
  unfold J
  rw [Int32.toInt_ofInt]
  show z.bmod (2 ^ 32) = z
  rw [Int.bmod_eq_of_le (by omega) (by omega)]
theorem J_of (x : Int32) : x = J x.toInt := (Int32.ofInt_toInt x).symm
theorem rg_toInt (x : Int32) : rg x.toInt := by
  have h1 := Int32.le_toInt x
  have h2 := Int32.toInt_lt x
  exact ⟨by omega, by omega⟩
theorem J_add (a b : Int) : J a + J b = J (a + b) := (Int32.ofInt_add a b).symm
theorem J_sub (a b : Int) : J a - J b = J (a - b) := (Int32.ofInt_sub a b).symm
theorem J_mul (a b : Int) : J a * J b = J (a * b) := (Int32.ofInt_mul a b).symm
theorem J_inj {a b : Int} (ha : rg a) (hb : rg b) : J a = J b ↔ a = b := by
  constructor
  · intro h
    have h2 := congrArg Int32.toInt h
    rwa [J_toInt ha, J_toInt hb] at h2
  · intro h; rw [h]
theorem J_lt {a b : Int} (ha : rg a) (hb : rg b) : J a < J b ↔ a < b := by
  rw [Int32.lt_iff_toInt_lt, J_toInt ha, J_toInt hb]
theorem J_le {a b : Int} (ha : rg a) (hb : rg b) : J a ≤ J b ↔ a ≤ b := by
  rw [Int32.le_iff_toInt_le, J_toInt ha, J_toInt hb]
theorem J_0 : (0 : Int32) = J 0 := rfl
theorem J_cl {z : Int} (h : rg z) : (J z).toNatClampNeg = z.toNat := by
  show (J z).toInt.toNat = z.toNat
  rw [J_toInt h]
theorem J_in {z : Int} {n : Nat} (h0 : 0 ≤ z) (h1 : z < n) (hn : n < 2147483648) : vp_in (J z) n := by
  rw [vp_in_iff, J_toInt ⟨by omega, by omega⟩]
  exact ⟨h0, h1⟩
theorem J_nat (n : Nat) : Int32.ofNat n = J (n : Int) := by
  apply Int32.toInt_inj.mp
  first | rfl | simp [J, Int32.toInt_ofInt, Int32.toInt_ofNat']
/-- which classes, slots, array classes -/
abbrev zD : Type := (Nat → ClassId) × (Nat → Nat → Nat) × (Nat → ClassId)
def zTys (D : zD) : List (ClassId × FieldType) := [(D.2.2 0, .int), (D.2.2 1, .boolean), (D.2.2 2, .object "AnchoredNotes$Note"), (D.2.2 3, .object "AnchoredNotes$Page")]
/-- private members of nest mates that are called -/
def zNest : List Cond := [.methodLinkNest RX4 34 yX5_init RX8, .methodLinkNest RX4 42 yX2_init RX8, .methodLinkNest RX8 18 yX1_init RX8, .methodLinkNest RX8 25 yX7_init RX8, .methodLinkNest RX8 41 yX3_init RX8, .methodLinkNest RX8 48 yX0_init RX8, .methodLinkNest RX5 33 yX8_isIn RX8, .methodLinkNest RX4 118 yX8_isIn RX8]
def zKn (D : zD) (U : State) : Prop := va_K (D.1, D.2.1) vwCl (zTys D) U ∧ va_AO "AnchoredNotes$Note" U ∧ va_AO "AnchoredNotes$Page" U ∧ ∀ w ∈ zNest, va_Nw w U
theorem zKn.warm {D : zD} {u U : State} (hW : u.WarmedH U.vm) (h : zKn D u) : zKn D U := by
  refine ⟨h.1.moved hW.alike, h.2.1.moved hW.alike, h.2.2.1.moved hW.alike, fun w hw => ?_⟩
  have h2 := h.2.2.2 w hw
  simp only [zNest, List.mem_cons, List.not_mem_nil, or_false] at hw
  rcases hw with rfl | rfl | rfl | rfl | rfl | rfl | rfl | rfl <;> exact va_Nw.warmM hW h2
theorem zKn.calling {D : zD} {u : State} {g : JFrame} {mk : MethodId} {a : Array Value} (h : zKn D u) : zKn D (u.calling g mk a) := by
  refine ⟨va_K.moved (u := u) (U := u.calling g mk a) (Vm.Alike.refl u.vm) h.1, va_AO.moved (u := u) (U := u.calling g mk a) (Vm.Alike.refl u.vm) h.2.1, va_AO.moved (u := u) (U := u.calling g mk a) (Vm.Alike.refl u.vm) h.2.2.1, fun w hw => ?_⟩
  have h2 := h.2.2.2 w hw
  simp only [zNest, List.mem_cons, List.not_mem_nil, or_false] at hw
  rcases hw with rfl | rfl | rfl | rfl | rfl | rfl | rfl | rfl <;> exact va_Nw.same rfl rfl h2
/-- an object; a row of ints; a row of flags; a row of references -/
def Ob (D : zD) (q ci : Nat) (fs : List Value) (H : Heap) : Prop := va_at (D.1, D.2.1) vwCl (q, .inr (ci, fs)) H
def Ia (D : zD) (q N : Nat) (f : Int → Int) (H : Heap) : Prop := va_at (D.1, D.2.1) vwCl (q, .inl (D.2.2 0, N, .inl (fun j => J (f j)))) H
def Ba (D : zD) (q N : Nat) (f : Int → Int) (H : Heap) : Prop := va_at (D.1, D.2.1) vwCl (q, .inl (D.2.2 1, N, .inl (fun j => J (f j)))) H
def Ra (D : zD) (q t N : Nat) (f : Int → Option Nat) (H : Heap) : Prop := va_at (D.1, D.2.1) vwCl (q, .inl (D.2.2 t, N, .inr (.inr (.inr (.inr (fun j => f j)))))) H
/-- one cell is written; some cells may be written -/
def Up1 (a : Nat) (H H' : Heap) : Prop := H'.size = H.size ∧ ∀ q : Nat, q ≠ a → H'[q]? = H[q]?
def Iv (a b : Nat) : Nat → Prop := fun q => a ≤ q ∧ q < b
/-- outside F all stays; d cells are new -/
def Fr (F : Nat → Prop) (d : Nat) (H H' : Heap) : Prop := H'.size = H.size + d ∧ ∀ q : Nat, q < H.size → ¬ F q → H'[q]? = H[q]?
theorem va_at_fit {D : va_G} {cl : List vw_C} {q : Nat × va_E} {H : Heap} (h : va_at D cl q H) : q.1 < H.size := h.lt
theorem Ob.lt {D : zD} {q ci : Nat} {fs : List Value} {H : Heap} (h : Ob D q ci fs H) : q < H.size := va_at_fit (q := (q, _)) h
theorem Ia.lt {D : zD} {q N : Nat} {f : Int → Int} {H : Heap} (h : Ia D q N f H) : q < H.size := va_at_fit (q := (q, _)) h
theorem Ba.lt {D : zD} {q N : Nat} {f : Int → Int} {H : Heap} (h : Ba D q N f H) : q < H.size := va_at_fit (q := (q, _)) h
theorem Ra.lt {D : zD} {q t N : Nat} {f : Int → Option Nat} {H : Heap} (h : Ra D q t N f H) : q < H.size := va_at_fit (q := (q, _)) h
theorem Ob.kept {D : zD} {q ci : Nat} {fs : List Value} {H H' : Heap} (h : Ob D q ci fs H) (e : H'[q]? = H[q]?) : Ob D q ci fs H' := va_at.kept (q := (q, _)) h e
theorem Ia.kept {D : zD} {q N : Nat} {f : Int → Int} {H H' : Heap} (h : Ia D q N f H) (e : H'[q]? = H[q]?) : Ia D q N f H' := va_at.kept (q := (q, _)) h e
theorem Ba.kept {D : zD} {q N : Nat} {f : Int → Int} {H H' : Heap} (h : Ba D q N f H) (e : H'[q]? = H[q]?) : Ba D q N f H' := va_at.kept (q := (q, _)) h e
theorem Ra.kept {D : zD} {q t N : Nat} {f : Int → Option Nat} {H H' : Heap} (h : Ra D q t N f H) (e : H'[q]? = H[q]?) : Ra D q t N f H' := va_at.kept (q := (q, _)) h e
theorem Iv.off {a b q : Nat} (h : q < a ∨ b ≤ q) : ¬ Iv a b q := fun e => by have h1 := e.1; have h2 := e.2; omega
theorem Up1.fr {a : Nat} {H H' : Heap} (h : Up1 a H H') : Fr (Iv a (a + 1)) 0 H H' := ⟨h.1, fun q _ hq => h.2 q (fun e => hq ⟨by omega, by omega⟩)⟩
theorem Fr.refl (F : Nat → Prop) (H : Heap) : Fr F 0 H H := ⟨rfl, fun _ _ _ => rfl⟩
theorem Fr.trans {F : Nat → Prop} {d d' : Nat} {H1 H2 H3 : Heap} (h : Fr F d H1 H2) (h' : Fr F d' H2 H3) : Fr F (d + d') H1 H3 := ⟨by rw [h'.1, h.1, Nat.add_assoc], fun q h1 h2 => (h'.2 q (by rw [h.1]; omega) h2).trans (h.2 q h1 h2)⟩
theorem Fr.trans0 {F : Nat → Prop} {H1 H2 H3 : Heap} (h : Fr F 0 H1 H2) (h' : Fr F 0 H2 H3) : Fr F 0 H1 H3 := h.trans h'
theorem Fr.mono {F F' : Nat → Prop} {d : Nat} {H1 H2 : Heap} (h : Fr F d H1 H2) (hF : ∀ q, q < H1.size → F q → F' q) : Fr F' d H1 H2 := ⟨h.1, fun q h1 h2 => h.2 q h1 (fun e => h2 (hF q h1 e))⟩
theorem Fr.wide {a b a' b' d : Nat} {H1 H2 : Heap} (h : Fr (Iv a b) d H1 H2) (h1 : a' ≤ a) (h2 : b ≤ b') : Fr (Iv a' b') d H1 H2 := h.mono (fun q _ e => ⟨Nat.le_trans h1 e.1, Nat.lt_of_lt_of_le e.2 h2⟩)
theorem Fr.new {H H1 : Heap} {a b d : Nat} (h : H1.size = H.size + d) (o : ∀ q : Nat, q < H.size → H1[q]? = H[q]?) : Fr (Iv a b) d H H1 := ⟨h, fun q h1 _ => o q h1⟩
theorem Fr.any {F : Nat → Prop} {d : Nat} {H H1 : Heap} (h : Fr (Iv 0 0) d H H1) : Fr F d H H1 := ⟨h.1, fun q h1 _ => h.2 q h1 (Iv.off (Or.inr (Nat.zero_le q)))⟩
theorem Ob.fr {D : zD} {q ci a b d : Nat} {fs : List Value} {H H' : Heap} (h : Ob D q ci fs H) (f : Fr (Iv a b) d H H') (e : q < a ∨ b ≤ q) : Ob D q ci fs H' := h.kept (f.2 q h.lt (Iv.off e))
theorem Ia.fr {D : zD} {q N a b d : Nat} {g : Int → Int} {H H' : Heap} (h : Ia D q N g H) (f : Fr (Iv a b) d H H') (e : q < a ∨ b ≤ q) : Ia D q N g H' := h.kept (f.2 q h.lt (Iv.off e))
theorem Ba.fr {D : zD} {q N a b d : Nat} {g : Int → Int} {H H' : Heap} (h : Ba D q N g H) (f : Fr (Iv a b) d H H') (e : q < a ∨ b ≤ q) : Ba D q N g H' := h.kept (f.2 q h.lt (Iv.off e))
theorem Ra.fr {D : zD} {q t N a b d : Nat} {g : Int → Option Nat} {H H' : Heap} (h : Ra D q t N g H) (f : Fr (Iv a b) d H H') (e : q < a ∨ b ≤ q) : Ra D q t N g H' := h.kept (f.2 q h.lt (Iv.off e))
/-- all that is fixed in a method's walk -/
abbrev zC : Type := Program × Launch × Env × Room × State × MethodId × Array Value × List Frame × Method × Code × Nat × Nat × (State → Prop)
section
variable (K : zC)
abbrev zp : Program := K.1
abbrev zl : Launch := K.2.1
abbrev ze : Env := K.2.2.1
abbrev zR : Room := K.2.2.2.1
abbrev zs : State := K.2.2.2.2.1
abbrev zm : MethodId := K.2.2.2.2.2.1
abbrev zar : Array Value := K.2.2.2.2.2.2.1
abbrev zbe : List Frame := K.2.2.2.2.2.2.2.1
abbrev zme : Method := K.2.2.2.2.2.2.2.2.1
abbrev zc : Code := K.2.2.2.2.2.2.2.2.2.1
abbrev znL : Nat := K.2.2.2.2.2.2.2.2.2.2.1
abbrev zba : Nat := K.2.2.2.2.2.2.2.2.2.2.2.1
abbrev zQ : State → Prop := K.2.2.2.2.2.2.2.2.2.2.2.2
end
def G (K : zC) (n k : Nat) (H : Heap) (pc : Nat) (lv : List (Nat × Value)) (st : List Value) : Prop :=
  ∀ (locs : List Loc) (ls : Array Slot), va_S (fun q => zba K ≤ q) (zs K).heap H locs → lv_has ls (znL K) lv →
    W (zp K) (zl K) (ze K) (zR K) (zs K) (zm K) (zar K) (zbe K) (zme K) (zc K) H locs n k (zQ K) (F0 (zm K) pc ls st)
def GX (K : zC) (cc : ByteArray) (own : String) (Ts : List Cond) (D : zD) (base : Nat) (rm : Room) (nL : Nat) : Prop :=
  (zp K).tables.exec = Jvm.exec ∧ (zc K).code = cc ∧ (zc K).maxLocals = nL ∧ (zs K).vm.findClass own = some (zm K).cls ∧ (∀ w ∈ Ts, w.before (zar K) (zs K) = true) ∧ zKn D (zs K) ∧ base ≤ (zs K).heap.size ∧ zba K = base ∧ zR K = rm ∧ znL K = nL ∧ (zme K).locks = false
/-- a method's end, over its first heap -/
def CtQ (base : Nat) (Post : Heap → Option Value → Heap → Prop) : Array Value → State → Outcome → State → Prop := fun _ st o t => (∃ v : Option Value, o = .returned v ∧ Post st.heap v t.heap) ∧ va_F (fun q => base ≤ q) st t
def GR (K : zC) (ret : Option FieldType) (base mc ms : Nat) (Post : Heap → Option Value → Heap → Prop) : Prop :=
  (zme K).sig.returnType = ret ∧ zQ K = MQ (zbe K) (CtQ base Post) (zar K) (zs K) mc ms (fun q => base ≤ q)
/-- a method's contract: over every heap of which Pre holds -/
def Ct (l : Launch) (y : MethodName) (ws : List Cond) (rm : Room) (D : zD) (base : Nat) (As : List Value) (Pre : Heap → Prop) (Post : Heap → Option Value → Heap → Prop) : Prop :=
  Met l y ws rm (va_Pc As (fun U => base ≤ U.heap.size ∧ zKn D U ∧ Pre U.heap)) (CtQ base Post) rm.cells rm.slots (fun q => base ≤ q)
theorem Ct.of {l : Launch} {y : MethodName} {ws ws' : List Cond} {rm : Room} {D : zD} {base : Nat} {As : List Value} {Pre : Heap → Prop} {Post : Heap → Option Value → Heap → Prop} {cc : ByteArray} {maxL : Nat} {ret : Option FieldType} {own : String} (hy : plainName y.cls = true) (hw : ws = Cond.code y cc maxL ret :: ws') (hAs : (lg_sl As).length ≤ maxL) (ho : y.cls = own)
    (body : ∀ (K : zC) (H : Heap), GX K cc own ws D base rm maxL → GR K ret base rm.cells rm.slots Post → (zs K).heap = H → (zme K).name = y.name → Pre H → G K 0 0 H 0 (lv_args 0 As) []) : Ct l y ws rm D base As Pre Post := by
  refine Met.ofW (cc := cc) (maxL := maxL) (ret := ret) hy hw ?_
  intro p e s m args below meth c s₁ B hml hv
  obtain ⟨rfl, hbase, hK, hP⟩ := hv
  have hx := B.exec
  have hb := B.bytes
  have hr := B.returns
  have hts := atoms_spec (ws := ws) B.pre
  have hown : s.vm.findClass own = some m.cls := by rw [← ho]; exact findClass_of_methodNamed B.named
  have hlocks := B.notSynchronized
  have hnm : meth.name = y.name := (name_of_methodNamed B.named B.method).1
  have hl := lv_entry As (n := maxL) hAs
  rw [lg_entry_eq]
  have := body (p, l, e, rm, s, m, As.toArray, below, meth, c, maxL, base, MQ below (CtQ base Post) As.toArray s rm.cells rm.slots (fun q => base ≤ q)) s.heap ⟨hx, hb, hml, hown, hts, hK, hbase, rfl, rfl, rfl, hlocks⟩ ⟨hr, rfl⟩ rfl hnm hP
  exact this [] _ va_S.rf hl
end
section
section
variable {K : zC} {n k : Nat} {H : Heap} {pc : Nat} {lv : List (Nat × Value)} {st : List Value} {cc : ByteArray} {own : String} {Ts : List Cond} {D : zD} {base : Nat} {rm : Room} {nL : Nat}
theorem G.widen {n' k' : Nat} (h1 : n ≤ n') (h2 : k ≤ k') (kk : G K n' k' H pc lv st) : G K n k H pc lv st := fun locs ls hS hl => W.widen h1 h2 (kk locs ls hS hl)
theorem G.pick {lv' : List (Nat × Value)} (ks : List Nat) (hl : lv_pick lv ks = lv') (kk : G K n k H pc lv' st) : G K n k H pc lv st := fun locs ls hS h => kk locs ls hS (lv_sub h ks hl)
theorem g_iload (X : GX K cc own Ts D base rm nL) {i pl : Nat} {x : Int32} (hd : decode cc pc = .ok (.iload i, 2)) (hl : lv[pl]? = some (i, .int x)) (kk : G K n k H (pc + 2) lv (.int x :: st)) : G K n k H pc lv (st) := fun locs ls hS h => lv_iload X.1 X.2.1 hd (lv_at h pl hl) (kk locs ls hS h)
theorem g_iload_n (X : GX K cc own Ts D base rm nL) {j : Fin 4} {pl : Nat} {x : Int32} (hd : decode cc pc = .ok (.iload_n j, 1)) (hl : lv[pl]? = some ((j : Nat), .int x)) (kk : G K n k H (pc + 1) lv (.int x :: st)) : G K n k H pc lv (st) := fun locs ls hS h => lv_iload_n X.1 X.2.1 hd rfl (lv_at h pl hl) (kk locs ls hS h)
theorem g_lload_n (X : GX K cc own Ts D base rm nL) {j : Fin 4} {pl : Nat} {x : Int64} (hd : decode cc pc = .ok (.lload_n j, 1)) (hl : lv[pl]? = some ((j : Nat), .long x)) (kk : G K n k H (pc + 1) lv (.long x :: st)) : G K n k H pc lv (st) := fun locs ls hS h => lv_lload_n X.1 X.2.1 hd rfl (lv_at h pl hl) (kk locs ls hS h)
theorem g_aload (X : GX K cc own Ts D base rm nL) {i pl : Nat} {x : Nat} (hd : decode cc pc = .ok (.aload i, 2)) (hl : lv[pl]? = some (i, .ref x)) (kk : G K n k H (pc + 2) lv (.ref x :: st)) : G K n k H pc lv (st) := fun locs ls hS h => lv_aload X.1 X.2.1 hd (lv_at h pl hl) (kk locs ls hS h)
theorem g_aload_n (X : GX K cc own Ts D base rm nL) {j : Fin 4} {pl : Nat} {x : Nat} (hd : decode cc pc = .ok (.aload_n j, 1)) (hl : lv[pl]? = some ((j : Nat), .ref x)) (kk : G K n k H (pc + 1) lv (.ref x :: st)) : G K n k H pc lv (st) := fun locs ls hS h => lv_aload_n X.1 X.2.1 hd rfl (lv_at h pl hl) (kk locs ls hS h)
theorem g_aloadN (X : GX K cc own Ts D base rm nL) {i pl : Nat} (hd : decode cc pc = .ok (.aload i, 2)) (hl : lv[pl]? = some (i, .null)) (kk : G K n k H (pc + 2) lv (.null :: st)) : G K n k H pc lv (st) := fun locs ls hS h => lv_aloadN X.1 X.2.1 hd (lv_at h pl hl) (kk locs ls hS h)
theorem g_aload_nN (X : GX K cc own Ts D base rm nL) {j : Fin 4} {pl : Nat} (hd : decode cc pc = .ok (.aload_n j, 1)) (hl : lv[pl]? = some ((j : Nat), .null)) (kk : G K n k H (pc + 1) lv (.null :: st)) : G K n k H pc lv (st) := fun locs ls hS h => lv_aload_nN X.1 X.2.1 hd rfl (lv_at h pl hl) (kk locs ls hS h)
theorem g_istore (X : GX K cc own Ts D base rm nL) {i : Nat} {x : Int32} {lv' : List (Nat × Value)} (hd : decode cc pc = .ok (.istore i, 2)) (hn : i < nL) (hl : (i, Value.int x) :: lv.filter (fun q => !(q.1 == i) && !(q.1 + 1 == i && q.2.category == 2)) = lv') (kk : G K n k H (pc + 2) lv' st) : G K n k H pc lv (Value.int x :: st) := fun locs ls hS h => lv_istore X.1 X.2.1 hd  h (by rw [X.2.2.2.2.2.2.2.2.2.1]; exact hn) hl (fun ls2 h2 => kk locs ls2 hS h2)
theorem g_istore_n (X : GX K cc own Ts D base rm nL) {j : Fin 4} {x : Int32} {lv' : List (Nat × Value)} (hd : decode cc pc = .ok (.istore_n j, 1)) (hn : (j : Nat) < nL) (hl : ((j : Nat), Value.int x) :: lv.filter (fun q => !(q.1 == (j : Nat)) && !(q.1 + 1 == (j : Nat) && q.2.category == 2)) = lv') (kk : G K n k H (pc + 1) lv' st) : G K n k H pc lv (Value.int x :: st) := fun locs ls hS h => lv_istore_n X.1 X.2.1 hd rfl h (by rw [X.2.2.2.2.2.2.2.2.2.1]; exact hn) hl (fun ls2 h2 => kk locs ls2 hS h2)
theorem g_astore (X : GX K cc own Ts D base rm nL) {i : Nat} {x : Nat} {lv' : List (Nat × Value)} (hd : decode cc pc = .ok (.astore i, 2)) (hn : i < nL) (hl : (i, Value.ref x) :: lv.filter (fun q => !(q.1 == i) && !(q.1 + 1 == i && q.2.category == 2)) = lv') (kk : G K n k H (pc + 2) lv' st) : G K n k H pc lv (Value.ref x :: st) := fun locs ls hS h => lv_astore X.1 X.2.1 hd  h (by rw [X.2.2.2.2.2.2.2.2.2.1]; exact hn) hl (fun ls2 h2 => kk locs ls2 hS h2)
theorem g_astore_n (X : GX K cc own Ts D base rm nL) {j : Fin 4} {x : Nat} {lv' : List (Nat × Value)} (hd : decode cc pc = .ok (.astore_n j, 1)) (hn : (j : Nat) < nL) (hl : ((j : Nat), Value.ref x) :: lv.filter (fun q => !(q.1 == (j : Nat)) && !(q.1 + 1 == (j : Nat) && q.2.category == 2)) = lv') (kk : G K n k H (pc + 1) lv' st) : G K n k H pc lv (Value.ref x :: st) := fun locs ls hS h => lv_astore_n X.1 X.2.1 hd rfl h (by rw [X.2.2.2.2.2.2.2.2.2.1]; exact hn) hl (fun ls2 h2 => kk locs ls2 hS h2)
theorem g_astoreN (X : GX K cc own Ts D base rm nL) {i : Nat} {lv' : List (Nat × Value)} (hd : decode cc pc = .ok (.astore i, 2)) (hn : i < nL) (hl : (i, Value.null) :: lv.filter (fun q => !(q.1 == i) && !(q.1 + 1 == i && q.2.category == 2)) = lv') (kk : G K n k H (pc + 2) lv' st) : G K n k H pc lv (Value.null :: st) := fun locs ls hS h => lv_astoreN X.1 X.2.1 hd  h (by rw [X.2.2.2.2.2.2.2.2.2.1]; exact hn) hl (fun ls2 h2 => kk locs ls2 hS h2)
theorem g_astore_nN (X : GX K cc own Ts D base rm nL) {j : Fin 4} {lv' : List (Nat × Value)} (hd : decode cc pc = .ok (.astore_n j, 1)) (hn : (j : Nat) < nL) (hl : ((j : Nat), Value.null) :: lv.filter (fun q => !(q.1 == (j : Nat)) && !(q.1 + 1 == (j : Nat) && q.2.category == 2)) = lv') (kk : G K n k H (pc + 1) lv' st) : G K n k H pc lv (Value.null :: st) := fun locs ls hS h => lv_astore_nN X.1 X.2.1 hd rfl h (by rw [X.2.2.2.2.2.2.2.2.2.1]; exact hn) hl (fun ls2 h2 => kk locs ls2 hS h2)
theorem g_lstore_n (X : GX K cc own Ts D base rm nL) {j : Fin 4} {x : Int64} {lv' : List (Nat × Value)} (hd : decode cc pc = .ok (.lstore_n j, 1)) (hn : (j : Nat) + 1 < nL) (hl : ((j : Nat), Value.long x) :: lv.filter (fun q => !(q.1 == (j : Nat)) && (!(q.1 == (j : Nat) + 1) && !(q.1 + 1 == (j : Nat) && q.2.category == 2))) = lv') (kk : G K n k H (pc + 1) lv' st) : G K n k H pc lv (Value.long x :: st) := fun locs ls hS h => lv_lstore_n X.1 X.2.1 hd rfl h (by rw [X.2.2.2.2.2.2.2.2.2.1]; exact hn) hl (fun ls2 h2 => kk locs ls2 hS h2)
theorem g_iinc (X : GX K cc own Ts D base rm nL) {i pl : Nat} {m x : Int} {lv' : List (Nat × Value)} (hd : decode cc pc = .ok (.iinc i m, 3)) (hk : lv[pl]? = some (i, .int (J x))) (hn : i < nL) (hl : (i, Value.int (J (x + m))) :: lv.filter (fun q => !(q.1 == i) && !(q.1 + 1 == i && q.2.category == 2)) = lv') (kk : G K n k H (pc + 3) lv' st) : G K n k H pc lv st := fun locs ls hS h => lv_iinc X.1 X.2.1 hd h hk (J_add x m) (by rw [X.2.2.2.2.2.2.2.2.2.1]; exact hn) hl (fun ls2 h2 => kk locs ls2 hS h2)
theorem g_iconst (X : GX K cc own Ts D base rm nL) {z : Int} (hd : decode cc pc = .ok (.iconst z, 1)) (kk : G K n k H (pc + 1) lv (.int (J z) :: st)) : G K n k H pc lv (st) := fun locs ls hS h => lv_iconst X.1 X.2.1 hd rfl (kk locs ls hS h)
theorem g_bipush (X : GX K cc own Ts D base rm nL) {z : Int} (hd : decode cc pc = .ok (.bipush z, 2)) (hv : (Int8.ofInt z).toInt32 = J z) (kk : G K n k H (pc + 2) lv (.int (J z) :: st)) : G K n k H pc lv (st) := fun locs ls hS h => lv_bipush X.1 X.2.1 hd hv (kk locs ls hS h)
theorem g_sipush (X : GX K cc own Ts D base rm nL) {z : Int} (hd : decode cc pc = .ok (.sipush z, 3)) (hv : (Int16.ofInt z).toInt32 = J z) (kk : G K n k H (pc + 3) lv (.int (J z) :: st)) : G K n k H pc lv (st) := fun locs ls hS h => lv_sipush X.1 X.2.1 hd hv (kk locs ls hS h)
theorem g_iadd (X : GX K cc own Ts D base rm nL) {a b : Int} (hd : decode cc pc = .ok (.iadd, 1)) (kk : G K n k H (pc + 1) lv (.int (J (a + b)) :: st)) : G K n k H pc lv (.int (J b) :: .int (J a) :: st) := fun locs ls hS h => lv_iadd X.1 X.2.1 hd (by rw [J_add]; exact (kk locs ls hS h))
theorem g_isub (X : GX K cc own Ts D base rm nL) {a b : Int} (hd : decode cc pc = .ok (.isub, 1)) (kk : G K n k H (pc + 1) lv (.int (J (a - b)) :: st)) : G K n k H pc lv (.int (J b) :: .int (J a) :: st) := fun locs ls hS h => lv_isub X.1 X.2.1 hd (by rw [J_sub]; exact (kk locs ls hS h))
theorem g_imul (X : GX K cc own Ts D base rm nL) {a b : Int} (hd : decode cc pc = .ok (.imul, 1)) (kk : G K n k H (pc + 1) lv (.int (J (a * b)) :: st)) : G K n k H pc lv (.int (J b) :: .int (J a) :: st) := fun locs ls hS h => lv_imul X.1 X.2.1 hd (by rw [J_mul]; exact (kk locs ls hS h))
theorem g_iand (X : GX K cc own Ts D base rm nL) {x y z : Int32} (hd : decode cc pc = .ok (.iand, 1)) (hz : x &&& y = z) (kk : G K n k H (pc + 1) lv (.int z :: st)) : G K n k H pc lv (.int y :: .int x :: st) := fun locs ls hS h => lv_iand X.1 X.2.1 hd (by rw [hz]; exact (kk locs ls hS h))
theorem g_ior (X : GX K cc own Ts D base rm nL) {x y z : Int32} (hd : decode cc pc = .ok (.ior, 1)) (hz : x ||| y = z) (kk : G K n k H (pc + 1) lv (.int z :: st)) : G K n k H pc lv (.int y :: .int x :: st) := fun locs ls hS h => lv_ior X.1 X.2.1 hd (by rw [hz]; exact (kk locs ls hS h))
theorem g_ixor (X : GX K cc own Ts D base rm nL) {x y z : Int32} (hd : decode cc pc = .ok (.ixor, 1)) (hz : x ^^^ y = z) (kk : G K n k H (pc + 1) lv (.int z :: st)) : G K n k H pc lv (.int y :: .int x :: st) := fun locs ls hS h => lv_ixor X.1 X.2.1 hd (by rw [hz]; exact (kk locs ls hS h))
theorem g_ishl (X : GX K cc own Ts D base rm nL) {x y z : Int32} (hd : decode cc pc = .ok (.ishl, 1)) (hz : x <<< (y &&& 31) = z) (kk : G K n k H (pc + 1) lv (.int z :: st)) : G K n k H pc lv (.int y :: .int x :: st) := fun locs ls hS h => lv_ishl X.1 X.2.1 hd (by rw [hz]; exact (kk locs ls hS h))
theorem g_ishr (X : GX K cc own Ts D base rm nL) {x y z : Int32} (hd : decode cc pc = .ok (.ishr, 1)) (hz : x >>> (y &&& 31) = z) (kk : G K n k H (pc + 1) lv (.int z :: st)) : G K n k H pc lv (.int y :: .int x :: st) := fun locs ls hS h => lv_ishr X.1 X.2.1 hd (by rw [hz]; exact (kk locs ls hS h))
theorem g_idiv (X : GX K cc own Ts D base rm nL) {x y z : Int32} (hd : decode cc pc = .ok (.idiv, 1)) (hne : ¬ y = 0) (hz : x / y = z) (kk : G K n k H (pc + 1) lv (.int z :: st)) : G K n k H pc lv (.int y :: .int x :: st) := fun locs ls hS h => lv_idiv X.1 X.2.1 hd hne (by rw [hz]; exact (kk locs ls hS h))
theorem g_dup (X : GX K cc own Ts D base rm nL) {v : Value} (hd : decode cc pc = .ok (.dup, 1)) (hv : v.category = 1) (kk : G K n k H (pc + 1) lv (v :: v :: st)) : G K n k H pc lv (v :: st) := fun locs ls hS h => lv_dup X.1 X.2.1 hd hv (kk locs ls hS h)
theorem g_dup2 (X : GX K cc own Ts D base rm nL) {v u : Value} (hd : decode cc pc = .ok (.dup2, 1)) (hv : v.category = 1) (hu : u.category = 1) (kk : G K n k H (pc + 1) lv (v :: u :: v :: u :: st)) : G K n k H pc lv (v :: u :: st) := fun locs ls hS h => lv_dup2_11 X.1 X.2.1 hd hv hu (kk locs ls hS h)
theorem g_pop (X : GX K cc own Ts D base rm nL) {v : Value} (hd : decode cc pc = .ok (.pop, 1)) (hv : v.category = 1) (kk : G K n k H (pc + 1) lv (st)) : G K n k H pc lv (v :: st) := fun locs ls hS h => lv_pop X.1 X.2.1 hd hv (kk locs ls hS h)
theorem g_null (X : GX K cc own Ts D base rm nL) (hd : decode cc pc = .ok (.aconst_null, 1)) (kk : G K n k H (pc + 1) lv (.null :: st)) : G K n k H pc lv (st) := fun locs ls hS h => lv_null X.1 X.2.1 hd (kk locs ls hS h)
theorem g_lushr (X : GX K cc own Ts D base rm nL) {x v : Int64} {y : Int32} (hd : decode cc pc = .ok (.lushr, 1)) (hv : (x.toUInt64 >>> (y.toInt64.toUInt64 &&& Int64.toUInt64 63)).toInt64 = v) (kk : G K n k H (pc + 1) lv (.long v :: st)) : G K n k H pc lv (.int y :: .long x :: st) := fun locs ls hS h => lv_lushr X.1 X.2.1 hd hv (kk locs ls hS h)
theorem g_lshr (X : GX K cc own Ts D base rm nL) {x v : Int64} {y : Int32} (hd : decode cc pc = .ok (.lshr, 1)) (hv : x >>> (y.toInt64 &&& 63) = v) (kk : G K n k H (pc + 1) lv (.long v :: st)) : G K n k H pc lv (.int y :: .long x :: st) := fun locs ls hS h => lv_lshr X.1 X.2.1 hd hv (kk locs ls hS h)
theorem g_lshl (X : GX K cc own Ts D base rm nL) {x v : Int64} {y : Int32} (hd : decode cc pc = .ok (.lshl, 1)) (hv : x <<< (y.toInt64 &&& 63) = v) (kk : G K n k H (pc + 1) lv (.long v :: st)) : G K n k H pc lv (.int y :: .long x :: st) := fun locs ls hS h => lv_lshl X.1 X.2.1 hd hv (kk locs ls hS h)
theorem g_land (X : GX K cc own Ts D base rm nL) {x y z : Int64} (hd : decode cc pc = .ok (.land, 1)) (hz : x &&& y = z) (kk : G K n k H (pc + 1) lv (.long z :: st)) : G K n k H pc lv (.long y :: .long x :: st) := fun locs ls hS h => lv_land X.1 X.2.1 hd (by rw [hz]; exact (kk locs ls hS h))
theorem g_lor (X : GX K cc own Ts D base rm nL) {x y z : Int64} (hd : decode cc pc = .ok (.lor, 1)) (hz : x ||| y = z) (kk : G K n k H (pc + 1) lv (.long z :: st)) : G K n k H pc lv (.long y :: .long x :: st) := fun locs ls hS h => lv_lor X.1 X.2.1 hd (by rw [hz]; exact (kk locs ls hS h))
theorem g_l2i (X : GX K cc own Ts D base rm nL) {x : Int64} {v : Int32} (hd : decode cc pc = .ok (.l2i, 1)) (hv : x.toInt32 = v) (kk : G K n k H (pc + 1) lv (.int v :: st)) : G K n k H pc lv (.long x :: st) := fun locs ls hS h => lv_l2i X.1 X.2.1 hd hv (kk locs ls hS h)
theorem g_i2l (X : GX K cc own Ts D base rm nL) {x : Int32} {v : Int64} (hd : decode cc pc = .ok (.i2l, 1)) (hv : x.toInt64 = v) (kk : G K n k H (pc + 1) lv (.long v :: st)) : G K n k H pc lv (.int x :: st) := fun locs ls hS h => lv_i2l X.1 X.2.1 hd hv (kk locs ls hS h)
theorem g_lconst (X : GX K cc own Ts D base rm nL) {j : Fin 2} {v : Int64} (hd : decode cc pc = .ok (.lconst j, 1)) (hv : Int64.ofNat (j : Nat) = v) (kk : G K n k H (pc + 1) lv (.long v :: st)) : G K n k H pc lv (st) := fun locs ls hS h => lv_lconst X.1 X.2.1 hd hv (kk locs ls hS h)
theorem g_ldc2 (X : GX K cc own Ts D base rm nL) {v : Int64} {index : Nat} (hc : Cond.constantLong own index v ∈ Ts) (hd : decode cc pc = .ok (.ldc2_w index, 3)) (kk : G K n k H (pc + 3) lv (.long v :: st)) : G K n k H pc lv (st) := fun locs ls hS h => lv_ldc2 X.1 X.2.1 X.2.2.2.1 (X.2.2.2.2.1 _ hc) hd (kk locs ls hS h)
theorem g_ldc (X : GX K cc own Ts D base rm nL) {v : Int32} {index : Nat} (hc : Cond.constant own index v ∈ Ts) (hd : decode cc pc = .ok (.ldc index, 2)) (kk : G K n k H (pc + 2) lv (.int v :: st)) : G K n k H pc lv (st) := fun locs ls hS h => lv_ldc X.1 X.2.1 X.2.2.2.1 (X.2.2.2.2.1 _ hc) hd (kk locs ls hS h)
theorem g_goto (X : GX K cc own Ts D base rm nL) {off : Int} (tgt : Nat) (hd : decode cc pc = .ok (.goto off, 3)) (ht : (pc : Int) + off = (tgt : Int)) (kk : G K n k H tgt lv st) : G K n k H pc lv st := fun locs ls hS h => lv_goto X.1 X.2.1 hd ht (kk locs ls hS h)
theorem g_icmp_eq (X : GX K cc own Ts D base rm nL) {a b : Int} {off : Int} (tgt : Nat) (hd : decode cc pc = .ok (.if_icmp .eq off, 3)) (ht : (pc : Int) + off = (tgt : Int)) (ha : rg a) (hb : rg b) (kt : a = b → G K n k H tgt lv st) (kf : ¬ a = b → G K n k H (pc + 3) lv st) : G K n k H pc lv (.int (J b) :: .int (J a) :: st) := fun locs ls hS h => lv_icmp_eq X.1 X.2.1 hd ht (fun q => kt ((J_inj ha hb).mp q) locs ls hS h) (fun q => kf (fun e => q ((J_inj ha hb).mpr e)) locs ls hS h)
theorem g_if_eq (X : GX K cc own Ts D base rm nL) {a : Int} {off : Int} (tgt : Nat) (hd : decode cc pc = .ok (.ifCond .eq off, 3)) (ht : (pc : Int) + off = (tgt : Int)) (ha : rg a) (kt : a = 0 → G K n k H tgt lv st) (kf : ¬ a = 0 → G K n k H (pc + 3) lv st) : G K n k H pc lv (.int (J a) :: st) := fun locs ls hS h => lv_if_eq X.1 X.2.1 hd ht (fun q => kt ((J_inj (b := 0) ha ⟨by decide, by decide⟩).mp q) locs ls hS h) (fun q => kf (fun e => q ((J_inj (b := 0) ha ⟨by decide, by decide⟩).mpr e)) locs ls hS h)
theorem g_icmp_ne (X : GX K cc own Ts D base rm nL) {a b : Int} {off : Int} (tgt : Nat) (hd : decode cc pc = .ok (.if_icmp .ne off, 3)) (ht : (pc : Int) + off = (tgt : Int)) (ha : rg a) (hb : rg b) (kt : ¬ a = b → G K n k H tgt lv st) (kf : a = b → G K n k H (pc + 3) lv st) : G K n k H pc lv (.int (J b) :: .int (J a) :: st) := fun locs ls hS h => lv_icmp_ne X.1 X.2.1 hd ht (fun q => kt (fun e => q ((J_inj ha hb).mpr e)) locs ls hS h) (fun q => kf ((J_inj ha hb).mp q) locs ls hS h)
theorem g_if_ne (X : GX K cc own Ts D base rm nL) {a : Int} {off : Int} (tgt : Nat) (hd : decode cc pc = .ok (.ifCond .ne off, 3)) (ht : (pc : Int) + off = (tgt : Int)) (ha : rg a) (kt : ¬ a = 0 → G K n k H tgt lv st) (kf : a = 0 → G K n k H (pc + 3) lv st) : G K n k H pc lv (.int (J a) :: st) := fun locs ls hS h => lv_if_ne X.1 X.2.1 hd ht (fun q => kt (fun e => q ((J_inj ha ⟨by decide, by decide⟩).mpr e)) locs ls hS h) (fun q => kf ((J_inj (b := 0) ha ⟨by decide, by decide⟩).mp q) locs ls hS h)
theorem g_icmp_lt (X : GX K cc own Ts D base rm nL) {a b : Int} {off : Int} (tgt : Nat) (hd : decode cc pc = .ok (.if_icmp .lt off, 3)) (ht : (pc : Int) + off = (tgt : Int)) (ha : rg a) (hb : rg b) (kt : a < b → G K n k H tgt lv st) (kf : ¬ a < b → G K n k H (pc + 3) lv st) : G K n k H pc lv (.int (J b) :: .int (J a) :: st) := fun locs ls hS h => lv_icmp_lt X.1 X.2.1 hd ht (fun q => kt ((J_lt ha hb).mp q) locs ls hS h) (fun q => kf (fun e => q ((J_lt ha hb).mpr e)) locs ls hS h)
theorem g_if_lt (X : GX K cc own Ts D base rm nL) {a : Int} {off : Int} (tgt : Nat) (hd : decode cc pc = .ok (.ifCond .lt off, 3)) (ht : (pc : Int) + off = (tgt : Int)) (ha : rg a) (kt : a < 0 → G K n k H tgt lv st) (kf : ¬ a < 0 → G K n k H (pc + 3) lv st) : G K n k H pc lv (.int (J a) :: st) := fun locs ls hS h => lv_if_lt X.1 X.2.1 hd ht (fun q => kt ((J_lt (b := 0) ha ⟨by decide, by decide⟩).mp q) locs ls hS h) (fun q => kf (fun e => q ((J_lt (b := 0) ha ⟨by decide, by decide⟩).mpr e)) locs ls hS h)
theorem g_icmp_ge (X : GX K cc own Ts D base rm nL) {a b : Int} {off : Int} (tgt : Nat) (hd : decode cc pc = .ok (.if_icmp .ge off, 3)) (ht : (pc : Int) + off = (tgt : Int)) (ha : rg a) (hb : rg b) (kt : b ≤ a → G K n k H tgt lv st) (kf : ¬ b ≤ a → G K n k H (pc + 3) lv st) : G K n k H pc lv (.int (J b) :: .int (J a) :: st) := fun locs ls hS h => lv_icmp_ge X.1 X.2.1 hd ht (fun q => kt ((J_le hb ha).mp q) locs ls hS h) (fun q => kf (fun e => q ((J_le hb ha).mpr e)) locs ls hS h)
theorem g_if_ge (X : GX K cc own Ts D base rm nL) {a : Int} {off : Int} (tgt : Nat) (hd : decode cc pc = .ok (.ifCond .ge off, 3)) (ht : (pc : Int) + off = (tgt : Int)) (ha : rg a) (kt : 0 ≤ a → G K n k H tgt lv st) (kf : ¬ 0 ≤ a → G K n k H (pc + 3) lv st) : G K n k H pc lv (.int (J a) :: st) := fun locs ls hS h => lv_if_ge X.1 X.2.1 hd ht (fun q => kt ((J_le (a := 0) ⟨by decide, by decide⟩ ha).mp q) locs ls hS h) (fun q => kf (fun e => q ((J_le (a := 0) ⟨by decide, by decide⟩ ha).mpr e)) locs ls hS h)
theorem g_icmp_gt (X : GX K cc own Ts D base rm nL) {a b : Int} {off : Int} (tgt : Nat) (hd : decode cc pc = .ok (.if_icmp .gt off, 3)) (ht : (pc : Int) + off = (tgt : Int)) (ha : rg a) (hb : rg b) (kt : b < a → G K n k H tgt lv st) (kf : ¬ b < a → G K n k H (pc + 3) lv st) : G K n k H pc lv (.int (J b) :: .int (J a) :: st) := fun locs ls hS h => lv_icmp_gt X.1 X.2.1 hd ht (fun q => kt ((J_lt hb ha).mp q) locs ls hS h) (fun q => kf (fun e => q ((J_lt hb ha).mpr e)) locs ls hS h)
theorem g_if_gt (X : GX K cc own Ts D base rm nL) {a : Int} {off : Int} (tgt : Nat) (hd : decode cc pc = .ok (.ifCond .gt off, 3)) (ht : (pc : Int) + off = (tgt : Int)) (ha : rg a) (kt : 0 < a → G K n k H tgt lv st) (kf : ¬ 0 < a → G K n k H (pc + 3) lv st) : G K n k H pc lv (.int (J a) :: st) := fun locs ls hS h => lv_if_gt X.1 X.2.1 hd ht (fun q => kt ((J_lt (a := 0) ⟨by decide, by decide⟩ ha).mp q) locs ls hS h) (fun q => kf (fun e => q ((J_lt (a := 0) ⟨by decide, by decide⟩ ha).mpr e)) locs ls hS h)
theorem g_icmp_le (X : GX K cc own Ts D base rm nL) {a b : Int} {off : Int} (tgt : Nat) (hd : decode cc pc = .ok (.if_icmp .le off, 3)) (ht : (pc : Int) + off = (tgt : Int)) (ha : rg a) (hb : rg b) (kt : a ≤ b → G K n k H tgt lv st) (kf : ¬ a ≤ b → G K n k H (pc + 3) lv st) : G K n k H pc lv (.int (J b) :: .int (J a) :: st) := fun locs ls hS h => lv_icmp_le X.1 X.2.1 hd ht (fun q => kt ((J_le ha hb).mp q) locs ls hS h) (fun q => kf (fun e => q ((J_le ha hb).mpr e)) locs ls hS h)
theorem g_if_le (X : GX K cc own Ts D base rm nL) {a : Int} {off : Int} (tgt : Nat) (hd : decode cc pc = .ok (.ifCond .le off, 3)) (ht : (pc : Int) + off = (tgt : Int)) (ha : rg a) (kt : a ≤ 0 → G K n k H tgt lv st) (kf : ¬ a ≤ 0 → G K n k H (pc + 3) lv st) : G K n k H pc lv (.int (J a) :: st) := fun locs ls hS h => lv_if_le X.1 X.2.1 hd ht (fun q => kt ((J_le (b := 0) ha ⟨by decide, by decide⟩).mp q) locs ls hS h) (fun q => kf (fun e => q ((J_le (b := 0) ha ⟨by decide, by decide⟩).mpr e)) locs ls hS h)
theorem g_ifnull (X : GX K cc own Ts D base rm nL) {off : Int} {x : Nat} (hd : decode cc pc = .ok (.ifnull off, 3)) (kk : G K n k H (pc + 3) lv st) : G K n k H pc lv (.ref x :: st) := fun locs ls hS h => lv_ifnull X.1 X.2.1 hd (kk locs ls hS h)
theorem g_ifnonnull (X : GX K cc own Ts D base rm nL) {off : Int} (tgt : Nat) {x : Nat} (hd : decode cc pc = .ok (.ifnonnull off, 3)) (ht : (pc : Int) + off = (tgt : Int)) (kk : G K n k H tgt lv st) : G K n k H pc lv (.ref x :: st) := fun locs ls hS h => lv_ifnonnull X.1 X.2.1 hd ht (kk locs ls hS h)
theorem g_ifnullN (X : GX K cc own Ts D base rm nL) {off : Int} (tgt : Nat) (hd : decode cc pc = .ok (.ifnull off, 3)) (ht : (pc : Int) + off = (tgt : Int)) (kk : G K n k H tgt lv st) : G K n k H pc lv (.null :: st) := fun locs ls hS h => lv_ifnullN X.1 X.2.1 hd ht (kk locs ls hS h)
theorem g_ifnonnullN (X : GX K cc own Ts D base rm nL) {off : Int} (hd : decode cc pc = .ok (.ifnonnull off, 3)) (kk : G K n k H (pc + 3) lv st) : G K n k H pc lv (.null :: st) := fun locs ls hS h => lv_ifnonnullN X.1 X.2.1 hd (kk locs ls hS h)
theorem g_tableIn (X : GX K cc own Ts D base rm nL) {dflt lo hi off : Int} {offs : Array Int} {len : Nat} {a : Int} (tgt : Nat) (hd : decode cc pc = .ok (.tableswitch dflt lo hi offs, len)) (ha : rg a) (h1 : ¬ a < lo) (h2 : ¬ hi < a) (ho : offs[(a - lo).toNat]? = some off) (ht : (pc : Int) + off = (tgt : Int)) (kk : G K n k H tgt lv st) : G K n k H pc lv (.int (J a) :: st) := fun locs ls hS h => lv_tableIn X.1 X.2.1 hd (by rw [J_toInt ha]; exact h1) (by rw [J_toInt ha]; exact h2) (by rw [J_toInt ha]; exact ho) ht (kk locs ls hS h)
theorem g_tableOut (X : GX K cc own Ts D base rm nL) {dflt lo hi : Int} {offs : Array Int} {len : Nat} {a : Int} (tgt : Nat) (hd : decode cc pc = .ok (.tableswitch dflt lo hi offs, len)) (ha : rg a) (h1 : a < lo ∨ hi < a) (ht : (pc : Int) + dflt = (tgt : Int)) (kk : G K n k H tgt lv st) : G K n k H pc lv (.int (J a) :: st) := fun locs ls hS h => lv_tableOut X.1 X.2.1 hd (by rw [J_toInt ha]; exact h1) ht (kk locs ls hS h)
theorem g_lookup (X : GX K cc own Ts D base rm nL) {dflt off : Int} {ps : Array (Int × Int)} {len : Nat} {a : Int} (tgt : Nat) (hd : decode cc pc = .ok (.lookupswitch dflt ps, len)) (ha : rg a) (hp : (ps.toList.zip (ps.toList.drop 1)).all (fun (a, next) => a.1 < next.1) = true) (ho : Op.lookupswitch.offset ps.toList dflt a = off) (ht : (pc : Int) + off = (tgt : Int)) (kk : G K n k H tgt lv st) : G K n k H pc lv (.int (J a) :: st) := fun locs ls hS h => lv_lookup X.1 X.2.1 hd hp (by rw [J_toInt ha]; exact ho) ht (kk locs ls hS h)
/-- what the tables say of a field that is read or written: its class ci, its place f, by the pool's index -/
def zF (own : String) (Ts : List Cond) (ci f index : Nat) : Prop := ∃ (C : String) (T : u_T) (N : Nat), vwCl[ci]? = some (C, T, N) ∧ (∀ w ∈ u_ws C T N, w ∈ Ts) ∧ f < N ∧ Cond.fieldLink own index (T f).1 (T f).2.1 (T f).2.2.1 ∈ Ts
/-- and of one that is written -/
def zW (own : String) (Ts : List Cond) (ci f index : Nat) (fin : Bool) (ty : FieldType) : Prop := ∃ (C : String) (T : u_T) (N : Nat) (tys : Nat → FieldType), vwCl[ci]? = some (C, T, N) ∧ (∀ w ∈ u_ws C T N, w ∈ Ts) ∧ f < N ∧ Cond.fieldLink own index (T f).1 (T f).2.1 (T f).2.2.1 ∈ Ts ∧ (∀ j, j < N → parseFieldDescriptor (T j).2.2.1 = some (tys j)) ∧ (∀ a, a < N → ∀ b, b < N → a ≠ b → (T a).2.1 ≠ (T b).2.1) ∧ (T f).2.2.2 = fin ∧ tys f = ty ∧ (T f).1 = C
theorem g_getf (X : GX K cc own Ts D base rm nL) {ci f index q : Nat} {fs : List Value} {v : Value} (hF : zF own Ts ci f index) (hO : Ob D q ci fs H) (hv : fs[f]? = some v) (hd : decode cc pc = .ok (.getfield index, 3)) (kk : G K n k H (pc + 3) lv (v :: st)) : G K n k H pc lv (.ref q :: st) := by
  intro locs ls hS h
  obtain ⟨C, T, N, h1, h2, h3, h4⟩ := hF
  have hP : va_P (D.1, D.2.1) vwCl [(q, .inr (ci, fs))] H := fun j x hx => by
    match j, hx with
    | 0, hx => cases hx; exact hO
    | j + 1, hx => simp at hx
  exact va_get X.1 X.2.1 X.2.2.2.2.1 h2 X.2.2.2.1 X.2.2.2.2.2.1.1 hP 0 rfl h1 f h3 (X.2.2.2.2.1 _ h4) (fun _ h9 => h9) hv hd (kk locs ls hS h)
theorem g_putf (X : GX K cc own Ts D base rm nL) {ci f index q : Nat} {fs : List Value} {v : Value} {ty : FieldType} (hF : zW own Ts ci f index false ty) (hO : Ob D q ci fs H) (hq : base ≤ q) (hl0 : Nat.ble (f + 1) fs.length = true) (hn : narrow ty v = v) (hfit : fits ty v = true) (hd : decode cc pc = .ok (.putfield index, 3)) (kk : ∀ H1 : Heap, Ob D q ci (fs.set f v) H1 → Fr (Iv q (q + 1)) 0 H H1 → G K n k H1 (pc + 3) lv st) : G K n k H pc lv (v :: .ref q :: st) := by
  intro locs ls hS h
  have hl : f < fs.length := Nat.le_of_ble_eq_true hl0
  obtain ⟨C, T, N, tys, h1, h2, h3, h4, h5, h6, h7, rfl, h8⟩ := hF
  have hK := X.2.2.2.2.2.1.1
  have hap := va_apart (own := own) X.2.2.2.2.1 h2 tys h5 h6 hK h1
  obtain ⟨r, e1, cell, q1, q2, q3, q4⟩ := hO
  have hr : r = (C, T, N) := Option.some.inj (e1.symm.trans h1)
  subst hr
  obtain ⟨hSl, hfc, kC, hkC, hkind⟩ := hK.1 ci _ h1
  obtain ⟨cf, kf, fi, fd, hi, hsl⟩ := hSl f h3
  have hlay := X.2.2.2.2.1 _ (h2 _ (u_in_lay h3))
  unfold u_lay at hlay
  rw [if_neg (by rw [h7]; decide)] at hlay
  have hst := (u_facts hfc hkC (u_lays X.2.2.2.2.1 h2 h3) hi).1
  have h6 := u_store hfc hkC hkind hlay hi (h5 f h3) hn hfit
  refine W.putK X.1 X.2.1 (f := fd) ⟨X.2.2.2.1, X.2.2.2.2.1 _ h4, ⟨_, _, _, hi⟩, hst⟩ (by rw [q2]; exact h6) q1 q3 (by rw [hsl]; exact k2_hasslot (q4 f h3)) rfl rfl hd fun H' e1 e2 e3 => ?_
  rw [hsl] at e1 ⊢
  exact kk H' ⟨_, h1, t_OB.to (V := updV (vp_V fs) f v) ⟨_, e1, q2, q3, t_set q4 hap h3 v⟩ (fun j _ => vp_updV_set hl v j)⟩ (Up1.fr ⟨e2, e3⟩) _ ls (hS.put e2 e3 (by show zba K ≤ q; rw [X.2.2.2.2.2.2.2.1]; exact hq)) h
theorem g_putF (X : GX K cc own Ts D base rm nL) {ci f index q : Nat} {fs : List Value} {v : Value} {ty : FieldType} (hF : zW own Ts ci f index true ty) (hin : (zme K).name = "<init>") (hown : (vwCl[ci]?).map (fun x => x.1) = some own) (hO : Ob D q ci fs H) (hq : base ≤ q) (hl0 : Nat.ble (f + 1) fs.length = true) (hn : narrow ty v = v) (hfit : fits ty v = true) (hd : decode cc pc = .ok (.putfield index, 3)) (kk : ∀ H1 : Heap, Ob D q ci (fs.set f v) H1 → Fr (Iv q (q + 1)) 0 H H1 → G K n k H1 (pc + 3) lv st) : G K n k H pc lv (v :: .ref q :: st) := by
  intro locs ls hS h
  have hl : f < fs.length := Nat.le_of_ble_eq_true hl0
  obtain ⟨C, T, N, tys, h1, h2, h3, h4, h5, h6, h7, rfl, h8⟩ := hF
  have hC : C = own := by rw [h1] at hown; exact Option.some.inj hown
  have hK := X.2.2.2.2.2.1.1
  have hap := va_apart (own := own) X.2.2.2.2.1 h2 tys h5 h6 hK h1
  obtain ⟨r, e1, cell, q1, q2, q3, q4⟩ := hO
  have hr : r = (C, T, N) := Option.some.inj (e1.symm.trans h1)
  subst hr
  obtain ⟨hSl, hfc, kC, hkC, hkind⟩ := hK.1 ci _ h1
  obtain ⟨cf, kf, fi, fd, hi, hsl⟩ := hSl f h3
  have hlay := X.2.2.2.2.1 _ (h2 _ (u_in_lay h3))
  unfold u_lay at hlay
  rw [if_pos h7] at hlay
  have hst := (u_facts hfc hkC (u_lays X.2.2.2.2.1 h2 h3) hi).1
  have hcf : (zm K).cls = cf := by
    obtain ⟨_, _, c', _, _, _, -, -, hf', -, -, -, hown2, -⟩ := Cond.laysFinal_spec hlay
    have e1 : c' = cf := by have := hi.symm.trans hf'; simp at this; exact this.1.symm
    rw [h8, hC] at hown2
    rw [← e1]; exact Option.some.inj (X.2.2.2.1.symm.trans hown2)
  have h6 := u_fits hfc hkC hkind (Or.inr hlay) hi (h5 f h3) hn hfit
  refine W.putFinK X.1 X.2.1 X.2.2.2.1 (X.2.2.2.2.1 _ h4) hi hst hcf hin (by rw [q2]; exact h6) q1 q3 (by rw [hsl]; exact k2_hasslot (q4 f h3)) rfl rfl hd fun H' e1 e2 e3 => ?_
  rw [hsl] at e1 ⊢
  exact kk H' ⟨_, h1, t_OB.to (V := updV (vp_V fs) f v) ⟨_, e1, q2, q3, t_set q4 hap h3 v⟩ (fun j _ => vp_updV_set hl v j)⟩ (Up1.fr ⟨e2, e3⟩) _ ls (hS.put e2 e3 (by show zba K ≤ q; rw [X.2.2.2.2.2.2.2.1]; exact hq)) h
theorem zsing {D : va_G} {a : Nat} {e : va_E} (hO : va_at D vwCl (a, e) H) : va_P D vwCl [(a, e)] H := fun j x hx => by
  match j, hx with
  | 0, hx => cases hx; exact hO
  | j + 1, hx => simp at hx
theorem g_iaload (X : GX K cc own Ts D base rm nL) {q N : Nat} {f : Int → Int} {z : Int} (hA : Ia D q N f H) (h0 : 0 ≤ z) (h1 : z < N) (hN : N < 2147483648) (hd : decode cc pc = .ok (.iaload, 1)) (kk : G K n k H (pc + 1) lv (.int (J (f z)) :: st)) : G K n k H pc lv (.int (J z) :: .ref q :: st) := by
  intro locs ls hS h
  refine va_iald X.1 X.2.1 X.2.2.2.2.2.1.1 (zsing hA) 0 0 rfl rfl (J_in h0 h1 hN) hd ?_
  rw [J_cl ⟨by omega, by omega⟩, Int.toNat_of_nonneg h0]
  exact (kk locs ls hS h)
theorem g_baload (X : GX K cc own Ts D base rm nL) {q N : Nat} {f : Int → Int} {z : Int} (hA : Ba D q N f H) (h0 : 0 ≤ z) (h1 : z < N) (hN : N < 2147483648) (hd : decode cc pc = .ok (.baload, 1)) (kk : G K n k H (pc + 1) lv (.int (J (f z)) :: st)) : G K n k H pc lv (.int (J z) :: .ref q :: st) := by
  intro locs ls hS h
  refine va_zald X.1 X.2.1 X.2.2.2.2.2.1.1 (zsing hA) 0 1 rfl rfl (J_in h0 h1 hN) hd ?_
  rw [J_cl ⟨by omega, by omega⟩, Int.toNat_of_nonneg h0]
  exact (kk locs ls hS h)
theorem g_alen (X : GX K cc own Ts D base rm nL) {q N : Nat} {f : Int → Int} (hA : Ia D q N f H) (hd : decode cc pc = .ok (.arraylength, 1)) (kk : G K n k H (pc + 1) lv (.int (J (N : Int)) :: st)) : G K n k H pc lv (.ref q :: st) := by
  intro locs ls hS h
  exact va_alen X.1 X.2.1 X.2.2.2.2.2.1.1 (zsing hA) 0 0 rfl rfl (J_nat N) hd (kk locs ls hS h)
theorem g_alenR (X : GX K cc own Ts D base rm nL) {q N t : Nat} {f : Int → Option Nat} (hA : Ra D q t N f H) (ht : t = 2 ∨ t = 3) (hd : decode cc pc = .ok (.arraylength, 1)) (kk : G K n k H (pc + 1) lv (.int (J (N : Int)) :: st)) : G K n k H pc lv (.ref q :: st) := by
  intro locs ls hS h
  rcases ht with rfl | rfl
  · exact va_alen X.1 X.2.1 X.2.2.2.2.2.1.1 (zsing hA) 0 2 rfl rfl (J_nat N) hd (kk locs ls hS h)
  · exact va_alen X.1 X.2.1 X.2.2.2.2.2.1.1 (zsing hA) 0 3 rfl rfl (J_nat N) hd (kk locs ls hS h)
theorem g_aaload (X : GX K cc own Ts D base rm nL) {q N t : Nat} {f : Int → Option Nat} {z : Int} {v : Value} (hA : Ra D q t N f H) (ht : t = 2 ∨ t = 3) (h0 : 0 ≤ z) (h1 : z < N) (hN : N < 2147483648) (hv : va_rf (f z) = v) (hd : decode cc pc = .ok (.aaload, 1)) (kk : G K n k H (pc + 1) lv (v :: st)) : G K n k H pc lv (.int (J z) :: .ref q :: st) := by
  intro locs ls hS h
  subst hv
  rcases ht with rfl | rfl
  · refine va_aldq X.1 X.2.1 X.2.2.2.2.2.1.1 (zsing hA) 0 2 rfl rfl (J_in h0 h1 hN) hd ?_
    rw [J_cl ⟨by omega, by omega⟩, Int.toNat_of_nonneg h0]
    exact (kk locs ls hS h)
  · refine va_aldq X.1 X.2.1 X.2.2.2.2.2.1.1 (zsing hA) 0 3 rfl rfl (J_in h0 h1 hN) hd ?_
    rw [J_cl ⟨by omega, by omega⟩, Int.toNat_of_nonneg h0]
    exact (kk locs ls hS h)
/-- a function changed at one place -/
def up {α : Type} (f : Int → α) (z : Int) (v : α) : Int → α := fun j => if j = z then v else f j
theorem g_iastore (X : GX K cc own Ts D base rm nL) {q N : Nat} {f : Int → Int} {z x : Int} (hA : Ia D q N f H) (hq : base ≤ q) (h0 : 0 ≤ z) (h1 : z < N) (hN : N < 2147483648) (hd : decode cc pc = .ok (.iastore, 1)) (kk : ∀ H1 : Heap, Ia D q N (up f z x) H1 → Fr (Iv q (q + 1)) 0 H H1 → G K n k H1 (pc + 1) lv st) : G K n k H pc lv (.int (J x) :: .int (J z) :: .ref q :: st) := by
  intro locs ls hS h
  have hin := J_in h0 h1 hN
  refine W.iast X.1 X.2.1 hA ((X.2.2.2.2.2.1.1.2 0 _ rfl).1 N (fun j => .int (J (f j)))) (fun q => by cases q) (by show ¬ (J z < 0 ∨ (arrV _ _ _).slots.size ≤ _); rw [arrV_size]; exact hin) rfl rfl hd fun H1 e z1 oq => ?_
  refine kk H1 ?_ (Up1.fr ⟨z1, oq⟩) _ ls (hS.put z1 oq (by show zba K ≤ q; rw [X.2.2.2.2.2.2.2.1]; exact hq)) h
  show H1[q]? = some (vp_cell _ _)
  rw [e, J_cl ⟨by omega, by omega⟩]
  dsimp only
  rw [vp_cell_i, vp_cell_i, arrV_store]
  congr 2
  funext j
  by_cases hj : j = z.toNat
  · subst hj
    have e2 : ((z.toNat : Nat) : Int) = z := Int.toNat_of_nonneg h0
    simp [updV, up, e2]
  · have e2 : ¬ ((j : Nat) : Int) = z := by omega
    simp [updV, up, hj, e2]
theorem g_bastore (X : GX K cc own Ts D base rm nL) {q N : Nat} {f : Int → Int} {z x : Int} (hA : Ba D q N f H) (hq : base ≤ q) (h0 : 0 ≤ z) (h1 : z < N) (hN : N < 2147483648) (hx : narrow .boolean (.int (J x)) = .int (J x)) (hd : decode cc pc = .ok (.bastore, 1)) (kk : ∀ H1 : Heap, Ba D q N (up f z x) H1 → Fr (Iv q (q + 1)) 0 H H1 → G K n k H1 (pc + 1) lv st) : G K n k H pc lv (.int (J x) :: .int (J z) :: .ref q :: st) := by
  intro locs ls hS h
  have hin := J_in h0 h1 hN
  refine W.zast X.1 X.2.1 hA ((X.2.2.2.2.2.1.1.2 1 _ rfl).1 N (fun j => .int (J (f j)))) (fun q => by cases q) (by show ¬ (J z < 0 ∨ (arrV _ _ _).slots.size ≤ _); rw [arrV_size]; exact hin) rfl rfl hd fun H1 e z1 oq => ?_
  refine kk H1 ?_ (Up1.fr ⟨z1, oq⟩) _ ls (hS.put z1 oq (by show zba K ≤ q; rw [X.2.2.2.2.2.2.2.1]; exact hq)) h
  show H1[q]? = some (vp_cell _ _)
  rw [e, J_cl ⟨by omega, by omega⟩]
  dsimp only
  rw [vp_cell_i, vp_cell_i, arrV_store]
  congr 2
  funext j
  by_cases hj : j = z.toNat
  · subst hj
    have e2 : ((z.toNat : Nat) : Int) = z := Int.toNat_of_nonneg h0
    simp [updV, up, e2, hx]
  · have e2 : ¬ ((j : Nat) : Int) = z := by omega
    simp [updV, up, hj, e2]
theorem g_aastore (X : GX K cc own Ts D base rm nL) {q N t ci v : Nat} {f : Int → Option Nat} {fs : List Value} {z : Int} (hA : Ra D q t N f H) (ht : (t = 2 ∧ ci = 2) ∨ (t = 3 ∧ ci = 4)) (hO : Ob D v ci fs H) (hq : base ≤ q) (h0 : 0 ≤ z) (h1 : z < N) (hN : N < 2147483648) (hd : decode cc pc = .ok (.aastore, 1)) (kk : ∀ H1 : Heap, Ra D q t N (up f z (some v)) H1 → Fr (Iv q (q + 1)) 0 H H1 → G K n k H1 (pc + 1) lv st) : G K n k H pc lv (.ref v :: .int (J z) :: .ref q :: st) := by
  intro locs ls hS h
  have hin := J_in h0 h1 hN
  have hK := X.2.2.2.2.2.1.1
  obtain ⟨t0, r, hr1, hr2⟩ : ∃ (t0 : Nat) (r : vw_C), vwCl[ci]? = some r ∧ (zTys D)[t0]? = some (D.2.2 t, .object r.1) := by
    rcases ht with ⟨rfl, rfl⟩ | ⟨rfl, rfl⟩
    · exact ⟨2, _, rfl, rfl⟩
    · exact ⟨3, _, rfl, rfl⟩
  obtain ⟨r', hr', cellV, g1, g2, g3, -⟩ := hO
  have hcls := (hK.1 ci r hr1).2
  obtain ⟨kA, comp, k1, k2, k3, -⟩ := (hK.2 t0 _ hr2).2
  have hcomp : comp = D.1 ci := Option.some.inj (k3.symm.trans hcls.1)
  subst hcomp
  obtain ⟨kC, hkC, -⟩ := id hcls.2
  have h0' : ¬ J z < 0 := fun q => hin (Or.inl q)
  have hlt : (J z).toNatClampNeg < N := Nat.not_le.mp fun q => hin (Or.inr q)
  refine W.aast X.1 X.2.1 hA (fun q h => by cases h) (fun h => by cases h) k1 k2 rfl hkC ⟨h0', by show _ < (arrV _ _ _).slots.size; rw [arrV_size]; exact hlt⟩ g1 (fun q h => by rw [g3] at h; cases h) (by rw [g2]; exact hkC) (by rw [g2]; exact va_assign hcls) rfl rfl hd fun H1 e z1 oq => ?_
  refine kk H1 ?_ (Up1.fr ⟨z1, oq⟩) _ ls (hS.put z1 oq (by show zba K ≤ q; rw [X.2.2.2.2.2.2.2.1]; exact hq)) h
  show H1[q]? = some (vp_cell _ _)
  rw [e, J_cl ⟨by omega, by omega⟩]
  dsimp only
  rw [vp_cell_q, vp_cell_q, arrV_store]
  congr 2
  funext j
  by_cases hj : j = z.toNat
  · subst hj
    have e2 : ((z.toNat : Nat) : Int) = z := Int.toNat_of_nonneg h0
    simp [updV, up, e2, va_rf]
  · have e2 : ¬ ((j : Nat) : Int) = z := by omega
    simp [updV, up, hj, e2]
theorem g_ireturn (X : GX K cc own Ts D base rm nL) {mc ms : Nat} {Post : Heap → Option Value → Heap → Prop} (R : GR K (some .int) base mc ms Post) {x : Int32} (hp : Post (zs K).heap (some (.int x)) H) (hd : decode cc pc = .ok (.ireturn, 1)) : G K mc ms H pc lv [.int x] := by
  intro locs ls hS h
  rw [R.2]
  exact W.iret X.1 X.2.1 R.1 (fun t ht _ => ⟨⟨_, rfl, by rw [ht]; exact hp⟩, by have := hS.F ht; rwa [X.2.2.2.2.2.2.2.1] at this⟩) (fun q hq => by have := hS.2.2 q hq; rwa [X.2.2.2.2.2.2.2.1] at this) hd X.2.2.2.2.2.2.2.2.2.2
theorem g_zreturn (X : GX K cc own Ts D base rm nL) {mc ms : Nat} {Post : Heap → Option Value → Heap → Prop} (R : GR K (some .boolean) base mc ms Post) {x : Int32} (hx : narrow .boolean (.int x) = .int x) (hp : Post (zs K).heap (some (.int x)) H) (hd : decode cc pc = .ok (.ireturn, 1)) : G K mc ms H pc lv [.int x] := by
  intro locs ls hS h
  rw [R.2]
  exact W.zret X.1 X.2.1 R.1 hx (fun t ht _ => ⟨⟨_, rfl, by rw [ht]; exact hp⟩, by have := hS.F ht; rwa [X.2.2.2.2.2.2.2.1] at this⟩) (fun q hq => by have := hS.2.2 q hq; rwa [X.2.2.2.2.2.2.2.1] at this) hd X.2.2.2.2.2.2.2.2.2.2
theorem g_vreturn (X : GX K cc own Ts D base rm nL) {mc ms : Nat} {Post : Heap → Option Value → Heap → Prop} (R : GR K none base mc ms Post) (hp : Post (zs K).heap none H) (hd : decode cc pc = .ok (.return_, 1)) : G K mc ms H pc lv [] := by
  intro locs ls hS h
  rw [R.2]
  exact W.vret X.1 X.2.1 R.1 (fun t ht _ => ⟨⟨_, rfl, by rw [ht]; exact hp⟩, by have := hS.F ht; rwa [X.2.2.2.2.2.2.2.1] at this⟩) (fun q hq => by have := hS.2.2 q hq; rwa [X.2.2.2.2.2.2.2.1] at this) hd X.2.2.2.2.2.2.2.2.2.2
theorem g_areturn (X : GX K cc own Ts D base rm nL) {mc ms : Nat} {Post : Heap → Option Value → Heap → Prop} {C : String} (R : GR K (some (.object C)) base mc ms Post) {v : Value} (hv : v = .null ∨ ∃ a, v = .ref a) (hp : Post (zs K).heap (some v) H) (hd : decode cc pc = .ok (.areturn, 1)) : G K mc ms H pc lv [v] := by
  intro locs ls hS h
  rw [R.2]
  exact W.aret X.1 X.2.1 R.1 (Or.inl ⟨_, rfl⟩) hv (fun t ht _ => ⟨⟨_, rfl, by rw [ht]; exact hp⟩, by have := hS.F ht; rwa [X.2.2.2.2.2.2.2.1] at this⟩) (fun q hq => by have := hS.2.2 q hq; rwa [X.2.2.2.2.2.2.2.1] at this) hd X.2.2.2.2.2.2.2.2.2.2
end
end
section
section
variable {K : zC} {n k : Nat} {H : Heap} {pc : Nat} {lv : List (Nat × Value)} {st : List Value} {cc : ByteArray} {own : String} {Ts : List Cond} {D : zD} {base : Nat} {rm : Room} {nL : Nat}
theorem zblind {As : List Value} {Pre : Heap → Prop} : FrameBlind (va_Pc As (fun U => base ≤ U.heap.size ∧ zKn D U ∧ Pre U.heap)) := fun _ U _ _ q => ⟨q.1, q.2.1, zKn.calling q.2.2.1, q.2.2.2⟩
theorem GX.fix (X : GX K cc own Ts D base rm nL) : CallFix (zp K) (zm K) (zc K) cc (znL K) (zs K) (zar K) Ts own := ⟨X.1, X.2.1, by rw [X.2.2.2.2.2.2.2.2.2.1]; exact X.2.2.1, X.2.2.2.1, X.2.2.2.2.1⟩
theorem GX.pre (X : GX K cc own Ts D base rm nL) {As : List Value} {Pre : Heap → Prop} (hb : base ≤ H.size) (hP : Pre H) : ∀ U : State, U.heap = H → (zs K).WarmedH U.vm → va_Pc As (fun U => base ≤ U.heap.size ∧ zKn D U ∧ Pre U.heap) As.toArray U :=
  fun U hU hW => ⟨rfl, by rw [hU]; exact hb, X.2.2.2.2.2.1.warm hW, by rw [hU]; exact hP⟩
theorem GX.recv (X : GX K cc own Ts D base rm nL) {ci q : Nat} {fs : List Value} {r : vw_C} (hc : vwCl[ci]? = some r) (hO : Ob D q ci fs H) : ∃ cell : Cell, H[q]? = some cell ∧ cell.vm.isStatics = false ∧ (zs K).vm.findClass r.1 = some cell.cls :=
  va_recv X.2.2.2.2.2.1.1 (zsing hO) hc (q0 := 0) rfl
theorem zback {mc ms : Nat} {Post : Heap → Option Value → Heap → Prop} {a : Array Value} {st0 rest : List Value} (X : GX K cc own Ts D base rm nL) {locs : List Loc} {ls : Array Slot} (hS : va_S (fun q => zba K ≤ q) (zs K).heap H locs) (hl : lv_has ls (znL K) lv)
    (hr : va_Run (zp K) (zl K) (ze K) (zR K) (zs K) (zm K) (zar K) (zbe K) (zme K) (zc K) H locs n k mc ms (F0 (zm K) pc ls st0) rest (CtQ base Post a) (fun q => base ≤ q))
    (kk : ∀ (v : Option Value) (H1 : Heap), Post H v H1 → H.size ≤ H1.size → G K (n + mc) (k + ms) H1 (pc + 3) lv (v.toList ++ rest)) :
    W (zp K) (zl K) (ze K) (zR K) (zs K) (zm K) (zar K) (zbe K) (zme K) (zc K) H locs n k (zQ K) (F0 (zm K) pc ls st0) := by
  intro T hT XX
  obtain ⟨v, st₀, t, T', L, h0, X', hL, e1, e2, ⟨⟨r, hv, hp⟩, hz, hk⟩, stp⟩ := hr T hT XX
  cases hv
  rw [h0] at hz hk hp
  have hS2 : va_S (fun q => zba K ≤ q) (zs K).heap T'.heap (locs ++ L) := ⟨Nat.le_trans hS.1 (by rw [e1]; exact hz), fun q h1 h2 => by
      rw [e1, hk q (Nat.lt_of_lt_of_le h1 hS.1) (fun z => h2 (by show zba K ≤ q; rw [X.2.2.2.2.2.2.2.1]; exact z))]; exact hS.2.1 q h1 h2, fun q hq => by
      rcases List.mem_append.mp hq with h | h
      · exact hS.2.2 q h
      · show zba K ≤ q.base; rw [X.2.2.2.2.2.2.2.1]; exact hL q h⟩
  obtain ⟨t2, a1, b1⟩ := kk v T'.heap (by rw [e1]; exact hp) (by rw [e1]; exact hz) (locs ++ L) ls hS2 hl T' rfl X'
  exact ⟨t2, stp t2 a1, b1⟩
theorem g_callV (X : GX K cc own Ts D base rm nL) {y : MethodName} {ws ws' : List Cond} {rmc : Room} {As : List Value} {Pre : Heap → Prop} {Post : Heap → Option Value → Heap → Prop} {bytes : ByteArray} {maxL index : Nat} {ret : Option FieldType} {rest : List Value} {C : String} {ci q : Nat} {fs : List Value} {r : vw_C} (hM : Ct (zl K) y ws rmc D base (.ref q :: As) Pre Post) (hG : GoodIn Ts (wsV own index C y ws)) (hw : ws = Cond.code y bytes maxL ret :: ws') (na : Nat) (hd : y.cls = C ∧ y.cls ≠ "java/lang/invoke/MethodHandle" ∧ y.cls ≠ "java/lang/invoke/VarHandle" ∧ (parseMethodDescriptor y.desc).map (fun d => d.parameters.length) = some na) (hn : As.length = na)
    (hR : rmc.frames + 1 ≤ rm.frames ∧ 8 + (maxL + 11) + rmc.locals ≤ rm.locals) (hf : n + rmc.cells ≤ rm.cells ∧ k + rmc.slots ≤ rm.slots) (hc : vwCl[ci]? = some r) (hC : r.1 = C) (hO : Ob D q ci fs H) (hbs : base ≤ H.size) (hP : Pre H) (hdg : decode cc pc = .ok (.invokevirtual index, 3)) (hst : st = As.reverse ++ .ref q :: rest) (hW : (rest.map fun v => v.category).sum ≤ 8)
    (kk : ∀ (v : Option Value) (H1 : Heap), Post H v H1 → H.size ≤ H1.size → G K (n + rmc.cells) (k + rmc.slots) H1 (pc + 3) lv (v.toList ++ rest)) : G K n k H pc lv st := by
  intro locs ls hS h
  have hRR : zR K = rm := X.2.2.2.2.2.2.2.2.1
  exact zback (a := (Value.ref q :: As).toArray) X hS h (va_runV X.fix hM (cwV na X.2.2.2.2.1 hG hw rfl rfl hd (by rw [hRR]; exact hR)) ⟨zblind, by rw [← hC]; exact X.recv hc hO, X.pre hbs hP⟩ rfl hn h.1 hst (lv_room hW) hdg (by rw [hRR]; exact hf)) kk
theorem g_callS (X : GX K cc own Ts D base rm nL) {y : MethodName} {ws ws' : List Cond} {rmc : Room} {As : List Value} {Pre : Heap → Prop} {Post : Heap → Option Value → Heap → Prop} {bytes : ByteArray} {maxL index : Nat} {ret : Option FieldType} {rest : List Value} (hM : Ct (zl K) y ws rmc D base As Pre Post) (hG : GoodIn Ts (wsS own index y ws)) (hw : ws = Cond.code y bytes maxL ret :: ws') (na : Nat) (hd : y.cls = own ∧ y.cls ≠ "java/lang/invoke/MethodHandle" ∧ y.cls ≠ "java/lang/invoke/VarHandle" ∧ (parseMethodDescriptor y.desc).map (fun d => d.parameters.length) = some na) (hn : As.length = na)
    (hR : rmc.frames + 1 ≤ rm.frames ∧ 8 + (maxL + 11) + rmc.locals ≤ rm.locals) (hf : n + rmc.cells ≤ rm.cells ∧ k + rmc.slots ≤ rm.slots) (hbs : base ≤ H.size) (hP : Pre H) (hdg : decode cc pc = .ok (.invokestatic index, 3)) (hst : st = As.reverse ++ rest) (hW : (rest.map fun v => v.category).sum ≤ 8)
    (kk : ∀ (v : Option Value) (H1 : Heap), Post H v H1 → H.size ≤ H1.size → G K (n + rmc.cells) (k + rmc.slots) H1 (pc + 3) lv (v.toList ++ rest)) : G K n k H pc lv st := by
  intro locs ls hS h
  have hRR : zR K = rm := X.2.2.2.2.2.2.2.2.1
  exact zback (a := As.toArray) X hS h (va_runS X.fix hM (cwS na X.2.2.2.2.1 hG hw rfl rfl hd (by rw [hRR]; exact hR)) ⟨zblind, X.pre hbs hP⟩ rfl hn h.1 hst (lv_room hW) hdg (by rw [hRR]; exact hf)) kk
theorem g_callJ (X : GX K cc own Ts D base rm nL) {y : MethodName} {ws ws' : List Cond} {rmc : Room} {As : List Value} {Pre : Heap → Prop} {Post : Heap → Option Value → Heap → Prop} {bytes : ByteArray} {maxL index : Nat} {ret : Option FieldType} {rest : List Value} (hM : Ct (zl K) y ws rmc D base As Pre Post) (hG : GoodIn Ts (va_wsS own index y ws)) (hw : ws = Cond.code y bytes maxL ret :: ws') (na : Nat) (hd : y.cls ≠ "java/lang/invoke/MethodHandle" ∧ y.cls ≠ "java/lang/invoke/VarHandle" ∧ (parseMethodDescriptor y.desc).map (fun d => d.parameters.length) = some na) (hn : As.length = na)
    (hR : rmc.frames + 1 ≤ rm.frames ∧ 8 + (maxL + 11) + rmc.locals ≤ rm.locals) (hf : n + rmc.cells ≤ rm.cells ∧ k + rmc.slots ≤ rm.slots) (hbs : base ≤ H.size) (hP : Pre H) (hdg : decode cc pc = .ok (.invokestatic index, 3)) (hst : st = As.reverse ++ rest) (hW : (rest.map fun v => v.category).sum ≤ 8)
    (kk : ∀ (v : Option Value) (H1 : Heap), Post H v H1 → H.size ≤ H1.size → G K (n + rmc.cells) (k + rmc.slots) H1 (pc + 3) lv (v.toList ++ rest)) : G K n k H pc lv st := by
  intro locs ls hS h
  have hRR : zR K = rm := X.2.2.2.2.2.2.2.2.1
  have ok : ∀ w ∈ va_wsS own index y ws, w.before (zar K) (zs K) = true := fun w h => X.2.2.2.2.1 w (hG w h).1
  exact zback (a := As.toArray) X hS h (va_runS X.fix hM ⟨callB_of na X.2.2.2.2.1 (fun w h => hG w (by unfold va_wsS; exact List.mem_append_right _ h)) hw rfl rfl (ok _ (by simp [va_wsS])) (ok _ (by simp [va_wsS])) hd (by rw [hRR]; exact hR), ok _ (by simp [va_wsS])⟩ ⟨zblind, X.pre hbs hP⟩ rfl hn h.1 hst (lv_room hW) hdg (by rw [hRR]; exact hf)) kk
/-- a nest mate's private static -/
theorem g_callSN (X : GX K cc own Ts D base rm nL) {y : MethodName} {ws ws' : List Cond} {rmc : Room} {As : List Value} {Pre : Heap → Prop} {Post : Heap → Option Value → Heap → Prop} {bytes : ByteArray} {maxL index : Nat} {ret : Option FieldType} {rest : List Value} {host : String} (hM : Ct (zl K) y ws rmc D base As Pre Post) (hG : GoodIn Ts ws) (hlk : Cond.methodLinkNest own index y host ∈ zNest) (hini : Cond.initialized y.cls ∈ Ts) (hstat : Cond.static y ∈ Ts) (hw : ws = Cond.code y bytes maxL ret :: ws') (na : Nat) (hd : y.cls ≠ "java/lang/invoke/MethodHandle" ∧ y.cls ≠ "java/lang/invoke/VarHandle" ∧ (parseMethodDescriptor y.desc).map (fun d => d.parameters.length) = some na) (hn : As.length = na)
    (hR : rmc.frames + 1 ≤ rm.frames ∧ 8 + (maxL + 11) + rmc.locals ≤ rm.locals) (hf : n + rmc.cells ≤ rm.cells ∧ k + rmc.slots ≤ rm.slots) (hbs : base ≤ H.size) (hP : Pre H) (hdg : decode cc pc = .ok (.invokestatic index, 3)) (hst : st = As.reverse ++ rest) (hW : (rest.map fun v => v.category).sum ≤ 8)
    (kk : ∀ (v : Option Value) (H1 : Heap), Post H v H1 → H.size ≤ H1.size → G K (n + rmc.cells) (k + rmc.slots) H1 (pc + 3) lv (v.toList ++ rest)) : G K n k H pc lv st := by
  intro locs ls hS h
  have hRR : zR K = rm := X.2.2.2.2.2.2.2.2.1
  exact zback (a := As.toArray) X hS h (va_runSN X.fix hM ⟨va_cnB na X.2.2.2.2.1 hG hw rfl rfl (X.2.2.2.2.2.1.2.2.2 _ hlk) (X.2.2.2.2.1 _ hini) hd (by rw [hRR]; exact hR), X.2.2.2.2.1 _ hstat, trivial⟩ ⟨zblind, X.pre hbs hP⟩ rfl hn h.1 hst (lv_room hW) hdg (by rw [hRR]; exact hf)) kk
theorem g_callI (X : GX K cc own Ts D base rm nL) {y : MethodName} {ws ws' : List Cond} {rmc : Room} {As : List Value} {Pre : Heap → Prop} {Post : Heap → Option Value → Heap → Prop} {bytes : ByteArray} {maxL index : Nat} {ret : Option FieldType} {rest : List Value} {q : Nat} (hM : Ct (zl K) y ws rmc D base (.ref q :: As) Pre Post) (hG : GoodIn Ts ws) (hlk : Cond.methodLink own index y ∈ Ts) (hini : Cond.initialized y.cls ∈ Ts) (hinst : Cond.instanceMethod y ∈ Ts) (hy : y.name = "<init>") (hw : ws = Cond.code y bytes maxL none :: ws') (na : Nat) (hd : y.cls ≠ "java/lang/invoke/MethodHandle" ∧ y.cls ≠ "java/lang/invoke/VarHandle" ∧ (parseMethodDescriptor y.desc).map (fun d => d.parameters.length) = some na) (hn : As.length = na)
    (hR : rmc.frames + 1 ≤ rm.frames ∧ 8 + (maxL + 11) + rmc.locals ≤ rm.locals) (hf : n + rmc.cells ≤ rm.cells ∧ k + rmc.slots ≤ rm.slots) (hbs : base ≤ H.size) (hP : Pre H) (hdg : decode cc pc = .ok (.invokespecial index, 3)) (hst : st = As.reverse ++ .ref q :: rest) (hW : (rest.map fun v => v.category).sum ≤ 8)
    (kk : ∀ (v : Option Value) (H1 : Heap), Post H v H1 → H.size ≤ H1.size → G K (n + rmc.cells) (k + rmc.slots) H1 (pc + 3) lv (v.toList ++ rest)) : G K n k H pc lv st := by
  intro locs ls hS h
  have hRR : zR K = rm := X.2.2.2.2.2.2.2.2.1
  exact zback (a := (Value.ref q :: As).toArray) X hS h (va_runI X.fix hM ⟨callB_of na X.2.2.2.2.1 hG hw rfl rfl (X.2.2.2.2.1 _ hini) (X.2.2.2.2.1 _ hlk) hd (by rw [hRR]; exact hR), hy, X.2.2.2.2.1 _ hinst⟩ ⟨zblind, X.pre hbs hP⟩ rfl hn h.1 hst (lv_room hW) hdg (by rw [hRR]; exact hf)) kk
theorem g_callIN (X : GX K cc own Ts D base rm nL) {y : MethodName} {ws ws' : List Cond} {rmc : Room} {As : List Value} {Pre : Heap → Prop} {Post : Heap → Option Value → Heap → Prop} {bytes : ByteArray} {maxL index : Nat} {ret : Option FieldType} {rest : List Value} {q : Nat} {host : String} (hM : Ct (zl K) y ws rmc D base (.ref q :: As) Pre Post) (hG : GoodIn Ts ws) (hlk : Cond.methodLinkNest own index y host ∈ zNest) (hini : Cond.initialized y.cls ∈ Ts) (hinst : Cond.instanceMethod y ∈ Ts) (hy : y.name = "<init>") (hw : ws = Cond.code y bytes maxL none :: ws') (na : Nat) (hd : y.cls ≠ "java/lang/invoke/MethodHandle" ∧ y.cls ≠ "java/lang/invoke/VarHandle" ∧ (parseMethodDescriptor y.desc).map (fun d => d.parameters.length) = some na) (hn : As.length = na)
    (hR : rmc.frames + 1 ≤ rm.frames ∧ 8 + (maxL + 11) + rmc.locals ≤ rm.locals) (hf : n + rmc.cells ≤ rm.cells ∧ k + rmc.slots ≤ rm.slots) (hbs : base ≤ H.size) (hP : Pre H) (hdg : decode cc pc = .ok (.invokespecial index, 3)) (hst : st = As.reverse ++ .ref q :: rest) (hW : (rest.map fun v => v.category).sum ≤ 8)
    (kk : ∀ (v : Option Value) (H1 : Heap), Post H v H1 → H.size ≤ H1.size → G K (n + rmc.cells) (k + rmc.slots) H1 (pc + 3) lv (v.toList ++ rest)) : G K n k H pc lv st := by
  intro locs ls hS h
  have hRR : zR K = rm := X.2.2.2.2.2.2.2.2.1
  exact zback (a := (Value.ref q :: As).toArray) X hS h (va_runIN X.fix hM ⟨va_cnB na X.2.2.2.2.1 hG hw rfl rfl (X.2.2.2.2.2.1.2.2.2 _ hlk) (X.2.2.2.2.1 _ hini) hd (by rw [hRR]; exact hR), hy, X.2.2.2.2.1 _ hinst⟩ ⟨zblind, X.pre hbs hP⟩ rfl hn h.1 hst (lv_room hW) hdg (by rw [hRR]; exact hf)) kk
theorem g_objInit (X : GX K cc own Ts D base rm nL) {index q : Nat} {rest : List Value} (hlk : Cond.methodLink own index objectInit ∈ Ts) (hinst : Cond.instanceMethod objectInit ∈ Ts) (hcode : Cond.code objectInit ⟨#[0xb1]⟩ 1 none ∈ Ts) (hfr : 1 ≤ rm.frames) (hlo : (rest.map fun v => v.category).sum + 12 ≤ rm.locals) (hd : decode cc pc = .ok (.invokespecial index, 3)) (kk : G K n k H (pc + 3) lv rest) : G K n k H pc lv (.ref q :: rest) := by
  intro locs ls hS h
  have hRR : zR K = rm := X.2.2.2.2.2.2.2.2.1
  exact W.objInit X.1 X.2.1 X.2.2.2.1 (X.2.2.2.2.1 _ hlk) (X.2.2.2.2.1 _ hinst) (X.2.2.2.2.1 _ hcode) rfl (h.1.trans (by rw [X.2.2.1]; exact X.2.2.2.2.2.2.2.2.2.1)) rfl hd (by rw [hRR]; exact hfr) (by rw [hRR]; show 2 * 0 + _ + 12 ≤ _; omega) (kk locs ls hS h)
theorem g_new (X : GX K cc own Ts D base rm nL) {ci index N : Nat} {C : String} {T : u_T} {tys : Nat → FieldType} {fs : List Value} (hc : vwCl[ci]? = some (C, T, N)) (hin : ∀ w ∈ u_ws C T N, w ∈ Ts) (hty : ∀ j, j < N → parseFieldDescriptor (T j).2.2.1 = some (tys j)) (hfs : ∀ j, j < N → defaultValue (tys j) = vp_V fs j) (hcl : Cond.classLink own index C ∈ Ts) (hinst : Cond.instantiable C N ∈ Ts) (hini : Cond.initialized C ∈ Ts) (hcells : n + 1 ≤ rm.cells) (hslots : k + N ≤ rm.slots) (hd : decode cc pc = .ok (.new index, 3))
    {n2 k2 : Nat} (hn2 : n + 1 = n2) (hk2 : k + N = k2) (kk : ∀ H1 : Heap, H1.size = H.size + 1 → Ob D H.size ci fs H1 → (∀ q : Nat, q < H.size → H1[q]? = H[q]?) → G K n2 k2 H1 (pc + 3) lv (.ref H.size :: st)) : G K n k H pc lv st := by
  subst hn2
  subst hk2
  intro locs ls hS h
  have hRR : zR K = rm := X.2.2.2.2.2.2.2.2.1
  have hKn := X.2.2.2.2.2.1.1.1 ci _ hc
  refine W.newcK X.1 X.2.1 X.2.2.2.1 (X.2.2.2.2.1 _ hcl) (X.2.2.2.2.1 _ hinst) (X.2.2.2.2.1 _ hini) rfl hd (by rw [hRR]; exact hcells) (by rw [hRR]; exact hslots) hKn.2.1 rfl fun H1 kC hkC e1 z1 o1 => ?_
  exact kk H1 z1 ⟨_, hc, (u_born tys X.2.2.2.2.1 hin hKn hkC e1 hty).to hfs⟩ o1 locs ls ⟨Nat.le_trans hS.1 (by omega), fun x h1 h2 => (o1 x (Nat.lt_of_lt_of_le h1 hS.1)).trans (hS.2.1 x h1 h2), hS.2.2⟩ h
theorem g_newarr (X : GX K cc own Ts D base rm nL) {z : Int} {N : Nat} (harr : Cond.arrayClass .int ∈ Ts) (hz : z = (N : Int)) (hN : N < 100000) (hcells : n + 1 ≤ rm.cells) (hslots : k + N ≤ rm.slots) (hd : decode cc pc = .ok (.newarray .int, 2))
    {n2 k2 : Nat} (hn2 : n + 1 = n2) (hk2 : k + N = k2) (kk : ∀ H1 : Heap, H1.size = H.size + 1 → Ia D H.size N (fun _ => 0) H1 → (∀ q : Nat, q < H.size → H1[q]? = H[q]?) → G K n2 k2 H1 (pc + 2) lv (.ref H.size :: st)) : G K n k H pc lv (.int (J z) :: st) := by
  subst hn2
  subst hk2
  intro locs ls hS h
  have hRR : zR K = rm := X.2.2.2.2.2.2.2.2.1
  have hr : rg z := ⟨by omega, by omega⟩
  refine va_newaK (atype := .int) X.1 X.2.1 (X.2.2.2.2.1 _ harr) rfl hd rfl (by rw [J_0, J_lt hr ⟨by decide, by decide⟩]; omega) (N := N) (by rw [J_cl hr]; omega) (by show N * 4 ≤ _; omega) (by rw [hRR]; exact hcells) (by rw [hRR]; exact hslots) rfl fun H1 cA e1 z1 o1 hA hcA => ?_
  have hK2 := (X.2.2.2.2.2.1.1.2 0 _ rfl).2
  have hid : cA = D.2.2 0 := Option.some.inj (hcA.symm.trans hK2)
  subst hid
  exact kk H1 z1 e1 o1 locs ls ⟨Nat.le_trans hS.1 (by omega), fun x h1 h2 => (o1 x (Nat.lt_of_lt_of_le h1 hS.1)).trans (hS.2.1 x h1 h2), hS.2.2⟩ h
theorem g_newarrZ (X : GX K cc own Ts D base rm nL) {z : Int} {N : Nat} (harr : Cond.arrayClass .boolean ∈ Ts) (hz : z = (N : Int)) (hN : N < 100000) (hcells : n + 1 ≤ rm.cells) (hslots : k + N ≤ rm.slots) (hd : decode cc pc = .ok (.newarray .boolean, 2))
    {n2 k2 : Nat} (hn2 : n + 1 = n2) (hk2 : k + N = k2) (kk : ∀ H1 : Heap, H1.size = H.size + 1 → Ba D H.size N (fun _ => 0) H1 → (∀ q : Nat, q < H.size → H1[q]? = H[q]?) → G K n2 k2 H1 (pc + 2) lv (.ref H.size :: st)) : G K n k H pc lv (.int (J z) :: st) := by
  subst hn2
  subst hk2
  intro locs ls hS h
  have hRR : zR K = rm := X.2.2.2.2.2.2.2.2.1
  have hr : rg z := ⟨by omega, by omega⟩
  refine va_newaK (atype := .boolean) X.1 X.2.1 (X.2.2.2.2.1 _ harr) rfl hd rfl (by rw [J_0, J_lt hr ⟨by decide, by decide⟩]; omega) (N := N) (by rw [J_cl hr]; omega) (by show N * 1 ≤ _; omega) (by rw [hRR]; exact hcells) (by rw [hRR]; exact hslots) rfl fun H1 cA e1 z1 o1 hA hcA => ?_
  have hK2 := (X.2.2.2.2.2.1.1.2 1 _ rfl).2
  have hid : cA = D.2.2 1 := Option.some.inj (hcA.symm.trans hK2)
  subst hid
  exact kk H1 z1 e1 o1 locs ls ⟨Nat.le_trans hS.1 (by omega), fun x h1 h2 => (o1 x (Nat.lt_of_lt_of_le h1 hS.1)).trans (hS.2.1 x h1 h2), hS.2.2⟩ h
theorem g_anewarr (X : GX K cc own Ts D base rm nL) {z : Int} {N index t : Nat} {C : String} (ht : (t = 2 ∧ C = "AnchoredNotes$Note") ∨ (t = 3 ∧ C = "AnchoredNotes$Page")) (hcl : Cond.classLink own index C ∈ Ts) (hz : z = (N : Int)) (hN : N < 100000) (hcells : n + 1 ≤ rm.cells) (hslots : k + N ≤ rm.slots) (hd : decode cc pc = .ok (.anewarray index, 3))
    {n2 k2 : Nat} (hn2 : n + 1 = n2) (hk2 : k + N = k2) (kk : ∀ H1 : Heap, H1.size = H.size + 1 → Ra D H.size t N (fun _ => none) H1 → (∀ q : Nat, q < H.size → H1[q]? = H[q]?) → G K n2 k2 H1 (pc + 3) lv (.ref H.size :: st)) : G K n k H pc lv (.int (J z) :: st) := by
  subst hn2
  subst hk2
  intro locs ls hS h
  have hRR : zR K = rm := X.2.2.2.2.2.2.2.2.1
  have hr : rg z := ⟨by omega, by omega⟩
  have hKs := X.2.2.2.2.2.1
  obtain ⟨hover, t0, ht0⟩ : va_AO C (zs K) ∧ ∃ t0 : Nat, (zTys D)[t0]? = some (D.2.2 t, .object C) := by
    rcases ht with ⟨rfl, rfl⟩ | ⟨rfl, rfl⟩
    · exact ⟨hKs.2.1, 2, rfl⟩
    · exact ⟨hKs.2.2.1, 3, rfl⟩
  have hcl0 : (J z).toNatClampNeg = N := by rw [J_cl hr]; omega
  refine W.anew X.1 X.2.1 X.2.2.2.1 (X.2.2.2.2.1 _ hcl) (va_AO.use hover) rfl hd rfl (by rw [J_0, J_lt hr ⟨by decide, by decide⟩]; omega) (by rw [hcl0]; omega) (by rw [hRR]; exact hcells) (by rw [hRR, hcl0]; exact hslots) fun cA kA comp f1 f2 f3 f4 => ?_
  obtain ⟨kA2, comp2, k1, k2, k3, k4⟩ := (hKs.1.2 t0 _ ht0).2
  have hid : cA = D.2.2 t := Option.some.inj (f1.symm.trans k4)
  rw [hcl0]
  generalize hH1 : H.push ({ cls := cA, slots := Array.replicate N .null, vm := .none } : Cell) = H1
  have z1 : H1.size = H.size + 1 := by rw [← hH1, Array.size_push]
  have e1 : H1[H.size]? = some (arrV cA N (fun _ => .null)) := by rw [← hH1, Array.getElem?_push_size, ← arrV_new]
  have o1 : ∀ q : Nat, q < H.size → H1[q]? = H[q]? := fun q hq => by rw [← hH1, Array.getElem?_push, if_neg (Nat.ne_of_lt hq)]
  subst hid
  exact kk H1 z1 e1 o1 locs ls ⟨Nat.le_trans hS.1 (by omega), fun x h1 h2 => (o1 x (Nat.lt_of_lt_of_le h1 hS.1)).trans (hS.2.1 x h1 h2), hS.2.2⟩ h
theorem g_mmin (X : GX K cc own Ts D base rm nL) {a b : Int} {index : Nat} (ha : rg a) (hb : rg b) (hlk : Cond.methodLink own index Lib.Math.min.name ∈ Ts) (hstat : Cond.static Lib.Math.min.name ∈ Ts) (hini : Cond.initialized "java/lang/Math" ∈ Ts) (hcode : Cond.code Lib.Math.min.name Lib.Math.min.code 2 (some .int) ∈ Ts) (hfr : 1 ≤ rm.frames) (hlo : (st.map fun v => v.category).sum + 13 ≤ rm.locals) (hf : n ≤ rm.cells ∧ k ≤ rm.slots) (hd : decode cc pc = .ok (.invokestatic index, 3)) (kk : G K n k H (pc + 3) lv (.int (J (if b < a then b else a)) :: st)) : G K n k H pc lv (.int (J b) :: .int (J a) :: st) := by
  intro locs ls hS h
  have hRR : zR K = rm := X.2.2.2.2.2.2.2.2.1
  refine va_mmin X.1 X.2.1 (by rw [X.2.2.1, ← X.2.2.2.2.2.2.2.2.2.1]; exact h.1.symm) X.2.2.2.1 (X.2.2.2.2.1 _ hlk) (X.2.2.2.2.1 _ hstat) (X.2.2.2.2.1 _ hini) (X.2.2.2.2.1 _ hcode) (by rw [hRR]; exact hfr) (by rw [hRR]; exact hlo) (by rw [hRR]; exact hf.1) (by rw [hRR]; exact hf.2) hd ?_
  have e : (if J b < J a then J b else J a) = J (if b < a then b else a) := by
    by_cases c : b < a
    · rw [if_pos c, if_pos ((J_lt hb ha).mpr c)]
    · rw [if_neg c, if_neg (fun q => c ((J_lt hb ha).mp q))]
  rw [e]
  exact kk locs ls hS h
theorem g_mmax (X : GX K cc own Ts D base rm nL) {a b : Int} {index : Nat} (ha : rg a) (hb : rg b) (hlk : Cond.methodLink own index Lib.Math.max.name ∈ Ts) (hstat : Cond.static Lib.Math.max.name ∈ Ts) (hini : Cond.initialized "java/lang/Math" ∈ Ts) (hcode : Cond.code Lib.Math.max.name Lib.Math.max.code 2 (some .int) ∈ Ts) (hfr : 1 ≤ rm.frames) (hlo : (st.map fun v => v.category).sum + 13 ≤ rm.locals) (hf : n ≤ rm.cells ∧ k ≤ rm.slots) (hd : decode cc pc = .ok (.invokestatic index, 3)) (kk : G K n k H (pc + 3) lv (.int (J (if a < b then b else a)) :: st)) : G K n k H pc lv (.int (J b) :: .int (J a) :: st) := by
  intro locs ls hS h
  have hRR : zR K = rm := X.2.2.2.2.2.2.2.2.1
  refine va_mmax X.1 X.2.1 (by rw [X.2.2.1, ← X.2.2.2.2.2.2.2.2.2.1]; exact h.1.symm) X.2.2.2.1 (X.2.2.2.2.1 _ hlk) (X.2.2.2.2.1 _ hstat) (X.2.2.2.2.1 _ hini) (X.2.2.2.2.1 _ hcode) (by rw [hRR]; exact hfr) (by rw [hRR]; exact hlo) (by rw [hRR]; exact hf.1) (by rw [hRR]; exact hf.2) hd ?_
  have e : (if J a < J b then J b else J a) = J (if a < b then b else a) := by
    by_cases c : a < b
    · rw [if_pos c, if_pos ((J_lt ha hb).mpr c)]
    · rw [if_neg c, if_neg (fun q => c ((J_lt ha hb).mp q))]
  rw [e]
  exact kk locs ls hS h
/-- cells that are copied from a row to a row, or within one -/
def cpy (f g : Int → Int) (sp dp m : Int) : Int → Int := fun j => if dp ≤ j ∧ j < dp + m then f (sp + (j - dp)) else g j
theorem g_copy (X : GX K cc own Ts D base rm nL) {q0 q1 N0 N1 : Nat} {f g : Int → Int} {sp dp m : Int} {index : Nat} {rest : List Value} (hA0 : Ia D q0 N0 f H) (hA1 : Ia D q1 N1 g H) (hq : base ≤ q1) (h1 : 0 ≤ sp) (h2 : 0 ≤ dp) (h3 : 0 ≤ m) (h4 : sp + m ≤ N0) (h5 : dp + m ≤ N1) (hN : N0 < 100000 ∧ N1 < 100000) (hlk : Cond.methodLink own index arraycopyName ∈ Ts) (hnat : Cond.native arraycopyName ∈ Ts) (hstat : Cond.static arraycopyName ∈ Ts) (hini : Cond.initialized "java/lang/System" ∈ Ts) (hfr : 1 ≤ rm.frames) (hlo : (rest.map fun v => v.category).sum + (nativeFrameWords "java/lang/System" "arraycopy" 5 + 11) ≤ rm.locals) (hd : decode cc pc = .ok (.invokestatic index, 3))
    (kk : ∀ H1 : Heap, Ia D q1 N1 (cpy f g sp dp m) H1 → Fr (Iv q1 (q1 + 1)) 0 H H1 → G K n k H1 (pc + 3) lv rest) : G K n k H pc lv (.int (J m) :: .int (J dp) :: .ref q1 :: .int (J sp) :: .ref q0 :: rest) := by
  intro locs ls hS h
  have hRR : zR K = rm := X.2.2.2.2.2.2.2.2.1
  have rs : rg sp := ⟨by omega, by omega⟩
  have rd : rg dp := ⟨by omega, by omega⟩
  have rm' : rg m := ⟨by omega, by omega⟩
  have z0 : rg 0 := ⟨by decide, by decide⟩
  have hc0 : H[q0]? = some (vp_cell (D.2.2 0) (N0, .inl (fun j => J (f j)))) := hA0
  have hc1 : H[q1]? = some (vp_cell (D.2.2 0) (N1, .inl (fun j => J (g j)))) := hA1
  have hK2 := (X.2.2.2.2.2.1.1.2 0 _ rfl).1
  obtain ⟨-, k0, hk0, cm0, hkk0⟩ := hK2 N0 (fun j => .int (J (f j)))
  obtain ⟨-, k1, hk1, cm1, hkk1⟩ := hK2 N1 (fun j => .int (J (g j)))
  have cs := J_cl rs
  have cd := J_cl rd
  have cm := J_cl rm'
  intro T hT XX
  obtain ⟨vm', X', step⟩ := XX.arraycopy X.1 X.2.2.2.1 (X.2.2.2.2.1 _ hlk) (X.2.2.2.2.1 _ hnat) (X.2.2.2.2.1 _ hstat) (X.2.2.2.2.1 _ hini) (src := q0) (dst := q1) (cs := vp_cell (D.2.2 0) (N0, .inl (fun j => J (f j)))) (cd := vp_cell (D.2.2 0) (N1, .inl (fun j => J (g j)))) (srcPos := J sp) (destPos := J dp) (n := J m) (by rw [hT]; exact hc0) (by rw [hT]; exact hc1)
    (fun _ h => by cases h) (fun _ h => by cases h) (fun h => by cases h) (fun h => by cases h) hk0 hk1 hkk0 hkk1 (by simp [refKind]) (by rw [J_0, J_lt rs z0]; omega) (by rw [J_0, J_lt rd z0]; omega) (by rw [J_0, J_lt rm' z0]; omega)
    (by rw [J_toInt rs, J_toInt rm']; show ¬ _ > ((arrV (D.2.2 0) N0 (fun j => .int (J (f j)))).slots.size : Int); rw [arrV_size]; omega)
    (by rw [J_toInt rd, J_toInt rm']; show ¬ _ > ((arrV (D.2.2 0) N1 (fun j => .int (J (g j)))).slots.size : Int); rw [arrV_size]; omega)
    (fun vm₁ _ i hi => by
      have e : (vp_cell (D.2.2 0) (N0, .inl (fun j => J (f j)))).slots.getD ((J sp).toNatClampNeg + i) .null = .int (J (f (((J sp).toNatClampNeg + i : Nat) : Int))) := by
        show (arrV (D.2.2 0) N0 (fun j => .int (J (f j)))).slots.getD _ _ = _
        rw [Array.getD_eq_getD_getElem?, arrV_read _ _ (by omega)]
        rfl
      refine ⟨?_, ?_⟩
      · rw [e]
        rfl
      · rw [e]
        exact trivial)
    (g := F0 (zm K) pc ls (.int (J m) :: .int (J dp) :: .ref q1 :: .int (J sp) :: .ref q0 :: rest)) rfl (by show ls.size = _; rw [h.1, X.2.2.1]; exact X.2.2.2.2.2.2.2.2.2.1) (rest := rest) rfl (by rw [X.2.1]; exact hd) (by rw [hRR]; exact hfr) (by rw [hRR]; show 2 * 0 + _ + _ ≤ _; omega)
  have e1 : copied (vp_cell (D.2.2 0) (N0, .inl (fun j => J (f j)))) (vp_cell (D.2.2 0) (N1, .inl (fun j => J (g j)))) (J sp) (J dp) (J m) = vp_cell (D.2.2 0) (N1, .inl (va_cpy (fun j => J (f j)) (fun j => J (g j)) (J sp).toNatClampNeg (J dp).toNatClampNeg (J m).toNatClampNeg)) := va_copied (fun z => .int z) (D.2.2 0) (D.2.2 0) (fun j => J (f j)) (fun j => J (g j)) (by omega)
  have e2 : va_cpy (fun j : Nat => J (f j)) (fun j => J (g j)) (J sp).toNatClampNeg (J dp).toNatClampNeg (J m).toNatClampNeg = fun j : Nat => J (cpy f g sp dp m j) := by
    funext j
    unfold va_cpy cpy
    rw [cs, cd, cm]
    dsimp only
    by_cases c : dp ≤ (j : Int) ∧ (j : Int) < dp + m
    · rw [if_pos c, if_pos (by omega), show (((sp.toNat + (j - dp.toNat) : Nat) : Int)) = sp + (j - dp) by omega]
    · rw [if_neg c, if_neg (by omega)]
  rw [e1, e2] at X' step
  have hl : q1 < H.size := (Array.getElem?_eq_some_iff.mp hc1).1
  generalize hcell : vp_cell (D.2.2 0) (N1, .inl (fun j : Nat => J (cpy f g sp dp m j))) = cell at X' step
  have hheap : ((T.setVm vm').setCell q1 cell).heap = H.setIfInBounds q1 cell := by rw [← hT]; rfl
  have oq : ∀ q : Nat, q ≠ q1 → (H.setIfInBounds q1 cell)[q]? = H[q]? := fun q hq => by simp [Array.getElem?_setIfInBounds, Ne.symm hq]
  have hb' : ∀ q, q = q1 → zba K ≤ q := fun q e => by rw [e, X.2.2.2.2.2.2.2.1]; exact hq
  obtain ⟨t, a1, b1⟩ := kk (H.setIfInBounds q1 cell) (by show (H.setIfInBounds q1 cell)[q1]? = some _; rw [hcell]; simp [Array.getElem?_setIfInBounds, hl]) (Up1.fr ⟨by simp, oq⟩) _ ls ⟨by simp; exact hS.1, fun q g1 g2 => by
      rw [oq q (fun e => g2 (hb' q e))]
      exact hS.2.1 q g1 g2, fun q hq => by
      rcases List.mem_append.mp hq with h | h
      · exact hS.2.2 q h
      · obtain ⟨z, -, hz⟩ := List.mem_map.mp h
        rw [← hz]
        exact hb' q1 rfl⟩ h _ hheap X'
  exact ⟨t, step t a1, b1⟩
end
def PI (P : Heap → Int → Heap → Prop) : Heap → Option Value → Heap → Prop := fun H v H1 => ∃ r : Int, v = some (.int (J r)) ∧ P H r H1
def PV (P : Heap → Heap → Prop) : Heap → Option Value → Heap → Prop := fun H v H1 => v = none ∧ P H H1
def PR (P : Heap → Value → Heap → Prop) : Heap → Option Value → Heap → Prop := fun H v H1 => ∃ r : Value, v = some r ∧ P H r H1
/-- a place of call, all that the tables say of it -/
def zCV (own : String) (Ts : List Cond) (index : Nat) (ci : Nat) (y : MethodName) (ws : List Cond) (bytes : ByteArray) (maxL : Nat) (ret : Option FieldType) (rm rmc : Room) (na : Nat) : Prop := ∃ r ws', GoodIn Ts (wsV own index y.cls y ws) ∧ ws = Cond.code y bytes maxL ret :: ws' ∧ (y.cls ≠ "java/lang/invoke/MethodHandle" ∧ y.cls ≠ "java/lang/invoke/VarHandle" ∧ (parseMethodDescriptor y.desc).map (fun d => d.parameters.length) = some na) ∧ (rmc.frames + 1 ≤ rm.frames ∧ 8 + (maxL + 11) + rmc.locals ≤ rm.locals) ∧ vwCl[ci]? = some r ∧ r.1 = y.cls
def zCS (own : String) (Ts : List Cond) (index : Nat) (y : MethodName) (ws : List Cond) (bytes : ByteArray) (maxL : Nat) (ret : Option FieldType) (rm rmc : Room) (na : Nat) : Prop := ∃ ws', GoodIn Ts (wsS own index y ws) ∧ ws = Cond.code y bytes maxL ret :: ws' ∧ (y.cls = own ∧ y.cls ≠ "java/lang/invoke/MethodHandle" ∧ y.cls ≠ "java/lang/invoke/VarHandle" ∧ (parseMethodDescriptor y.desc).map (fun d => d.parameters.length) = some na) ∧ (rmc.frames + 1 ≤ rm.frames ∧ 8 + (maxL + 11) + rmc.locals ≤ rm.locals)
def zCJ (own : String) (Ts : List Cond) (index : Nat) (y : MethodName) (ws : List Cond) (bytes : ByteArray) (maxL : Nat) (ret : Option FieldType) (rm rmc : Room) (na : Nat) : Prop := ∃ ws', GoodIn Ts (va_wsS own index y ws) ∧ ws = Cond.code y bytes maxL ret :: ws' ∧ (y.cls ≠ "java/lang/invoke/MethodHandle" ∧ y.cls ≠ "java/lang/invoke/VarHandle" ∧ (parseMethodDescriptor y.desc).map (fun d => d.parameters.length) = some na) ∧ (rmc.frames + 1 ≤ rm.frames ∧ 8 + (maxL + 11) + rmc.locals ≤ rm.locals)
def zCN (own : String) (Ts : List Cond) (index : Nat) (y : MethodName) (ws : List Cond) (bytes : ByteArray) (maxL : Nat) (ret : Option FieldType) (rm rmc : Room) (na : Nat) : Prop := ∃ host ws', GoodIn Ts ws ∧ Cond.methodLinkNest own index y host ∈ zNest ∧ Cond.initialized y.cls ∈ Ts ∧ Cond.static y ∈ Ts ∧ ws = Cond.code y bytes maxL ret :: ws' ∧ (y.cls ≠ "java/lang/invoke/MethodHandle" ∧ y.cls ≠ "java/lang/invoke/VarHandle" ∧ (parseMethodDescriptor y.desc).map (fun d => d.parameters.length) = some na) ∧ (rmc.frames + 1 ≤ rm.frames ∧ 8 + (maxL + 11) + rmc.locals ≤ rm.locals)
def zCI (own : String) (Ts : List Cond) (index : Nat) (y : MethodName) (ws : List Cond) (bytes : ByteArray) (maxL : Nat) (rm rmc : Room) (na : Nat) : Prop := ∃ ws', GoodIn Ts ws ∧ (Cond.methodLink own index y ∈ Ts ∨ ∃ host, Cond.methodLinkNest own index y host ∈ zNest) ∧ Cond.initialized y.cls ∈ Ts ∧ Cond.instanceMethod y ∈ Ts ∧ y.name = "<init>" ∧ ws = Cond.code y bytes maxL none :: ws' ∧ (y.cls ≠ "java/lang/invoke/MethodHandle" ∧ y.cls ≠ "java/lang/invoke/VarHandle" ∧ (parseMethodDescriptor y.desc).map (fun d => d.parameters.length) = some na) ∧ (rmc.frames + 1 ≤ rm.frames ∧ 8 + (maxL + 11) + rmc.locals ≤ rm.locals)
section
variable {K : zC} {n k : Nat} {H : Heap} {pc : Nat} {lv : List (Nat × Value)} {st : List Value} {cc : ByteArray} {own : String} {Ts : List Cond} {D : zD} {base : Nat} {rm : Room} {nL : Nat}
theorem gVi (X : GX K cc own Ts D base rm nL) {y : MethodName} {ws : List Cond} {rmc : Room} {As : List Value} {Pre : Heap → Prop} {bytes : ByteArray} {maxL index na : Nat} {ret : Option FieldType} {rest : List Value} {n2 k2 : Nat} {P : Heap → Int → Heap → Prop} {ci q : Nat} {fs : List Value} (cs : zCV own Ts index ci y ws bytes maxL ret rm rmc na) (hM : Ct (zl K) y ws rmc D base (.ref q :: As) Pre (PI P)) (hn : As.length = na) (hO : Ob D q ci fs H) (hq : base ≤ q) (hP : Pre H) (hst : st = As.reverse ++ .ref q :: rest) (hf : n + rmc.cells ≤ rm.cells ∧ k + rmc.slots ≤ rm.slots) (hdg : decode cc pc = .ok (.invokevirtual index, 3)) (hW : (rest.map fun v => v.category).sum ≤ 8) (hn2 : n + rmc.cells = n2) (hk2 : k + rmc.slots = k2) (kk : ∀ (r : Int) (H1 : Heap), P H r H1 → H.size ≤ H1.size → G K n2 k2 H1 (pc + 3) lv (.int (J r) :: rest)) : G K n k H pc lv st := by
  obtain ⟨r, ws', h1, h2, h3, h4, h5, h6⟩ := cs
  exact g_callV X hM h1 h2 na ⟨rfl, h3⟩ hn h4 hf h5 h6 hO (Nat.le_trans hq (Nat.le_of_lt hO.lt)) hP hdg hst hW (fun v H1 hp hs => by obtain ⟨r, rfl, hp⟩ := hp; subst hn2; subst hk2; exact kk r H1 hp hs)
theorem gSi (X : GX K cc own Ts D base rm nL) {y : MethodName} {ws : List Cond} {rmc : Room} {As : List Value} {Pre : Heap → Prop} {bytes : ByteArray} {maxL index na : Nat} {ret : Option FieldType} {rest : List Value} {n2 k2 : Nat} {P : Heap → Int → Heap → Prop} (cs : zCS own Ts index y ws bytes maxL ret rm rmc na) (hM : Ct (zl K) y ws rmc D base As Pre (PI P)) (hn : As.length = na) (hb : base ≤ H.size) (hP : Pre H) (hst : st = As.reverse ++ rest) (hf : n + rmc.cells ≤ rm.cells ∧ k + rmc.slots ≤ rm.slots) (hdg : decode cc pc = .ok (.invokestatic index, 3)) (hW : (rest.map fun v => v.category).sum ≤ 8) (hn2 : n + rmc.cells = n2) (hk2 : k + rmc.slots = k2) (kk : ∀ (r : Int) (H1 : Heap), P H r H1 → H.size ≤ H1.size → G K n2 k2 H1 (pc + 3) lv (.int (J r) :: rest)) : G K n k H pc lv st := by
  obtain ⟨ws', h1, h2, h3, h4⟩ := cs
  exact g_callS X hM h1 h2 na h3 hn h4 hf hb hP hdg hst hW (fun v H1 hp hs => by obtain ⟨r, rfl, hp⟩ := hp; subst hn2; subst hk2; exact kk r H1 hp hs)
theorem gJi (X : GX K cc own Ts D base rm nL) {y : MethodName} {ws : List Cond} {rmc : Room} {As : List Value} {Pre : Heap → Prop} {bytes : ByteArray} {maxL index na : Nat} {ret : Option FieldType} {rest : List Value} {n2 k2 : Nat} {P : Heap → Int → Heap → Prop} (cs : zCJ own Ts index y ws bytes maxL ret rm rmc na) (hM : Ct (zl K) y ws rmc D base As Pre (PI P)) (hn : As.length = na) (hb : base ≤ H.size) (hP : Pre H) (hst : st = As.reverse ++ rest) (hf : n + rmc.cells ≤ rm.cells ∧ k + rmc.slots ≤ rm.slots) (hdg : decode cc pc = .ok (.invokestatic index, 3)) (hW : (rest.map fun v => v.category).sum ≤ 8) (hn2 : n + rmc.cells = n2) (hk2 : k + rmc.slots = k2) (kk : ∀ (r : Int) (H1 : Heap), P H r H1 → H.size ≤ H1.size → G K n2 k2 H1 (pc + 3) lv (.int (J r) :: rest)) : G K n k H pc lv st := by
  obtain ⟨ws', h1, h2, h3, h4⟩ := cs
  exact g_callJ X hM h1 h2 na h3 hn h4 hf hb hP hdg hst hW (fun v H1 hp hs => by obtain ⟨r, rfl, hp⟩ := hp; subst hn2; subst hk2; exact kk r H1 hp hs)
theorem gNi (X : GX K cc own Ts D base rm nL) {y : MethodName} {ws : List Cond} {rmc : Room} {As : List Value} {Pre : Heap → Prop} {bytes : ByteArray} {maxL index na : Nat} {ret : Option FieldType} {rest : List Value} {n2 k2 : Nat} {P : Heap → Int → Heap → Prop} (cs : zCN own Ts index y ws bytes maxL ret rm rmc na) (hM : Ct (zl K) y ws rmc D base As Pre (PI P)) (hn : As.length = na) (hb : base ≤ H.size) (hP : Pre H) (hst : st = As.reverse ++ rest) (hf : n + rmc.cells ≤ rm.cells ∧ k + rmc.slots ≤ rm.slots) (hdg : decode cc pc = .ok (.invokestatic index, 3)) (hW : (rest.map fun v => v.category).sum ≤ 8) (hn2 : n + rmc.cells = n2) (hk2 : k + rmc.slots = k2) (kk : ∀ (r : Int) (H1 : Heap), P H r H1 → H.size ≤ H1.size → G K n2 k2 H1 (pc + 3) lv (.int (J r) :: rest)) : G K n k H pc lv st := by
  obtain ⟨host, ws', h1, h2, h3, h4, h5, h6, h7⟩ := cs
  exact g_callSN X hM h1 h2 h3 h4 h5 na h6 hn h7 hf hb hP hdg hst hW (fun v H1 hp hs => by obtain ⟨r, rfl, hp⟩ := hp; subst hn2; subst hk2; exact kk r H1 hp hs)
theorem gVv (X : GX K cc own Ts D base rm nL) {y : MethodName} {ws : List Cond} {rmc : Room} {As : List Value} {Pre : Heap → Prop} {bytes : ByteArray} {maxL index na : Nat} {ret : Option FieldType} {rest : List Value} {n2 k2 : Nat} {P : Heap → Heap → Prop} {ci q : Nat} {fs : List Value} (cs : zCV own Ts index ci y ws bytes maxL ret rm rmc na) (hM : Ct (zl K) y ws rmc D base (.ref q :: As) Pre (PV P)) (hn : As.length = na) (hO : Ob D q ci fs H) (hq : base ≤ q) (hP : Pre H) (hst : st = As.reverse ++ .ref q :: rest) (hf : n + rmc.cells ≤ rm.cells ∧ k + rmc.slots ≤ rm.slots) (hdg : decode cc pc = .ok (.invokevirtual index, 3)) (hW : (rest.map fun v => v.category).sum ≤ 8) (hn2 : n + rmc.cells = n2) (hk2 : k + rmc.slots = k2) (kk : ∀ (H1 : Heap), P H H1 → H.size ≤ H1.size → G K n2 k2 H1 (pc + 3) lv rest) : G K n k H pc lv st := by
  obtain ⟨r, ws', h1, h2, h3, h4, h5, h6⟩ := cs
  exact g_callV X hM h1 h2 na ⟨rfl, h3⟩ hn h4 hf h5 h6 hO (Nat.le_trans hq (Nat.le_of_lt hO.lt)) hP hdg hst hW (fun v H1 hp hs => by obtain ⟨rfl, hp⟩ := hp; subst hn2; subst hk2; exact kk H1 hp hs)
theorem gSv (X : GX K cc own Ts D base rm nL) {y : MethodName} {ws : List Cond} {rmc : Room} {As : List Value} {Pre : Heap → Prop} {bytes : ByteArray} {maxL index na : Nat} {ret : Option FieldType} {rest : List Value} {n2 k2 : Nat} {P : Heap → Heap → Prop} (cs : zCS own Ts index y ws bytes maxL ret rm rmc na) (hM : Ct (zl K) y ws rmc D base As Pre (PV P)) (hn : As.length = na) (hb : base ≤ H.size) (hP : Pre H) (hst : st = As.reverse ++ rest) (hf : n + rmc.cells ≤ rm.cells ∧ k + rmc.slots ≤ rm.slots) (hdg : decode cc pc = .ok (.invokestatic index, 3)) (hW : (rest.map fun v => v.category).sum ≤ 8) (hn2 : n + rmc.cells = n2) (hk2 : k + rmc.slots = k2) (kk : ∀ (H1 : Heap), P H H1 → H.size ≤ H1.size → G K n2 k2 H1 (pc + 3) lv rest) : G K n k H pc lv st := by
  obtain ⟨ws', h1, h2, h3, h4⟩ := cs
  exact g_callS X hM h1 h2 na h3 hn h4 hf hb hP hdg hst hW (fun v H1 hp hs => by obtain ⟨rfl, hp⟩ := hp; subst hn2; subst hk2; exact kk H1 hp hs)
theorem gJv (X : GX K cc own Ts D base rm nL) {y : MethodName} {ws : List Cond} {rmc : Room} {As : List Value} {Pre : Heap → Prop} {bytes : ByteArray} {maxL index na : Nat} {ret : Option FieldType} {rest : List Value} {n2 k2 : Nat} {P : Heap → Heap → Prop} (cs : zCJ own Ts index y ws bytes maxL ret rm rmc na) (hM : Ct (zl K) y ws rmc D base As Pre (PV P)) (hn : As.length = na) (hb : base ≤ H.size) (hP : Pre H) (hst : st = As.reverse ++ rest) (hf : n + rmc.cells ≤ rm.cells ∧ k + rmc.slots ≤ rm.slots) (hdg : decode cc pc = .ok (.invokestatic index, 3)) (hW : (rest.map fun v => v.category).sum ≤ 8) (hn2 : n + rmc.cells = n2) (hk2 : k + rmc.slots = k2) (kk : ∀ (H1 : Heap), P H H1 → H.size ≤ H1.size → G K n2 k2 H1 (pc + 3) lv rest) : G K n k H pc lv st := by
  obtain ⟨ws', h1, h2, h3, h4⟩ := cs
  exact g_callJ X hM h1 h2 na h3 hn h4 hf hb hP hdg hst hW (fun v H1 hp hs => by obtain ⟨rfl, hp⟩ := hp; subst hn2; subst hk2; exact kk H1 hp hs)
theorem gNv (X : GX K cc own Ts D base rm nL) {y : MethodName} {ws : List Cond} {rmc : Room} {As : List Value} {Pre : Heap → Prop} {bytes : ByteArray} {maxL index na : Nat} {ret : Option FieldType} {rest : List Value} {n2 k2 : Nat} {P : Heap → Heap → Prop} (cs : zCN own Ts index y ws bytes maxL ret rm rmc na) (hM : Ct (zl K) y ws rmc D base As Pre (PV P)) (hn : As.length = na) (hb : base ≤ H.size) (hP : Pre H) (hst : st = As.reverse ++ rest) (hf : n + rmc.cells ≤ rm.cells ∧ k + rmc.slots ≤ rm.slots) (hdg : decode cc pc = .ok (.invokestatic index, 3)) (hW : (rest.map fun v => v.category).sum ≤ 8) (hn2 : n + rmc.cells = n2) (hk2 : k + rmc.slots = k2) (kk : ∀ (H1 : Heap), P H H1 → H.size ≤ H1.size → G K n2 k2 H1 (pc + 3) lv rest) : G K n k H pc lv st := by
  obtain ⟨host, ws', h1, h2, h3, h4, h5, h6, h7⟩ := cs
  exact g_callSN X hM h1 h2 h3 h4 h5 na h6 hn h7 hf hb hP hdg hst hW (fun v H1 hp hs => by obtain ⟨rfl, hp⟩ := hp; subst hn2; subst hk2; exact kk H1 hp hs)
theorem gVr (X : GX K cc own Ts D base rm nL) {y : MethodName} {ws : List Cond} {rmc : Room} {As : List Value} {Pre : Heap → Prop} {bytes : ByteArray} {maxL index na : Nat} {ret : Option FieldType} {rest : List Value} {n2 k2 : Nat} {P : Heap → Value → Heap → Prop} {ci q : Nat} {fs : List Value} (cs : zCV own Ts index ci y ws bytes maxL ret rm rmc na) (hM : Ct (zl K) y ws rmc D base (.ref q :: As) Pre (PR P)) (hn : As.length = na) (hO : Ob D q ci fs H) (hq : base ≤ q) (hP : Pre H) (hst : st = As.reverse ++ .ref q :: rest) (hf : n + rmc.cells ≤ rm.cells ∧ k + rmc.slots ≤ rm.slots) (hdg : decode cc pc = .ok (.invokevirtual index, 3)) (hW : (rest.map fun v => v.category).sum ≤ 8) (hn2 : n + rmc.cells = n2) (hk2 : k + rmc.slots = k2) (kk : ∀ (r : Value) (H1 : Heap), P H r H1 → H.size ≤ H1.size → G K n2 k2 H1 (pc + 3) lv (r :: rest)) : G K n k H pc lv st := by
  obtain ⟨r, ws', h1, h2, h3, h4, h5, h6⟩ := cs
  exact g_callV X hM h1 h2 na ⟨rfl, h3⟩ hn h4 hf h5 h6 hO (Nat.le_trans hq (Nat.le_of_lt hO.lt)) hP hdg hst hW (fun v H1 hp hs => by obtain ⟨r, rfl, hp⟩ := hp; subst hn2; subst hk2; exact kk r H1 hp hs)
theorem gSr (X : GX K cc own Ts D base rm nL) {y : MethodName} {ws : List Cond} {rmc : Room} {As : List Value} {Pre : Heap → Prop} {bytes : ByteArray} {maxL index na : Nat} {ret : Option FieldType} {rest : List Value} {n2 k2 : Nat} {P : Heap → Value → Heap → Prop} (cs : zCS own Ts index y ws bytes maxL ret rm rmc na) (hM : Ct (zl K) y ws rmc D base As Pre (PR P)) (hn : As.length = na) (hb : base ≤ H.size) (hP : Pre H) (hst : st = As.reverse ++ rest) (hf : n + rmc.cells ≤ rm.cells ∧ k + rmc.slots ≤ rm.slots) (hdg : decode cc pc = .ok (.invokestatic index, 3)) (hW : (rest.map fun v => v.category).sum ≤ 8) (hn2 : n + rmc.cells = n2) (hk2 : k + rmc.slots = k2) (kk : ∀ (r : Value) (H1 : Heap), P H r H1 → H.size ≤ H1.size → G K n2 k2 H1 (pc + 3) lv (r :: rest)) : G K n k H pc lv st := by
  obtain ⟨ws', h1, h2, h3, h4⟩ := cs
  exact g_callS X hM h1 h2 na h3 hn h4 hf hb hP hdg hst hW (fun v H1 hp hs => by obtain ⟨r, rfl, hp⟩ := hp; subst hn2; subst hk2; exact kk r H1 hp hs)
theorem gJr (X : GX K cc own Ts D base rm nL) {y : MethodName} {ws : List Cond} {rmc : Room} {As : List Value} {Pre : Heap → Prop} {bytes : ByteArray} {maxL index na : Nat} {ret : Option FieldType} {rest : List Value} {n2 k2 : Nat} {P : Heap → Value → Heap → Prop} (cs : zCJ own Ts index y ws bytes maxL ret rm rmc na) (hM : Ct (zl K) y ws rmc D base As Pre (PR P)) (hn : As.length = na) (hb : base ≤ H.size) (hP : Pre H) (hst : st = As.reverse ++ rest) (hf : n + rmc.cells ≤ rm.cells ∧ k + rmc.slots ≤ rm.slots) (hdg : decode cc pc = .ok (.invokestatic index, 3)) (hW : (rest.map fun v => v.category).sum ≤ 8) (hn2 : n + rmc.cells = n2) (hk2 : k + rmc.slots = k2) (kk : ∀ (r : Value) (H1 : Heap), P H r H1 → H.size ≤ H1.size → G K n2 k2 H1 (pc + 3) lv (r :: rest)) : G K n k H pc lv st := by
  obtain ⟨ws', h1, h2, h3, h4⟩ := cs
  exact g_callJ X hM h1 h2 na h3 hn h4 hf hb hP hdg hst hW (fun v H1 hp hs => by obtain ⟨r, rfl, hp⟩ := hp; subst hn2; subst hk2; exact kk r H1 hp hs)
theorem gNr (X : GX K cc own Ts D base rm nL) {y : MethodName} {ws : List Cond} {rmc : Room} {As : List Value} {Pre : Heap → Prop} {bytes : ByteArray} {maxL index na : Nat} {ret : Option FieldType} {rest : List Value} {n2 k2 : Nat} {P : Heap → Value → Heap → Prop} (cs : zCN own Ts index y ws bytes maxL ret rm rmc na) (hM : Ct (zl K) y ws rmc D base As Pre (PR P)) (hn : As.length = na) (hb : base ≤ H.size) (hP : Pre H) (hst : st = As.reverse ++ rest) (hf : n + rmc.cells ≤ rm.cells ∧ k + rmc.slots ≤ rm.slots) (hdg : decode cc pc = .ok (.invokestatic index, 3)) (hW : (rest.map fun v => v.category).sum ≤ 8) (hn2 : n + rmc.cells = n2) (hk2 : k + rmc.slots = k2) (kk : ∀ (r : Value) (H1 : Heap), P H r H1 → H.size ≤ H1.size → G K n2 k2 H1 (pc + 3) lv (r :: rest)) : G K n k H pc lv st := by
  obtain ⟨host, ws', h1, h2, h3, h4, h5, h6, h7⟩ := cs
  exact g_callSN X hM h1 h2 h3 h4 h5 na h6 hn h7 hf hb hP hdg hst hW (fun v H1 hp hs => by obtain ⟨r, rfl, hp⟩ := hp; subst hn2; subst hk2; exact kk r H1 hp hs)
theorem gIv (X : GX K cc own Ts D base rm nL) {y : MethodName} {ws : List Cond} {rmc : Room} {As : List Value} {Pre : Heap → Prop} {bytes : ByteArray} {maxL index na : Nat} {rest : List Value} {n2 k2 : Nat} {P : Heap → Heap → Prop} {q : Nat} (cs : zCI own Ts index y ws bytes maxL rm rmc na) (hM : Ct (zl K) y ws rmc D base (.ref q :: As) Pre (PV P)) (hn : As.length = na) (hb : base ≤ H.size) (hP : Pre H) (hst : st = As.reverse ++ .ref q :: rest) (hf : n + rmc.cells ≤ rm.cells ∧ k + rmc.slots ≤ rm.slots) (hdg : decode cc pc = .ok (.invokespecial index, 3)) (hW : (rest.map fun v => v.category).sum ≤ 8) (hn2 : n + rmc.cells = n2) (hk2 : k + rmc.slots = k2) (kk : ∀ (H1 : Heap), P H H1 → H.size ≤ H1.size → G K n2 k2 H1 (pc + 3) lv rest) : G K n k H pc lv st := by
  obtain ⟨ws', h1, h2, h3, h4, h5, h6, h7, h8⟩ := cs
  rcases h2 with h2 | ⟨host, h2⟩
  · exact g_callI (ret := none) X hM h1 h2 h3 h4 h5 h6 na h7 hn h8 hf hb hP hdg hst hW (fun v H1 hp hs => by obtain ⟨rfl, hp⟩ := hp; subst hn2; subst hk2; exact kk H1 hp hs)
  · exact g_callIN (ret := none) X hM h1 h2 h3 h4 h5 h6 na h7 hn h8 hf hb hP hdg hst hW (fun v H1 hp hs => by obtain ⟨rfl, hp⟩ := hp; subst hn2; subst hk2; exact kk H1 hp hs)
theorem g_iret (X : GX K cc own Ts D base rm nL) {mc ms : Nat} {P : Heap → Int → Heap → Prop} {H0 : Heap} (R : GR K (some .int) base mc ms (PI P)) (hH : (zs K).heap = H0) {z : Int} (hd : decode cc pc = .ok (.ireturn, 1)) (hp : P H0 z H) : G K mc ms H pc lv [.int (J z)] := g_ireturn X R (by rw [hH]; exact ⟨z, rfl, hp⟩) hd
theorem g_zret (X : GX K cc own Ts D base rm nL) {mc ms : Nat} {P : Heap → Int → Heap → Prop} {H0 : Heap} (R : GR K (some .boolean) base mc ms (PI P)) (hH : (zs K).heap = H0) {z : Int} (hz : z = 0 ∨ z = 1) (hd : decode cc pc = .ok (.ireturn, 1)) (hp : P H0 z H) : G K mc ms H pc lv [.int (J z)] := g_zreturn X R (by rcases hz with rfl | rfl <;> rfl) (by rw [hH]; exact ⟨z, rfl, hp⟩) hd
theorem g_vret (X : GX K cc own Ts D base rm nL) {mc ms : Nat} {P : Heap → Heap → Prop} {H0 : Heap} (R : GR K none base mc ms (PV P)) (hH : (zs K).heap = H0) (hd : decode cc pc = .ok (.return_, 1)) (hp : P H0 H) : G K mc ms H pc lv [] := g_vreturn X R (by rw [hH]; exact ⟨rfl, hp⟩) hd
theorem g_aret (X : GX K cc own Ts D base rm nL) {mc ms : Nat} {P : Heap → Value → Heap → Prop} {C : String} {H0 : Heap} (R : GR K (some (.object C)) base mc ms (PR P)) (hH : (zs K).heap = H0) {v : Value} (hv : v = .null ∨ ∃ a, v = .ref a) (hd : decode cc pc = .ok (.areturn, 1)) (hp : P H0 v H) : G K mc ms H pc lv [v] := g_areturn X R hv (by rw [hH]; exact ⟨v, rfl, hp⟩) hd
end
end
section
theorem zb0 {P : Prop} [Decidable P] (h : (if P then (1 : Int) else 0) = 0) : ¬ P := fun q => by rw [if_pos q] at h; omega
theorem zb1 {P : Prop} [Decidable P] (h : ¬ (if P then (1 : Int) else 0) = 0) : P := by
  by_cases q : P
  · exact q
  · rw [if_neg q] at h; exact absurd rfl h
theorem zbr (P : Prop) [Decidable P] : rg (if P then (1 : Int) else 0) := by split <;> exact ⟨by decide, by decide⟩
theorem zbo (P : Prop) [Decidable P] : (if P then (1 : Int) else 0) = 0 ∨ (if P then (1 : Int) else 0) = 1 := by split <;> simp
/-- a row: its object, its ints, how many of them count -/
def RowAt (D : zD) (r N : Nat) (n : Int) (f : Int → Int) (H : Heap) : Prop :=
  Ob D r 6 [.ref (r + 1), .int (J n)] H ∧ (∃ g : Int → Int, Ia D (r + 1) N g H ∧ ∀ i : Int, 0 ≤ i → i < n → g i = f i) ∧ 0 ≤ n ∧ n ≤ N ∧ N ≤ 100
theorem RowAt.fr {D : zD} {r N a b d : Nat} {n : Int} {f : Int → Int} {H H' : Heap} (h : RowAt D r N n f H) (fr : Fr (Iv a b) d H H') (e : r + 2 ≤ a ∨ b ≤ r) : RowAt D r N n f H' := by
  obtain ⟨h1, ⟨g, h2, h3⟩, h4⟩ := h
  exact ⟨h1.fr fr (by omega), ⟨g, h2.fr fr (by omega), h3⟩, h4⟩
theorem RowAt.congr {D : zD} {r N : Nat} {n : Int} {f f' : Int → Int} {H : Heap} (h : RowAt D r N n f H) (e : ∀ i : Int, 0 ≤ i → i < n → f i = f' i) : RowAt D r N n f' H := by
  obtain ⟨h1, ⟨g, h2, h3⟩, h4⟩ := h
  exact ⟨h1, ⟨g, h2, fun i a b => (h3 i a b).trans (e i a b)⟩, h4⟩
theorem RowAt.lt {D : zD} {r N : Nat} {n : Int} {f : Int → Int} {H : Heap} (h : RowAt D r N n f H) : r + 1 < H.size := by
  obtain ⟨h1, ⟨g, h2, h3⟩, h4⟩ := h
  exact h2.lt
theorem RowAt.bd {D : zD} {r N : Nat} {n : Int} {f : Int → Int} {H : Heap} (h : RowAt D r N n f H) : 0 ≤ n ∧ n ≤ N ∧ N ≤ 100 := h.2.2
/-- what is asked of a place that may be none -/
def itm (n : Int) (f : Int → Int) (i : Int) : Int := if 0 ≤ i ∧ i < n then f i else -1
def ins (f : Int → Int) (i v : Int) : Int → Int := fun j => if j < i then f j else if j = i then v else f (j - 1)
def del (f : Int → Int) (a b : Int) : Int → Int := fun j => if j < a then f j else f (j + (b - a + 1))
def rev (f : Int → Int) (a b : Int) : Int → Int := fun j => if a ≤ j ∧ j ≤ b then f (a + b - j) else f j
def swp (f : Int → Int) (a b lo hi : Int) : Int → Int := fun j => if (a ≤ j ∧ j < lo) ∨ (hi < j ∧ j ≤ b) then f (a + b - j) else f j
def exch (f : Int → Int) (a m b : Int) : Int → Int := fun j => if a ≤ j ∧ j ≤ b then (if j ≤ a + (b - m) then f (m + (j - a)) else f (j - (b - m + 1))) else f j
/-- some are taken out and put in again from a place on -/
def mvf (f : Int → Int) (a b p : Int) : Int → Int := fun j => if p ≤ j ∧ j ≤ p + (b - a) then f (a + (j - p)) else (if (if j < p then j else j - (b - a + 1)) < a then f (if j < p then j else j - (b - a + 1)) else f ((if j < p then j else j - (b - a + 1)) + (b - a + 1)))
theorem swp_0 (f : Int → Int) (a b : Int) : swp f a b a b = f := by
  funext j; simp only [swp]
  (repeat' split) <;> first | rfl | (exfalso; omega) | (congr 1; omega)
theorem swp_end {f : Int → Int} {a b lo hi : Int} (h : lo + hi = a + b) (h1 : hi ≤ lo) (h2 : a ≤ lo) (h3 : lo ≤ hi + 1) : swp f a b lo hi = rev f a b := by
  funext j; simp only [swp, rev]
  (repeat' split) <;> first | rfl | (exfalso; omega) | (congr 1; omega)
theorem exch_rev (f : Int → Int) {a m b : Int} (h1 : a ≤ m) (h2 : m ≤ b + 1) : rev (rev (rev f a (m - 1)) m b) a b = exch f a m b := by
  funext j; simp only [rev, exch]
  (repeat' split) <;> first | rfl | (exfalso; omega) | (congr 1; omega)
theorem mvf_lo (f : Int → Int) {a b p : Int} (h : p < a) (hab : a ≤ b) : exch f p a b = mvf f a b p := by
  funext j; simp only [exch, mvf]
  (repeat' split) <;> first | rfl | (exfalso; omega) | (congr 1; omega)
theorem mvf_hi (f : Int → Int) {a b p : Int} (h : a ≤ p) (hab : a ≤ b) : exch f a (b + 1) (p + b - a) = mvf f a b p := by
  funext j; simp only [exch, mvf]
  (repeat' split) <;> first | rfl | (exfalso; omega) | (congr 1; omega)
theorem swp_step {f g : Int → Int} {a b lo hi n : Int} (hg : ∀ i : Int, 0 ≤ i → i < n → g i = swp f a b lo hi i) (h : lo + hi = a + b) (h1 : a ≤ lo) (h2 : lo < hi) (h3 : 0 ≤ a) (h4 : b < n) : ∀ j : Int, 0 ≤ j → j < n → up (up g lo (g hi)) hi (g lo) j = swp f a b (lo + 1) (hi + (-1)) j := by
  intro j h0 h5
  have e1 := hg lo (by omega) (by omega)
  have e2 := hg hi (by omega) (by omega)
  have e3 := hg j h0 h5
  simp only [swp] at e1 e2 e3
  rw [if_neg (by omega)] at e1 e2
  simp only [up, swp]
  by_cases c1 : j = hi
  · rw [if_pos c1, e1, if_pos (by omega)]; congr 1; omega
  · rw [if_neg c1]
    by_cases c2 : j = lo
    · rw [if_pos c2, e2, if_pos (by omega)]; congr 1; omega
    · rw [if_neg c2, e3]
      by_cases c3 : (a ≤ j ∧ j < lo) ∨ (hi < j ∧ j ≤ b)
      · rw [if_pos c3, if_pos (by omega)]
      · rw [if_neg c3, if_neg (by omega)]
end
section
abbrev rm_X6_has : Room := { frames := 0, cells := 0, slots := 0, locals := 0 }
theorem zF_X6_has_15 : zF RX6 wsX6_has 6 1 15 := ⟨RX6, TX6, 2, rfl, by decide +kernel, by decide, by decide +kernel⟩
theorem zF_X6_has_9 : zF RX6 wsX6_has 6 0 9 := ⟨RX6, TX6, 2, rfl, by decide +kernel, by decide, by decide +kernel⟩
set_option maxRecDepth 100000 in
/-- whether there is such a place -/
theorem c_X6_has (l : Launch) (D : zD) (base : Nat) (r N : Nat) (n : Int) (f : Int → Int) (i : Int) (hi : rg i) : Ct l yX6_has wsX6_has rm_X6_has D base [.ref r, .int (J i)] (fun H => RowAt D r N n f H) (PI (fun H v H1 => H = H1 ∧ (if 0 ≤ i ∧ i < n then 1 else 0) = v)) := by
  refine Ct.of (own := RX6) (cc := cX6_has) (maxL := 2) (by decide +kernel) rfl (Nat.le_of_ble_eq_true rfl) rfl ?_
  intro K H X R hH hnm hP
  show G K 0 0 H 0 [(0, .ref r), (1, .int (J i))] []
  have hR := hP
  obtain ⟨hO, ⟨g, hA, hg⟩, hn0, hnN, hN⟩ := hP
  refine g_iload_n (pc := 0) (pl := 1) X dX6_has_0 rfl ?_
  refine g_if_lt (pc := 1) X 25 dX6_has_1 (by decide) (by omega) (fun c1 => ?_) (fun c1 => ?_)
  · skip
    refine g_iconst (pc := 25) X dX6_has_25 ?_
    refine g_zret (pc := 26) X R hH (by first | exact Or.inl rfl | exact Or.inr rfl | omega) dX6_has_26 ?_
    refine ⟨rfl, ?_⟩
    split <;> first | rfl | (exfalso; omega)
  · skip
    refine g_iload_n (pc := 4) (pl := 1) X dX6_has_4 rfl ?_
    refine g_aload_n (pc := 5) (pl := 0) X dX6_has_5 rfl ?_
    refine g_getf (pc := 6) X zF_X6_has_15 hO rfl dX6_has_6 ?_
    refine g_icmp_ge (pc := 9) X 25 dX6_has_9 (by decide) (by omega) (by omega) (fun c9 => ?_) (fun c9 => ?_)
    · skip
      refine g_iconst (pc := 25) X dX6_has_25 ?_
      refine g_zret (pc := 26) X R hH (by first | exact Or.inl rfl | exact Or.inr rfl | omega) dX6_has_26 ?_
      refine ⟨rfl, ?_⟩
      split <;> first | rfl | (exfalso; omega)
    · skip
      refine g_iload_n (pc := 12) (pl := 1) X dX6_has_12 rfl ?_
      refine g_aload_n (pc := 13) (pl := 0) X dX6_has_13 rfl ?_
      refine g_getf (pc := 14) X zF_X6_has_9 hO rfl dX6_has_14 ?_
      refine g_alen (pc := 17) X hA dX6_has_17 ?_
      refine g_icmp_ge (pc := 18) X 25 dX6_has_18 (by decide) (by omega) (by omega) (fun c18 => ?_) (fun c18 => ?_)
      · skip
        refine g_iconst (pc := 25) X dX6_has_25 ?_
        refine g_zret (pc := 26) X R hH (by first | exact Or.inl rfl | exact Or.inr rfl | omega) dX6_has_26 ?_
        refine ⟨rfl, ?_⟩
        split <;> first | rfl | (exfalso; omega)
      · skip
        refine g_iconst (pc := 21) X dX6_has_21 ?_
        refine g_goto (pc := 22) X 26 dX6_has_22 (by decide) ?_
        refine g_zret (pc := 26) X R hH (by first | exact Or.inl rfl | exact Or.inr rfl | omega) dX6_has_26 ?_
        refine ⟨rfl, ?_⟩
        split <;> first | rfl | (exfalso; omega)

abbrev rm_X6_item : Room := { frames := 0, cells := 0, slots := 0, locals := 0 }
theorem zF_X6_item_15 : zF RX6 wsX6_item 6 1 15 := ⟨RX6, TX6, 2, rfl, by decide +kernel, by decide, by decide +kernel⟩
theorem zF_X6_item_9 : zF RX6 wsX6_item 6 0 9 := ⟨RX6, TX6, 2, rfl, by decide +kernel, by decide, by decide +kernel⟩
set_option maxRecDepth 100000 in
/-- what is there, or -1 -/
theorem c_X6_item (l : Launch) (D : zD) (base : Nat) (r N : Nat) (n : Int) (f : Int → Int) (i : Int) (hi : rg i) : Ct l yX6_item wsX6_item rm_X6_item D base [.ref r, .int (J i)] (fun H => RowAt D r N n f H) (PI (fun H v H1 => H = H1 ∧ itm n f i = v)) := by
  refine Ct.of (own := RX6) (cc := cX6_item) (maxL := 2) (by decide +kernel) rfl (Nat.le_of_ble_eq_true rfl) rfl ?_
  intro K H X R hH hnm hP
  show G K 0 0 H 0 [(0, .ref r), (1, .int (J i))] []
  have hR := hP
  obtain ⟨hO, ⟨g, hA, hg⟩, hn0, hnN, hN⟩ := hP
  refine g_iload_n (pc := 0) (pl := 1) X dX6_item_0 rfl ?_
  refine g_if_lt (pc := 1) X 30 dX6_item_1 (by decide) (by omega) (fun c1 => ?_) (fun c1 => ?_)
  · skip
    refine g_iconst (pc := 30) X dX6_item_30 ?_
    refine g_iret (pc := 31) X R hH dX6_item_31 ?_
    refine ⟨rfl, ?_⟩
    unfold itm
    split <;> first | rfl | (exfalso; omega) | (exact (hg _ (by omega) (by omega)).symm)
  · skip
    refine g_iload_n (pc := 4) (pl := 1) X dX6_item_4 rfl ?_
    refine g_aload_n (pc := 5) (pl := 0) X dX6_item_5 rfl ?_
    refine g_getf (pc := 6) X zF_X6_item_15 hO rfl dX6_item_6 ?_
    refine g_icmp_ge (pc := 9) X 30 dX6_item_9 (by decide) (by omega) (by omega) (fun c9 => ?_) (fun c9 => ?_)
    · skip
      refine g_iconst (pc := 30) X dX6_item_30 ?_
      refine g_iret (pc := 31) X R hH dX6_item_31 ?_
      refine ⟨rfl, ?_⟩
      unfold itm
      split <;> first | rfl | (exfalso; omega) | (exact (hg _ (by omega) (by omega)).symm)
    · skip
      refine g_iload_n (pc := 12) (pl := 1) X dX6_item_12 rfl ?_
      refine g_aload_n (pc := 13) (pl := 0) X dX6_item_13 rfl ?_
      refine g_getf (pc := 14) X zF_X6_item_9 hO rfl dX6_item_14 ?_
      refine g_alen (pc := 17) X hA dX6_item_17 ?_
      refine g_icmp_ge (pc := 18) X 30 dX6_item_18 (by decide) (by omega) (by omega) (fun c18 => ?_) (fun c18 => ?_)
      · skip
        refine g_iconst (pc := 30) X dX6_item_30 ?_
        refine g_iret (pc := 31) X R hH dX6_item_31 ?_
        refine ⟨rfl, ?_⟩
        unfold itm
        split <;> first | rfl | (exfalso; omega) | (exact (hg _ (by omega) (by omega)).symm)
      · skip
        refine g_aload_n (pc := 21) (pl := 0) X dX6_item_21 rfl ?_
        refine g_getf (pc := 22) X zF_X6_item_9 hO rfl dX6_item_22 ?_
        refine g_iload_n (pc := 25) (pl := 1) X dX6_item_25 rfl ?_
        refine g_iaload (pc := 26) X hA (by omega) (by omega) (by omega) dX6_item_26 ?_
        refine g_goto (pc := 27) X 31 dX6_item_27 (by decide) ?_
        refine g_iret (pc := 31) X R hH dX6_item_31 ?_
        refine ⟨rfl, ?_⟩
        unfold itm
        split <;> first | rfl | (exfalso; omega) | (exact (hg _ (by omega) (by omega)).symm)

abbrev rm_X6_replace : Room := { frames := 1, cells := 0, slots := 0, locals := 21 }
theorem cs_X6_replace_19 : zCV RX6 wsX6_replace 19 6 yX6_has wsX6_has cX6_has 2 (some .boolean) rm_X6_replace rm_X6_has 1 := ⟨_, _, gX6_replace_X6_has, rfl, ⟨by decide +kernel, by decide +kernel, by decide +kernel⟩, ⟨Nat.le_of_ble_eq_true rfl, Nat.le_of_ble_eq_true rfl⟩, rfl, rfl⟩
theorem zF_X6_replace_9 : zF RX6 wsX6_replace 6 0 9 := ⟨RX6, TX6, 2, rfl, by decide +kernel, by decide, by decide +kernel⟩
set_option maxRecDepth 100000 in
theorem c_X6_replace (l : Launch) (D : zD) (base : Nat) (r N : Nat) (n : Int) (f : Int → Int) (i v : Int) (hq : base ≤ r) (hi : rg i) : Ct l yX6_replace wsX6_replace rm_X6_replace D base [.ref r, .int (J i), .int (J v)] (fun H => RowAt D r N n f H) (PV (fun H H1 => RowAt D r N n (up f i v) H1 ∧ Fr (Iv r (r + 2)) 0 H H1)) := by
  refine Ct.of (own := RX6) (cc := cX6_replace) (maxL := 3) (by decide +kernel) rfl (Nat.le_of_ble_eq_true rfl) rfl ?_
  intro K H X R hH hnm hP
  show G K 0 0 H 0 [(0, .ref r), (1, .int (J i)), (2, .int (J v))] []
  have hR := hP
  obtain ⟨hO, ⟨g, hA, hg⟩, hn0, hnN, hN⟩ := hP
  refine g_aload_n (pc := 0) (pl := 0) X dX6_replace_0 rfl ?_
  refine g_iload_n (pc := 1) (pl := 1) X dX6_replace_1 rfl ?_
  refine gVi (pc := 2) (n2 := 0) (k2 := 0) X cs_X6_replace_19 (c_X6_has (zl K) D base r N n f i (by omega)) rfl hO (by omega) hR rfl ⟨Nat.le_of_ble_eq_true rfl, Nat.le_of_ble_eq_true rfl⟩ dX6_replace_2 (Nat.le_of_ble_eq_true rfl) rfl rfl (fun v2 H1 hp2 hs2 => ?_)
  obtain ⟨rfl, rfl⟩ := hp2
  refine g_if_eq (pc := 5) X 15 dX6_replace_5 (by decide) (zbr _) (fun c5 => ?_) (fun c5 => ?_)
  · skip
    replace c5 := zb0 c5
    refine g_vret (pc := 15) X R hH dX6_replace_15 ?_
    refine ⟨⟨hO, ⟨_, hA, fun j h0 h1 => ?_⟩, ⟨hn0, hnN, hN⟩⟩, (Fr.refl _ _)⟩
    simp only [up]
    (repeat' split) <;> first | rfl | (exfalso; omega) | (congr 1 <;> omega) | (rw [hg _ (by omega) (by omega)] <;> first | rfl | (congr 1 <;> omega))
  · skip
    replace c5 := zb1 c5
    refine g_aload_n (pc := 8) (pl := 0) X dX6_replace_8 rfl ?_
    refine g_getf (pc := 9) X zF_X6_replace_9 hO rfl dX6_replace_9 ?_
    refine g_iload_n (pc := 12) (pl := 1) X dX6_replace_12 rfl ?_
    refine g_iload_n (pc := 13) (pl := 2) X dX6_replace_13 rfl ?_
    refine g_iastore (pc := 14) X hA (by omega) (by omega) (by omega) (by omega) dX6_replace_14 (fun H1 hAn hf1 => ?_)
    replace hO := hO.fr hf1 (by omega)
    replace hA := hAn
    clear hAn
    refine g_vret (pc := 15) X R hH dX6_replace_15 ?_
    refine ⟨⟨hO, ⟨_, hA, fun j h0 h1 => ?_⟩, ⟨hn0, hnN, hN⟩⟩, (hf1.wide (by omega) (by omega))⟩
    simp only [up]
    (repeat' split) <;> first | rfl | (exfalso; omega) | (congr 1 <;> omega) | (rw [hg _ (by omega) (by omega)] <;> first | rfl | (congr 1 <;> omega))

abbrev rm_X6_insert : Room := { frames := 1, cells := 0, slots := 0, locals := 60 }
theorem zF_X6_insert_15 : zF RX6 wsX6_insert 6 1 15 := ⟨RX6, TX6, 2, rfl, by decide +kernel, by decide, by decide +kernel⟩
theorem zF_X6_insert_9 : zF RX6 wsX6_insert 6 0 9 := ⟨RX6, TX6, 2, rfl, by decide +kernel, by decide, by decide +kernel⟩
theorem zW_X6_insert_15 : zW RX6 wsX6_insert 6 1 15 false (tyX6 1) := ⟨RX6, TX6, 2, tyX6, rfl, by decide +kernel, by decide, by decide +kernel, tyX6_ok, nmX6, rfl, rfl, rfl⟩
set_option maxRecDepth 100000 in
theorem c_X6_insert (l : Launch) (D : zD) (base : Nat) (r N : Nat) (n : Int) (f : Int → Int) (i v : Int) (hq : base ≤ r) (hi : 0 ≤ i ∧ i ≤ n ∧ n < N) : Ct l yX6_insert wsX6_insert rm_X6_insert D base [.ref r, .int (J i), .int (J v)] (fun H => RowAt D r N n f H) (PV (fun H H1 => RowAt D r N (n + 1) (ins f i v) H1 ∧ Fr (Iv r (r + 2)) 0 H H1)) := by
  refine Ct.of (own := RX6) (cc := cX6_insert) (maxL := 3) (by decide +kernel) rfl (Nat.le_of_ble_eq_true rfl) rfl ?_
  intro K H X R hH hnm hP
  show G K 0 0 H 0 [(0, .ref r), (1, .int (J i)), (2, .int (J v))] []
  have hR := hP
  obtain ⟨hO, ⟨g, hA, hg⟩, hn0, hnN, hN⟩ := hP
  refine g_iload_n (pc := 0) (pl := 1) X dX6_insert_0 rfl ?_
  refine g_if_lt (pc := 1) X 24 dX6_insert_1 (by decide) (by omega) (fun c1 => ?_) (fun c1 => ?_)
  · skip
    omega
  · skip
    refine g_iload_n (pc := 4) (pl := 1) X dX6_insert_4 rfl ?_
    refine g_aload_n (pc := 5) (pl := 0) X dX6_insert_5 rfl ?_
    refine g_getf (pc := 6) X zF_X6_insert_15 hO rfl dX6_insert_6 ?_
    refine g_icmp_gt (pc := 9) X 24 dX6_insert_9 (by decide) (by omega) (by omega) (fun c9 => ?_) (fun c9 => ?_)
    · skip
      omega
    · skip
      refine g_aload_n (pc := 12) (pl := 0) X dX6_insert_12 rfl ?_
      refine g_getf (pc := 13) X zF_X6_insert_15 hO rfl dX6_insert_13 ?_
      refine g_aload_n (pc := 16) (pl := 0) X dX6_insert_16 rfl ?_
      refine g_getf (pc := 17) X zF_X6_insert_9 hO rfl dX6_insert_17 ?_
      refine g_alen (pc := 20) X hA dX6_insert_20 ?_
      refine g_icmp_lt (pc := 21) X 25 dX6_insert_21 (by decide) (by omega) (by omega) (fun c21 => ?_) (fun c21 => ?_)
      · skip
        refine g_aload_n (pc := 25) (pl := 0) X dX6_insert_25 rfl ?_
        refine g_getf (pc := 26) X zF_X6_insert_9 hO rfl dX6_insert_26 ?_
        refine g_iload_n (pc := 29) (pl := 1) X dX6_insert_29 rfl ?_
        refine g_aload_n (pc := 30) (pl := 0) X dX6_insert_30 rfl ?_
        refine g_getf (pc := 31) X zF_X6_insert_9 hO rfl dX6_insert_31 ?_
        refine g_iload_n (pc := 34) (pl := 1) X dX6_insert_34 rfl ?_
        refine g_iconst (pc := 35) X dX6_insert_35 ?_
        refine g_iadd (pc := 36) X dX6_insert_36 ?_
        refine g_aload_n (pc := 37) (pl := 0) X dX6_insert_37 rfl ?_
        refine g_getf (pc := 38) X zF_X6_insert_15 hO rfl dX6_insert_38 ?_
        refine g_iload_n (pc := 41) (pl := 1) X dX6_insert_41 rfl ?_
        refine g_isub (pc := 42) X dX6_insert_42 ?_
        refine g_copy (pc := 43) X hA hA (by omega) (by omega) (by omega) (by omega) (by omega) (by omega) (by omega) (by decide +kernel) (by decide +kernel) (by decide +kernel) (by decide +kernel) (by decide) (Nat.le_of_ble_eq_true rfl) dX6_insert_43 (fun H1 hAn hf1 => ?_)
        replace hO := hO.fr hf1 (by omega)
        replace hA := hAn
        clear hAn
        refine g_aload_n (pc := 46) (pl := 0) X dX6_insert_46 rfl ?_
        refine g_getf (pc := 47) X zF_X6_insert_9 hO rfl dX6_insert_47 ?_
        refine g_iload_n (pc := 50) (pl := 1) X dX6_insert_50 rfl ?_
        refine g_iload_n (pc := 51) (pl := 2) X dX6_insert_51 rfl ?_
        refine g_iastore (pc := 52) X hA (by omega) (by omega) (by omega) (by omega) dX6_insert_52 (fun H2 hAn hf2 => ?_)
        replace hO := hO.fr hf2 (by omega)
        replace hA := hAn
        clear hAn
        refine g_aload_n (pc := 53) (pl := 0) X dX6_insert_53 rfl ?_
        refine g_dup (pc := 54) X dX6_insert_54 rfl ?_
        refine g_getf (pc := 55) X zF_X6_insert_15 hO rfl dX6_insert_55 ?_
        refine g_iconst (pc := 58) X dX6_insert_58 ?_
        refine g_iadd (pc := 59) X dX6_insert_59 ?_
        refine g_putf (pc := 60) X zW_X6_insert_15 hO (by omega) rfl rfl rfl dX6_insert_60 (fun H3 hOn hf3 => ?_)
        replace hA := hA.fr hf3 (by omega)
        replace hO : Ob D r 6 [.ref (r + 1), .int (J (n + 1))] H3 := hOn
        clear hOn
        refine g_vret (pc := 63) X R hH dX6_insert_63 ?_
        refine ⟨⟨hO, ⟨_, hA, fun j h0 h1 => ?_⟩, ⟨by omega, by omega, hN⟩⟩, (Fr.trans (hf1.wide (by omega) (by omega)) (Fr.trans (hf2.wide (by omega) (by omega)) (hf3.wide (by omega) (by omega))))⟩
        simp only [up, cpy, ins]
        (repeat' split) <;> first | rfl | (exfalso; omega) | (congr 1 <;> omega) | (rw [hg _ (by omega) (by omega)] <;> first | rfl | (congr 1 <;> omega))
      · skip
        omega

abbrev rm_X6_add : Room := { frames := 0, cells := 0, slots := 0, locals := 0 }
theorem zF_X6_add_15 : zF RX6 wsX6_add 6 1 15 := ⟨RX6, TX6, 2, rfl, by decide +kernel, by decide, by decide +kernel⟩
theorem zF_X6_add_9 : zF RX6 wsX6_add 6 0 9 := ⟨RX6, TX6, 2, rfl, by decide +kernel, by decide, by decide +kernel⟩
theorem zW_X6_add_15 : zW RX6 wsX6_add 6 1 15 false (tyX6 1) := ⟨RX6, TX6, 2, tyX6, rfl, by decide +kernel, by decide, by decide +kernel, tyX6_ok, nmX6, rfl, rfl, rfl⟩
set_option maxRecDepth 100000 in
theorem c_X6_add (l : Launch) (D : zD) (base : Nat) (r N : Nat) (n : Int) (f : Int → Int) (v : Int) (hq : base ≤ r) (hi : n < N) : Ct l yX6_add wsX6_add rm_X6_add D base [.ref r, .int (J v)] (fun H => RowAt D r N n f H) (PV (fun H H1 => RowAt D r N (n + 1) (up f n v) H1 ∧ Fr (Iv r (r + 2)) 0 H H1)) := by
  refine Ct.of (own := RX6) (cc := cX6_add) (maxL := 2) (by decide +kernel) rfl (Nat.le_of_ble_eq_true rfl) rfl ?_
  intro K H X R hH hnm hP
  show G K 0 0 H 0 [(0, .ref r), (1, .int (J v))] []
  have hR := hP
  obtain ⟨hO, ⟨g, hA, hg⟩, hn0, hnN, hN⟩ := hP
  refine g_aload_n (pc := 0) (pl := 0) X dX6_add_0 rfl ?_
  refine g_getf (pc := 1) X zF_X6_add_15 hO rfl dX6_add_1 ?_
  refine g_if_lt (pc := 4) X 39 dX6_add_4 (by decide) (by omega) (fun c4 => ?_) (fun c4 => ?_)
  · skip
    omega
  · skip
    refine g_aload_n (pc := 7) (pl := 0) X dX6_add_7 rfl ?_
    refine g_getf (pc := 8) X zF_X6_add_15 hO rfl dX6_add_8 ?_
    refine g_aload_n (pc := 11) (pl := 0) X dX6_add_11 rfl ?_
    refine g_getf (pc := 12) X zF_X6_add_9 hO rfl dX6_add_12 ?_
    refine g_alen (pc := 15) X hA dX6_add_15 ?_
    refine g_icmp_ge (pc := 16) X 39 dX6_add_16 (by decide) (by omega) (by omega) (fun c16 => ?_) (fun c16 => ?_)
    · skip
      omega
    · skip
      refine g_aload_n (pc := 19) (pl := 0) X dX6_add_19 rfl ?_
      refine g_getf (pc := 20) X zF_X6_add_9 hO rfl dX6_add_20 ?_
      refine g_aload_n (pc := 23) (pl := 0) X dX6_add_23 rfl ?_
      refine g_getf (pc := 24) X zF_X6_add_15 hO rfl dX6_add_24 ?_
      refine g_iload_n (pc := 27) (pl := 1) X dX6_add_27 rfl ?_
      refine g_iastore (pc := 28) X hA (by omega) (by omega) (by omega) (by omega) dX6_add_28 (fun H1 hAn hf1 => ?_)
      replace hO := hO.fr hf1 (by omega)
      replace hA := hAn
      clear hAn
      refine g_aload_n (pc := 29) (pl := 0) X dX6_add_29 rfl ?_
      refine g_dup (pc := 30) X dX6_add_30 rfl ?_
      refine g_getf (pc := 31) X zF_X6_add_15 hO rfl dX6_add_31 ?_
      refine g_iconst (pc := 34) X dX6_add_34 ?_
      refine g_iadd (pc := 35) X dX6_add_35 ?_
      refine g_putf (pc := 36) X zW_X6_add_15 hO (by omega) rfl rfl rfl dX6_add_36 (fun H2 hOn hf2 => ?_)
      replace hA := hA.fr hf2 (by omega)
      replace hO : Ob D r 6 [.ref (r + 1), .int (J (n + 1))] H2 := hOn
      clear hOn
      refine g_vret (pc := 39) X R hH dX6_add_39 ?_
      refine ⟨⟨hO, ⟨_, hA, fun j h0 h1 => ?_⟩, ⟨by omega, by omega, hN⟩⟩, (Fr.trans (hf1.wide (by omega) (by omega)) (hf2.wide (by omega) (by omega)))⟩
      simp only [up]
      (repeat' split) <;> first | rfl | (exfalso; omega) | (congr 1 <;> omega) | (rw [hg _ (by omega) (by omega)] <;> first | rfl | (congr 1 <;> omega))

abbrev rm_X6_clear : Room := { frames := 0, cells := 0, slots := 0, locals := 0 }
theorem zW_X6_clear_15 : zW RX6 wsX6_clear 6 1 15 false (tyX6 1) := ⟨RX6, TX6, 2, tyX6, rfl, by decide +kernel, by decide, by decide +kernel, tyX6_ok, nmX6, rfl, rfl, rfl⟩
set_option maxRecDepth 100000 in
theorem c_X6_clear (l : Launch) (D : zD) (base : Nat) (r N : Nat) (n : Int) (f : Int → Int) (hq : base ≤ r) : Ct l yX6_clear wsX6_clear rm_X6_clear D base [.ref r] (fun H => RowAt D r N n f H) (PV (fun H H1 => RowAt D r N 0 f H1 ∧ Fr (Iv r (r + 2)) 0 H H1)) := by
  refine Ct.of (own := RX6) (cc := cX6_clear) (maxL := 1) (by decide +kernel) rfl (Nat.le_of_ble_eq_true rfl) rfl ?_
  intro K H X R hH hnm hP
  show G K 0 0 H 0 [(0, .ref r)] []
  have hR := hP
  obtain ⟨hO, ⟨g, hA, hg⟩, hn0, hnN, hN⟩ := hP
  refine g_aload_n (pc := 0) (pl := 0) X dX6_clear_0 rfl ?_
  refine g_iconst (pc := 1) X dX6_clear_1 ?_
  refine g_putf (pc := 2) X zW_X6_clear_15 hO (by omega) rfl rfl rfl dX6_clear_2 (fun H1 hOn hf1 => ?_)
  replace hA := hA.fr hf1 (by omega)
  replace hO : Ob D r 6 [.ref (r + 1), .int (J 0)] H1 := hOn
  clear hOn
  refine g_vret (pc := 5) X R hH dX6_clear_5 ?_
  exact ⟨⟨hO, ⟨_, hA, fun j h0 h1 => by omega⟩, ⟨by omega, by omega, hN⟩⟩, (hf1.wide (by omega) (by omega))⟩

abbrev rm_X6_cut : Room := { frames := 1, cells := 0, slots := 0, locals := 60 }
theorem cs_X6_cut_19 : zCV RX6 wsX6_cut 19 6 yX6_has wsX6_has cX6_has 2 (some .boolean) rm_X6_cut rm_X6_has 1 := ⟨_, _, gX6_cut_X6_has, rfl, ⟨by decide +kernel, by decide +kernel, by decide +kernel⟩, ⟨Nat.le_of_ble_eq_true rfl, Nat.le_of_ble_eq_true rfl⟩, rfl, rfl⟩
theorem zF_X6_cut_9 : zF RX6 wsX6_cut 6 0 9 := ⟨RX6, TX6, 2, rfl, by decide +kernel, by decide, by decide +kernel⟩
theorem zF_X6_cut_15 : zF RX6 wsX6_cut 6 1 15 := ⟨RX6, TX6, 2, rfl, by decide +kernel, by decide, by decide +kernel⟩
theorem zW_X6_cut_15 : zW RX6 wsX6_cut 6 1 15 false (tyX6 1) := ⟨RX6, TX6, 2, tyX6, rfl, by decide +kernel, by decide, by decide +kernel, tyX6_ok, nmX6, rfl, rfl, rfl⟩
set_option maxRecDepth 100000 in
theorem c_X6_cut (l : Launch) (D : zD) (base : Nat) (r N : Nat) (n : Int) (f : Int → Int) (a b : Int) (hq : base ≤ r) (hi : 0 ≤ a ∧ a ≤ b ∧ b < n) : Ct l yX6_cut wsX6_cut rm_X6_cut D base [.ref r, .int (J a), .int (J b)] (fun H => RowAt D r N n f H) (PV (fun H H1 => RowAt D r N (n - (b - a + 1)) (del f a b) H1 ∧ Fr (Iv r (r + 2)) 0 H H1)) := by
  refine Ct.of (own := RX6) (cc := cX6_cut) (maxL := 3) (by decide +kernel) rfl (Nat.le_of_ble_eq_true rfl) rfl ?_
  intro K H X R hH hnm hP
  show G K 0 0 H 0 [(0, .ref r), (1, .int (J a)), (2, .int (J b))] []
  have hbd := hP.bd
  have hR := hP
  obtain ⟨hO, ⟨g, hA, hg⟩, hn0, hnN, hN⟩ := hP
  refine g_aload_n (pc := 0) (pl := 0) X dX6_cut_0 rfl ?_
  refine g_iload_n (pc := 1) (pl := 1) X dX6_cut_1 rfl ?_
  refine gVi (pc := 2) (n2 := 0) (k2 := 0) X cs_X6_cut_19 (c_X6_has (zl K) D base r N n f a (by omega)) rfl hO (by omega) hR rfl ⟨Nat.le_of_ble_eq_true rfl, Nat.le_of_ble_eq_true rfl⟩ dX6_cut_2 (Nat.le_of_ble_eq_true rfl) rfl rfl (fun v2 H1 hp2 hs2 => ?_)
  obtain ⟨rfl, rfl⟩ := hp2
  refine g_if_eq (pc := 5) X 21 dX6_cut_5 (by decide) (zbr _) (fun c5 => ?_) (fun c5 => ?_)
  · skip
    replace c5 := zb0 c5
    omega
  · skip
    replace c5 := zb1 c5
    refine g_aload_n (pc := 8) (pl := 0) X dX6_cut_8 rfl ?_
    refine g_iload_n (pc := 9) (pl := 2) X dX6_cut_9 rfl ?_
    refine gVi (pc := 10) (n2 := 0) (k2 := 0) X cs_X6_cut_19 (c_X6_has (zl K) D base r N n f b (by omega)) rfl hO (by omega) hR rfl ⟨Nat.le_of_ble_eq_true rfl, Nat.le_of_ble_eq_true rfl⟩ dX6_cut_10 (Nat.le_of_ble_eq_true rfl) rfl rfl (fun v10 H1 hp10 hs10 => ?_)
    obtain ⟨rfl, rfl⟩ := hp10
    refine g_if_eq (pc := 13) X 21 dX6_cut_13 (by decide) (zbr _) (fun c13 => ?_) (fun c13 => ?_)
    · skip
      replace c13 := zb0 c13
      omega
    · skip
      replace c13 := zb1 c13
      refine g_iload_n (pc := 16) (pl := 2) X dX6_cut_16 rfl ?_
      refine g_iload_n (pc := 17) (pl := 1) X dX6_cut_17 rfl ?_
      refine g_icmp_ge (pc := 18) X 22 dX6_cut_18 (by decide) (by omega) (by omega) (fun c18 => ?_) (fun c18 => ?_)
      · skip
        refine g_aload_n (pc := 22) (pl := 0) X dX6_cut_22 rfl ?_
        refine g_getf (pc := 23) X zF_X6_cut_9 hO rfl dX6_cut_23 ?_
        refine g_iload_n (pc := 26) (pl := 2) X dX6_cut_26 rfl ?_
        refine g_iconst (pc := 27) X dX6_cut_27 ?_
        refine g_iadd (pc := 28) X dX6_cut_28 ?_
        refine g_aload_n (pc := 29) (pl := 0) X dX6_cut_29 rfl ?_
        refine g_getf (pc := 30) X zF_X6_cut_9 hO rfl dX6_cut_30 ?_
        refine g_iload_n (pc := 33) (pl := 1) X dX6_cut_33 rfl ?_
        refine g_aload_n (pc := 34) (pl := 0) X dX6_cut_34 rfl ?_
        refine g_getf (pc := 35) X zF_X6_cut_15 hO rfl dX6_cut_35 ?_
        refine g_iload_n (pc := 38) (pl := 2) X dX6_cut_38 rfl ?_
        refine g_isub (pc := 39) X dX6_cut_39 ?_
        refine g_iconst (pc := 40) X dX6_cut_40 ?_
        refine g_isub (pc := 41) X dX6_cut_41 ?_
        refine g_copy (pc := 42) X hA hA (by omega) (by omega) (by omega) (by omega) (by omega) (by omega) (by omega) (by decide +kernel) (by decide +kernel) (by decide +kernel) (by decide +kernel) (by decide) (Nat.le_of_ble_eq_true rfl) dX6_cut_42 (fun H1 hAn hf1 => ?_)
        replace hO := hO.fr hf1 (by omega)
        replace hA := hAn
        clear hAn
        refine g_aload_n (pc := 45) (pl := 0) X dX6_cut_45 rfl ?_
        refine g_dup (pc := 46) X dX6_cut_46 rfl ?_
        refine g_getf (pc := 47) X zF_X6_cut_15 hO rfl dX6_cut_47 ?_
        refine g_iload_n (pc := 50) (pl := 2) X dX6_cut_50 rfl ?_
        refine g_iload_n (pc := 51) (pl := 1) X dX6_cut_51 rfl ?_
        refine g_isub (pc := 52) X dX6_cut_52 ?_
        refine g_iconst (pc := 53) X dX6_cut_53 ?_
        refine g_iadd (pc := 54) X dX6_cut_54 ?_
        refine g_isub (pc := 55) X dX6_cut_55 ?_
        refine g_putf (pc := 56) X zW_X6_cut_15 hO (by omega) rfl rfl rfl dX6_cut_56 (fun H2 hOn hf2 => ?_)
        replace hA := hA.fr hf2 (by omega)
        replace hO : Ob D r 6 [.ref (r + 1), .int (J (n - ((b - a) + 1)))] H2 := hOn
        clear hOn
        refine g_vret (pc := 59) X R hH dX6_cut_59 ?_
        refine ⟨⟨hO, ⟨_, hA, fun j h0 h1 => ?_⟩, ⟨by omega, by omega, hN⟩⟩, (Fr.trans (hf1.wide (by omega) (by omega)) (hf2.wide (by omega) (by omega)))⟩
        simp only [cpy, del]
        (repeat' split) <;> first | rfl | (exfalso; omega) | (congr 1 <;> omega) | (rw [hg _ (by omega) (by omega)] <;> first | rfl | (congr 1 <;> omega))
      · skip
        omega

abbrev rm_X6_turn : Room := { frames := 1, cells := 0, slots := 0, locals := 21 }
theorem cs_X6_turn_19 : zCV RX6 wsX6_turn 19 6 yX6_has wsX6_has cX6_has 2 (some .boolean) rm_X6_turn rm_X6_has 1 := ⟨_, _, gX6_turn_X6_has, rfl, ⟨by decide +kernel, by decide +kernel, by decide +kernel⟩, ⟨Nat.le_of_ble_eq_true rfl, Nat.le_of_ble_eq_true rfl⟩, rfl, rfl⟩
theorem zF_X6_turn_9 : zF RX6 wsX6_turn 6 0 9 := ⟨RX6, TX6, 2, rfl, by decide +kernel, by decide, by decide +kernel⟩
set_option maxRecDepth 100000 in
theorem c_X6_turn (l : Launch) (D : zD) (base : Nat) (r N : Nat) (n : Int) (f : Int → Int) (a b : Int) (hq : base ≤ r) (hi : 0 ≤ a ∧ b < n ∧ a ≤ b + 1) : Ct l yX6_turn wsX6_turn rm_X6_turn D base [.ref r, .int (J a), .int (J b)] (fun H => RowAt D r N n f H) (PV (fun H H1 => RowAt D r N n (rev f a b) H1 ∧ Fr (Iv r (r + 2)) 0 H H1)) := by
  refine Ct.of (own := RX6) (cc := cX6_turn) (maxL := 6) (by decide +kernel) rfl (Nat.le_of_ble_eq_true rfl) rfl ?_
  intro K H X R hH hnm hP
  show G K 0 0 H 0 [(0, .ref r), (1, .int (J a)), (2, .int (J b))] []
  have hbd := hP.bd
  refine g_iload_n (pc := 0) (pl := 1) X dX6_turn_0 rfl ?_
  refine g_istore_n (pc := 1) (lv' := [(3, _), (0, _), (1, _), (2, _)]) X dX6_turn_1 (by decide) rfl ?_
  refine g_iload_n (pc := 2) (pl := 3) X dX6_turn_2 rfl ?_
  refine g_istore (pc := 3) (lv' := [(4, _), (3, _), (0, _), (1, _), (2, _)]) X dX6_turn_3 (by decide) rfl ?_
  have hL5 : ∀ (fu : Nat) (lo hi : Int) (Hx : Heap), (hi + 1 - lo).toNat < fu → (lo + hi = a + b ∧ a ≤ lo ∧ lo ≤ hi + 1) → (RowAt D r N n (swp f a b lo hi) Hx) → (Fr (Iv r (r + 2)) 0 H Hx) → G K 0 0 Hx 5 [(0, .ref r), (3, .int (J lo)), (4, .int (J hi))] [] := by
    intro fu
    induction fu with
    | zero => intro lo hi Hx hm; exact absurd hm (Nat.not_lt_zero _)
    | succ fu ih5 =>
      intro lo hi Hx hm h1 h2 h3
      have hR := h2
      obtain ⟨hO, ⟨g, hA, hg⟩, hn0, hnN, hN⟩ := h2
      refine g_iload_n (pc := 5) (pl := 1) X dX6_turn_5 rfl ?_
      refine g_iload (pc := 6) (pl := 2) X dX6_turn_6 rfl ?_
      refine g_icmp_ge (pc := 8) X 67 dX6_turn_8 (by decide) (by omega) (by omega) (fun c8 => ?_) (fun c8 => ?_)
      · skip
        refine g_vret (pc := 67) X R hH dX6_turn_67 ?_
        exact ⟨swp_end (f := f) (a := a) (b := b) (lo := lo) (hi := hi) (by omega) (by omega) (by omega) (by omega) ▸ hR, h3⟩
      · skip
        refine g_aload_n (pc := 11) (pl := 0) X dX6_turn_11 rfl ?_
        refine g_iload_n (pc := 12) (pl := 1) X dX6_turn_12 rfl ?_
        refine gVi (pc := 13) (n2 := 0) (k2 := 0) X cs_X6_turn_19 (c_X6_has (zl K) D base r N n (swp f a b lo hi) lo (by omega)) rfl hO (by omega) hR rfl ⟨Nat.le_of_ble_eq_true rfl, Nat.le_of_ble_eq_true rfl⟩ dX6_turn_13 (Nat.le_of_ble_eq_true rfl) rfl rfl (fun v13 H1 hp13 hs13 => ?_)
        obtain ⟨rfl, rfl⟩ := hp13
        refine g_if_eq (pc := 16) X 67 dX6_turn_16 (by decide) (zbr _) (fun c16 => ?_) (fun c16 => ?_)
        · skip
          replace c16 := zb0 c16
          omega
        · skip
          replace c16 := zb1 c16
          refine g_aload_n (pc := 19) (pl := 0) X dX6_turn_19 rfl ?_
          refine g_iload (pc := 20) (pl := 2) X dX6_turn_20 rfl ?_
          refine gVi (pc := 22) (n2 := 0) (k2 := 0) X cs_X6_turn_19 (c_X6_has (zl K) D base r N n (swp f a b lo hi) hi (by omega)) rfl hO (by omega) hR rfl ⟨Nat.le_of_ble_eq_true rfl, Nat.le_of_ble_eq_true rfl⟩ dX6_turn_22 (Nat.le_of_ble_eq_true rfl) rfl rfl (fun v22 H1 hp22 hs22 => ?_)
          obtain ⟨rfl, rfl⟩ := hp22
          refine g_if_eq (pc := 25) X 67 dX6_turn_25 (by decide) (zbr _) (fun c25 => ?_) (fun c25 => ?_)
          · skip
            replace c25 := zb0 c25
            omega
          · skip
            replace c25 := zb1 c25
            refine g_aload_n (pc := 28) (pl := 0) X dX6_turn_28 rfl ?_
            refine g_getf (pc := 29) X zF_X6_turn_9 hO rfl dX6_turn_29 ?_
            refine g_iload_n (pc := 32) (pl := 1) X dX6_turn_32 rfl ?_
            refine g_iaload (pc := 33) X hA (by omega) (by omega) (by omega) dX6_turn_33 ?_
            refine g_istore (pc := 34) (lv' := [(5, _), (0, _), (3, _), (4, _)]) X dX6_turn_34 (by decide) rfl ?_
            refine g_aload_n (pc := 36) (pl := 1) X dX6_turn_36 rfl ?_
            refine g_getf (pc := 37) X zF_X6_turn_9 hO rfl dX6_turn_37 ?_
            refine g_iload_n (pc := 40) (pl := 2) X dX6_turn_40 rfl ?_
            refine g_aload_n (pc := 41) (pl := 1) X dX6_turn_41 rfl ?_
            refine g_getf (pc := 42) X zF_X6_turn_9 hO rfl dX6_turn_42 ?_
            refine g_iload (pc := 45) (pl := 3) X dX6_turn_45 rfl ?_
            refine g_iaload (pc := 47) X hA (by omega) (by omega) (by omega) dX6_turn_47 ?_
            refine g_iastore (pc := 48) X hA (by omega) (by omega) (by omega) (by omega) dX6_turn_48 (fun H1 hAn hf1 => ?_)
            replace hO := hO.fr hf1 (by omega)
            replace hA := hAn
            clear hAn
            refine g_aload_n (pc := 49) (pl := 1) X dX6_turn_49 rfl ?_
            refine g_getf (pc := 50) X zF_X6_turn_9 hO rfl dX6_turn_50 ?_
            refine g_iload (pc := 53) (pl := 3) X dX6_turn_53 rfl ?_
            refine g_iload (pc := 55) (pl := 0) X dX6_turn_55 rfl ?_
            refine g_iastore (pc := 57) X hA (by omega) (by omega) (by omega) (by omega) dX6_turn_57 (fun H2 hAn hf2 => ?_)
            replace hO := hO.fr hf2 (by omega)
            replace hA := hAn
            clear hAn
            refine g_iinc (pc := 58) (pl := 2) (x := lo) (lv' := [(3, _), (5, _), (0, _), (4, _)]) X dX6_turn_58 rfl (by decide) rfl ?_
            refine g_iinc (pc := 61) (pl := 3) (x := hi) (lv' := [(4, _), (3, _), (5, _), (0, _)]) X dX6_turn_61 rfl (by decide) rfl ?_
            refine g_goto (pc := 64) X 5 dX6_turn_64 (by decide) ?_
            refine G.pick [3, 1, 0] (lv' := [(0, _), (3, _), (4, _)]) rfl ?_
            exact ih5 (lo + 1) (hi + (-1)) H2 (by omega) (by omega) ⟨hO, ⟨_, hA, swp_step hg (by omega) (by omega) (by omega) (by omega) (by omega)⟩, hn0, hnN, hN⟩ (Fr.trans (h3.wide (by omega) (by omega)) (Fr.trans (hf1.wide (by omega) (by omega)) (hf2.wide (by omega) (by omega))))
  refine G.pick [2, 1, 0] (lv' := [(0, _), (3, _), (4, _)]) rfl ?_
  exact hL5 _ a b H (Nat.lt_succ_self _) (by omega) (by rw [swp_0]; exact hP) (Fr.refl _ _)

abbrev rm_X6_exchange : Room := { frames := 2, cells := 0, slots := 0, locals := 46 }
theorem cs_X6_exchange_33 : zCV RX6 wsX6_exchange 33 6 yX6_turn wsX6_turn cX6_turn 6 none rm_X6_exchange rm_X6_turn 2 := ⟨_, _, gX6_exchange_X6_turn, rfl, ⟨by decide +kernel, by decide +kernel, by decide +kernel⟩, ⟨Nat.le_of_ble_eq_true rfl, Nat.le_of_ble_eq_true rfl⟩, rfl, rfl⟩
set_option maxRecDepth 100000 in
theorem c_X6_exchange (l : Launch) (D : zD) (base : Nat) (r N : Nat) (n : Int) (f : Int → Int) (a m b : Int) (hq : base ≤ r) (hi : 0 ≤ a ∧ b < n ∧ a ≤ m ∧ m ≤ b + 1) : Ct l yX6_exchange wsX6_exchange rm_X6_exchange D base [.ref r, .int (J a), .int (J m), .int (J b)] (fun H => RowAt D r N n f H) (PV (fun H H1 => RowAt D r N n (exch f a m b) H1 ∧ Fr (Iv r (r + 2)) 0 H H1)) := by
  refine Ct.of (own := RX6) (cc := cX6_exchange) (maxL := 4) (by decide +kernel) rfl (Nat.le_of_ble_eq_true rfl) rfl ?_
  intro K H X R hH hnm hP
  show G K 0 0 H 0 [(0, .ref r), (1, .int (J a)), (2, .int (J m)), (3, .int (J b))] []
  have hbd := hP.bd
  obtain ⟨hO, -⟩ := id hP
  refine g_aload_n (pc := 0) (pl := 0) X dX6_exchange_0 rfl ?_
  refine g_iload_n (pc := 1) (pl := 1) X dX6_exchange_1 rfl ?_
  refine g_iload_n (pc := 2) (pl := 2) X dX6_exchange_2 rfl ?_
  refine g_iconst (pc := 3) X dX6_exchange_3 ?_
  refine g_isub (pc := 4) X dX6_exchange_4 ?_
  refine gVv (pc := 5) (n2 := 0) (k2 := 0) X cs_X6_exchange_33 (c_X6_turn (zl K) D base r N n f a (m - 1) hq (by omega)) rfl hO (by omega) hP rfl ⟨Nat.le_of_ble_eq_true rfl, Nat.le_of_ble_eq_true rfl⟩ dX6_exchange_5 (Nat.le_of_ble_eq_true rfl) rfl rfl (fun H1 hp5 hs5 => ?_)
  obtain ⟨hR1, hfa⟩ := hp5
  obtain ⟨hO, -⟩ := id hR1
  refine g_aload_n (pc := 8) (pl := 0) X dX6_exchange_8 rfl ?_
  refine g_iload_n (pc := 9) (pl := 2) X dX6_exchange_9 rfl ?_
  refine g_iload_n (pc := 10) (pl := 3) X dX6_exchange_10 rfl ?_
  refine gVv (pc := 11) (n2 := 0) (k2 := 0) X cs_X6_exchange_33 (c_X6_turn (zl K) D base r N n (rev f a (m - 1)) m b hq (by omega)) rfl hO (by omega) hR1 rfl ⟨Nat.le_of_ble_eq_true rfl, Nat.le_of_ble_eq_true rfl⟩ dX6_exchange_11 (Nat.le_of_ble_eq_true rfl) rfl rfl (fun H2 hp11 hs11 => ?_)
  obtain ⟨hR2, hfb⟩ := hp11
  obtain ⟨hO, -⟩ := id hR2
  refine g_aload_n (pc := 14) (pl := 0) X dX6_exchange_14 rfl ?_
  refine g_iload_n (pc := 15) (pl := 1) X dX6_exchange_15 rfl ?_
  refine g_iload_n (pc := 16) (pl := 3) X dX6_exchange_16 rfl ?_
  refine gVv (pc := 17) (n2 := 0) (k2 := 0) X cs_X6_exchange_33 (c_X6_turn (zl K) D base r N n (rev (rev f a (m - 1)) m b) a b hq (by omega)) rfl hO (by omega) hR2 rfl ⟨Nat.le_of_ble_eq_true rfl, Nat.le_of_ble_eq_true rfl⟩ dX6_exchange_17 (Nat.le_of_ble_eq_true rfl) rfl rfl (fun H3 hp17 hs17 => ?_)
  obtain ⟨hR3, hfc⟩ := hp17
  refine g_vret (pc := 20) X R hH dX6_exchange_20 ?_
  exact ⟨exch_rev f (a := a) (m := m) (b := b) (by omega) (by omega) ▸ hR3, Fr.trans0 hfa (Fr.trans0 hfb hfc)⟩

abbrev rm_X6_shift : Room := { frames := 3, cells := 0, slots := 0, locals := 69 }
theorem cs_X6_shift_29 : zCV RX6 wsX6_shift 29 6 yX6_exchange wsX6_exchange cX6_exchange 4 none rm_X6_shift rm_X6_exchange 3 := ⟨_, _, gX6_shift_X6_exchange, rfl, ⟨by decide +kernel, by decide +kernel, by decide +kernel⟩, ⟨Nat.le_of_ble_eq_true rfl, Nat.le_of_ble_eq_true rfl⟩, rfl, rfl⟩
set_option maxRecDepth 100000 in
theorem c_X6_shift (l : Launch) (D : zD) (base : Nat) (r N : Nat) (n : Int) (f : Int → Int) (a b p : Int) (hq : base ≤ r) (hi : 0 ≤ a ∧ a ≤ b ∧ b < n ∧ 0 ≤ p ∧ p + (b - a + 1) ≤ n) : Ct l yX6_shift wsX6_shift rm_X6_shift D base [.ref r, .int (J a), .int (J b), .int (J p)] (fun H => RowAt D r N n f H) (PV (fun H H1 => RowAt D r N n (mvf f a b p) H1 ∧ Fr (Iv r (r + 2)) 0 H H1)) := by
  refine Ct.of (own := RX6) (cc := cX6_shift) (maxL := 4) (by decide +kernel) rfl (Nat.le_of_ble_eq_true rfl) rfl ?_
  intro K H X R hH hnm hP
  show G K 0 0 H 0 [(0, .ref r), (1, .int (J a)), (2, .int (J b)), (3, .int (J p))] []
  have hbd := hP.bd
  obtain ⟨hO, -⟩ := id hP
  refine g_iload_n (pc := 0) (pl := 3) X dX6_shift_0 rfl ?_
  refine g_iload_n (pc := 1) (pl := 1) X dX6_shift_1 rfl ?_
  refine g_icmp_ge (pc := 2) X 15 dX6_shift_2 (by decide) (by omega) (by omega) (fun c2 => ?_) (fun c2 => ?_)
  · skip
    refine g_aload_n (pc := 15) (pl := 0) X dX6_shift_15 rfl ?_
    refine g_iload_n (pc := 16) (pl := 1) X dX6_shift_16 rfl ?_
    refine g_iload_n (pc := 17) (pl := 2) X dX6_shift_17 rfl ?_
    refine g_iconst (pc := 18) X dX6_shift_18 ?_
    refine g_iadd (pc := 19) X dX6_shift_19 ?_
    refine g_iload_n (pc := 20) (pl := 3) X dX6_shift_20 rfl ?_
    refine g_iload_n (pc := 21) (pl := 2) X dX6_shift_21 rfl ?_
    refine g_iadd (pc := 22) X dX6_shift_22 ?_
    refine g_iload_n (pc := 23) (pl := 1) X dX6_shift_23 rfl ?_
    refine g_isub (pc := 24) X dX6_shift_24 ?_
    refine gVv (pc := 25) (n2 := 0) (k2 := 0) X cs_X6_shift_29 (c_X6_exchange (zl K) D base r N n f a (b + 1) (p + b - a) hq (by omega)) rfl hO (by omega) hP rfl ⟨Nat.le_of_ble_eq_true rfl, Nat.le_of_ble_eq_true rfl⟩ dX6_shift_25 (Nat.le_of_ble_eq_true rfl) rfl rfl (fun H1 hp25 hs25 => ?_)
    obtain ⟨hR1, hfa⟩ := hp25
    rw [mvf_hi f (by omega) (by omega)] at hR1
    refine g_vret (pc := 28) X R hH dX6_shift_28 ?_
    exact ⟨hR1, hfa⟩
  · skip
    refine g_aload_n (pc := 5) (pl := 0) X dX6_shift_5 rfl ?_
    refine g_iload_n (pc := 6) (pl := 3) X dX6_shift_6 rfl ?_
    refine g_iload_n (pc := 7) (pl := 1) X dX6_shift_7 rfl ?_
    refine g_iload_n (pc := 8) (pl := 2) X dX6_shift_8 rfl ?_
    refine gVv (pc := 9) (n2 := 0) (k2 := 0) X cs_X6_shift_29 (c_X6_exchange (zl K) D base r N n f p a b hq (by omega)) rfl hO (by omega) hP rfl ⟨Nat.le_of_ble_eq_true rfl, Nat.le_of_ble_eq_true rfl⟩ dX6_shift_9 (Nat.le_of_ble_eq_true rfl) rfl rfl (fun H1 hp9 hs9 => ?_)
    obtain ⟨hR1, hfa⟩ := hp9
    rw [mvf_lo f (by omega) (by omega)] at hR1
    refine g_goto (pc := 12) X 28 dX6_shift_12 (by decide) ?_
    refine g_vret (pc := 28) X R hH dX6_shift_28 ?_
    exact ⟨hR1, hfa⟩

abbrev rm_X6_copyFrom : Room := { frames := 1, cells := 0, slots := 0, locals := 60 }
theorem zF_X6_copyFrom_15 : zF RX6 wsX6_copyFrom 6 1 15 := ⟨RX6, TX6, 2, rfl, by decide +kernel, by decide, by decide +kernel⟩
theorem zF_X6_copyFrom_9 : zF RX6 wsX6_copyFrom 6 0 9 := ⟨RX6, TX6, 2, rfl, by decide +kernel, by decide, by decide +kernel⟩
theorem zW_X6_copyFrom_15 : zW RX6 wsX6_copyFrom 6 1 15 false (tyX6 1) := ⟨RX6, TX6, 2, tyX6, rfl, by decide +kernel, by decide, by decide +kernel, tyX6_ok, nmX6, rfl, rfl, rfl⟩
set_option maxRecDepth 100000 in
theorem c_X6_copyFrom (l : Launch) (D : zD) (base : Nat) (r N o N2 : Nat) (n n2 : Int) (f f2 : Int → Int) (hq : base ≤ r) (hi : n2 ≤ N) (ho : r + 2 ≤ o ∨ o + 2 ≤ r) : Ct l yX6_copyFrom wsX6_copyFrom rm_X6_copyFrom D base [.ref r, .ref o] (fun H => RowAt D r N n f H ∧ RowAt D o N2 n2 f2 H) (PV (fun H H1 => RowAt D r N n2 f2 H1 ∧ Fr (Iv r (r + 2)) 0 H H1)) := by
  refine Ct.of (own := RX6) (cc := cX6_copyFrom) (maxL := 2) (by decide +kernel) rfl (Nat.le_of_ble_eq_true rfl) rfl ?_
  intro K H X R hH hnm hP
  show G K 0 0 H 0 [(0, .ref r), (1, .ref o)] []
  obtain ⟨⟨hO, ⟨g, hA, hg⟩, hn0, hnN, hN⟩, ⟨hO2, ⟨g2, hA2, hg2⟩, hm0, hmN, hM⟩⟩ := hP
  refine g_aload_n (pc := 0) (pl := 0) X dX6_copyFrom_0 rfl ?_
  refine g_aload_n (pc := 1) (pl := 1) X dX6_copyFrom_1 rfl ?_
  refine g_getf (pc := 2) X zF_X6_copyFrom_15 hO2 rfl dX6_copyFrom_2 ?_
  refine g_aload_n (pc := 5) (pl := 0) X dX6_copyFrom_5 rfl ?_
  refine g_getf (pc := 6) X zF_X6_copyFrom_9 hO rfl dX6_copyFrom_6 ?_
  refine g_alen (pc := 9) X hA dX6_copyFrom_9 ?_
  refine g_mmin (pc := 10) X (by omega) (by omega) (by decide +kernel) (by decide +kernel) (by decide +kernel) (by decide +kernel) (by decide) (Nat.le_of_ble_eq_true rfl) (by decide) dX6_copyFrom_10 ?_
  rw [show (if (N : Int) < n2 then (N : Int) else n2) = n2 from if_neg (by omega)]
  refine g_putf (pc := 13) X zW_X6_copyFrom_15 hO (by omega) rfl rfl rfl dX6_copyFrom_13 (fun H1 hOn hf1 => ?_)
  replace hO2 := hO2.fr hf1 (by omega)
  replace hA := hA.fr hf1 (by omega)
  replace hA2 := hA2.fr hf1 (by omega)
  replace hO : Ob D r 6 [.ref (r + 1), .int (J n2)] H1 := hOn
  clear hOn
  refine g_aload_n (pc := 16) (pl := 1) X dX6_copyFrom_16 rfl ?_
  refine g_getf (pc := 17) X zF_X6_copyFrom_9 hO2 rfl dX6_copyFrom_17 ?_
  refine g_iconst (pc := 20) X dX6_copyFrom_20 ?_
  refine g_aload_n (pc := 21) (pl := 0) X dX6_copyFrom_21 rfl ?_
  refine g_getf (pc := 22) X zF_X6_copyFrom_9 hO rfl dX6_copyFrom_22 ?_
  refine g_iconst (pc := 25) X dX6_copyFrom_25 ?_
  refine g_aload_n (pc := 26) (pl := 0) X dX6_copyFrom_26 rfl ?_
  refine g_getf (pc := 27) X zF_X6_copyFrom_15 hO rfl dX6_copyFrom_27 ?_
  refine g_copy (pc := 30) X hA2 hA (by omega) (by omega) (by omega) (by omega) (by omega) (by omega) (by omega) (by decide +kernel) (by decide +kernel) (by decide +kernel) (by decide +kernel) (by decide) (Nat.le_of_ble_eq_true rfl) dX6_copyFrom_30 (fun H2 hAn hf2 => ?_)
  replace hO := hO.fr hf2 (by omega)
  replace hO2 := hO2.fr hf2 (by omega)
  replace hA2 := hA2.fr hf2 (by omega)
  replace hA := hAn
  clear hAn
  refine g_vret (pc := 33) X R hH dX6_copyFrom_33 ?_
  refine ⟨⟨hO, ⟨_, hA, fun j h0 h1 => ?_⟩, ⟨by omega, by omega, hN⟩⟩, (Fr.trans (hf1.wide (by omega) (by omega)) (hf2.wide (by omega) (by omega)))⟩
  simp only [cpy]
  rw [if_pos (by omega), ← hg2 _ h0 h1] <;> congr 1 <;> omega

abbrev rm_X6_copyPart : Room := { frames := 1, cells := 0, slots := 0, locals := 21 }
theorem cs_X6_copyPart_43 : zCV RX6 wsX6_copyPart 43 6 yX6_clear wsX6_clear cX6_clear 1 none rm_X6_copyPart rm_X6_clear 0 := ⟨_, _, gX6_copyPart_X6_clear, rfl, ⟨by decide +kernel, by decide +kernel, by decide +kernel⟩, ⟨Nat.le_of_ble_eq_true rfl, Nat.le_of_ble_eq_true rfl⟩, rfl, rfl⟩
theorem cs_X6_copyPart_19 : zCV RX6 wsX6_copyPart 19 6 yX6_has wsX6_has cX6_has 2 (some .boolean) rm_X6_copyPart rm_X6_has 1 := ⟨_, _, gX6_copyPart_X6_has, rfl, ⟨by decide +kernel, by decide +kernel, by decide +kernel⟩, ⟨Nat.le_of_ble_eq_true rfl, Nat.le_of_ble_eq_true rfl⟩, rfl, rfl⟩
theorem cs_X6_copyPart_46 : zCV RX6 wsX6_copyPart 46 6 yX6_item wsX6_item cX6_item 2 (some .int) rm_X6_copyPart rm_X6_item 1 := ⟨_, _, gX6_copyPart_X6_item, rfl, ⟨by decide +kernel, by decide +kernel, by decide +kernel⟩, ⟨Nat.le_of_ble_eq_true rfl, Nat.le_of_ble_eq_true rfl⟩, rfl, rfl⟩
theorem cs_X6_copyPart_50 : zCV RX6 wsX6_copyPart 50 6 yX6_add wsX6_add cX6_add 2 none rm_X6_copyPart rm_X6_add 1 := ⟨_, _, gX6_copyPart_X6_add, rfl, ⟨by decide +kernel, by decide +kernel, by decide +kernel⟩, ⟨Nat.le_of_ble_eq_true rfl, Nat.le_of_ble_eq_true rfl⟩, rfl, rfl⟩
set_option maxRecDepth 100000 in
theorem c_X6_copyPart (l : Launch) (D : zD) (base : Nat) (r N o N2 : Nat) (n n2 : Int) (f f2 : Int → Int) (a e w : Int) (hq : base ≤ r) (ho : r + 2 ≤ o ∨ o + 2 ≤ r) (hq2 : base ≤ o) (he : e = 1 ∨ e = -1) (hw : 0 ≤ w ∧ w ≤ N) (ha : -1 ≤ a ∧ a ≤ 1000) : Ct l yX6_copyPart wsX6_copyPart rm_X6_copyPart D base [.ref r, .ref o, .int (J a), .int (J e), .int (J w)] (fun H => RowAt D r N n f H ∧ RowAt D o N2 n2 f2 H) (PV (fun H H1 => ∃ c : Int, 0 ≤ c ∧ c ≤ w ∧ (∀ i : Int, 0 ≤ i → i < c → 0 ≤ a + i * e ∧ a + i * e < n2) ∧ (c = w ∨ ¬ (0 ≤ a + c * e ∧ a + c * e < n2)) ∧ RowAt D r N c (fun j => f2 (a + j * e)) H1 ∧ Fr (Iv r (r + 2)) 0 H H1)) := by
  refine Ct.of (own := RX6) (cc := cX6_copyPart) (maxL := 6) (by decide +kernel) rfl (Nat.le_of_ble_eq_true rfl) rfl ?_
  intro K H X R hH hnm hP
  show G K 0 0 H 0 [(0, .ref r), (1, .ref o), (2, .int (J a)), (3, .int (J e)), (4, .int (J w))] []
  obtain ⟨hR, hR2⟩ := hP
  have hbd := hR.bd
  have hbd2 := hR2.bd
  obtain ⟨hO, -⟩ := id hR
  refine g_aload_n (pc := 0) (pl := 0) X dX6_copyPart_0 rfl ?_
  refine gVv (pc := 1) (n2 := 0) (k2 := 0) X cs_X6_copyPart_43 (c_X6_clear (zl K) D base r N n f hq) rfl hO (by omega) hR rfl ⟨Nat.le_of_ble_eq_true rfl, Nat.le_of_ble_eq_true rfl⟩ dX6_copyPart_1 (Nat.le_of_ble_eq_true rfl) rfl rfl (fun H1 hp1 hs1 => ?_)
  obtain ⟨hR1, hfa⟩ := hp1
  replace hR2 := hR2.fr hfa (by omega)
  refine g_iconst (pc := 4) X dX6_copyPart_4 ?_
  refine g_istore (pc := 5) (lv' := [(5, _), (0, _), (1, _), (2, _), (3, _), (4, _)]) X dX6_copyPart_5 (by decide) rfl ?_
  have hL7 : ∀ (fu : Nat) (t : Int) (Hx : Heap), (w - t).toNat < fu → (0 ≤ t ∧ t ≤ w) → (∀ i : Int, 0 ≤ i → i < t → 0 ≤ a + i * e ∧ a + i * e < n2) → (RowAt D r N t (fun j => f2 (a + j * e)) Hx) → (RowAt D o N2 n2 f2 Hx) → (Fr (Iv r (r + 2)) 0 H Hx) → G K 0 0 Hx 7 [(0, .ref r), (1, .ref o), (2, .int (J a)), (3, .int (J e)), (4, .int (J w)), (5, .int (J t))] [] := by
    intro fu
    induction fu with
    | zero => intro t Hx hm; exact absurd hm (Nat.not_lt_zero _)
    | succ fu ih7 =>
      intro t Hx hm h1 h2 hR1 hR2 h3
      have hte : t * e = t ∨ t * e = -t := by rcases he with rfl | rfl <;> omega
      obtain ⟨hO, -⟩ := id hR1
      obtain ⟨hO2, -⟩ := id hR2
      refine g_iload (pc := 7) (pl := 5) X dX6_copyPart_7 rfl ?_
      refine g_iload (pc := 9) (pl := 4) X dX6_copyPart_9 rfl ?_
      refine g_icmp_ge (pc := 11) X 47 dX6_copyPart_11 (by decide) (by omega) (by omega) (fun c11 => ?_) (fun c11 => ?_)
      · skip
        refine g_vret (pc := 47) X R hH dX6_copyPart_47 ?_
        exact ⟨t, by omega, by omega, h2, by omega, hR1, h3⟩
      · skip
        refine g_aload_n (pc := 14) (pl := 1) X dX6_copyPart_14 rfl ?_
        refine g_iload_n (pc := 15) (pl := 2) X dX6_copyPart_15 rfl ?_
        refine g_iload (pc := 16) (pl := 5) X dX6_copyPart_16 rfl ?_
        refine g_iload_n (pc := 18) (pl := 3) X dX6_copyPart_18 rfl ?_
        refine g_imul (pc := 19) X dX6_copyPart_19 ?_
        refine g_iadd (pc := 20) X dX6_copyPart_20 ?_
        refine gVi (pc := 21) (n2 := 0) (k2 := 0) X cs_X6_copyPart_19 (c_X6_has (zl K) D base o N2 n2 f2 (a + t * e) (by omega)) rfl hO2 (by omega) hR2 rfl ⟨Nat.le_of_ble_eq_true rfl, Nat.le_of_ble_eq_true rfl⟩ dX6_copyPart_21 (Nat.le_of_ble_eq_true rfl) rfl rfl (fun v21 H2 hp21 hs21 => ?_)
        obtain ⟨rfl, rfl⟩ := hp21
        refine g_if_eq (pc := 24) X 47 dX6_copyPart_24 (by decide) (zbr _) (fun c24 => ?_) (fun c24 => ?_)
        · skip
          replace c24 := zb0 c24
          refine g_vret (pc := 47) X R hH dX6_copyPart_47 ?_
          exact ⟨t, by omega, by omega, h2, by omega, hR1, h3⟩
        · skip
          replace c24 := zb1 c24
          refine g_aload_n (pc := 27) (pl := 0) X dX6_copyPart_27 rfl ?_
          refine g_aload_n (pc := 28) (pl := 1) X dX6_copyPart_28 rfl ?_
          refine g_iload_n (pc := 29) (pl := 2) X dX6_copyPart_29 rfl ?_
          refine g_iload (pc := 30) (pl := 5) X dX6_copyPart_30 rfl ?_
          refine g_iload_n (pc := 32) (pl := 3) X dX6_copyPart_32 rfl ?_
          refine g_imul (pc := 33) X dX6_copyPart_33 ?_
          refine g_iadd (pc := 34) X dX6_copyPart_34 ?_
          refine gVi (pc := 35) (n2 := 0) (k2 := 0) X cs_X6_copyPart_46 (c_X6_item (zl K) D base o N2 n2 f2 (a + t * e) (by omega)) rfl hO2 (by omega) hR2 rfl ⟨Nat.le_of_ble_eq_true rfl, Nat.le_of_ble_eq_true rfl⟩ dX6_copyPart_35 (Nat.le_of_ble_eq_true rfl) rfl rfl (fun v35 H2 hp35 hs35 => ?_)
          obtain ⟨rfl, rfl⟩ := hp35
          refine gVv (pc := 38) (n2 := 0) (k2 := 0) X cs_X6_copyPart_50 (c_X6_add (zl K) D base r N t (fun j => f2 (a + j * e)) (itm n2 f2 (a + t * e)) hq (by omega)) rfl hO (by omega) hR1 rfl ⟨Nat.le_of_ble_eq_true rfl, Nat.le_of_ble_eq_true rfl⟩ dX6_copyPart_38 (Nat.le_of_ble_eq_true rfl) rfl rfl (fun H2 hp38 hs38 => ?_)
          obtain ⟨hR1, hfb⟩ := hp38
          replace hR2 := hR2.fr hfb (by omega)
          refine g_iinc (pc := 41) (pl := 5) (x := t) (lv' := [(5, _), (0, _), (1, _), (2, _), (3, _), (4, _)]) X dX6_copyPart_41 rfl (by decide) rfl ?_
          refine g_goto (pc := 44) X 7 dX6_copyPart_44 (by decide) ?_
          refine G.pick [1, 2, 3, 4, 5, 0] (lv' := [(0, _), (1, _), (2, _), (3, _), (4, _), (5, _)]) rfl ?_
          exact ih7 (t + 1) H2 (by omega) (by omega) (fun i h0 h1 => by rcases Int.lt_or_le i t with c | c; exact h2 i h0 c; rw [show i = t by omega]; exact c24) (hR1.congr (fun i h0 h1 => by simp only [up]; by_cases c : i = t; (rw [if_pos c, show itm n2 f2 (a + t * e) = f2 (a + t * e) from if_pos c24, c]); (rw [if_neg c]))) hR2 (Fr.trans0 h3 hfb)
  refine G.pick [1, 2, 3, 4, 5, 0] (lv' := [(0, _), (1, _), (2, _), (3, _), (4, _), (5, _)]) rfl ?_
  exact hL7 _ 0 H1 (Nat.lt_succ_self _) (by omega) (fun i h0 h1 => by omega) (hR1.congr (fun i h0 h1 => by omega)) hR2 hfa

abbrev rm_X6_countAlike : Room := { frames := 1, cells := 0, slots := 0, locals := 21 }
theorem zF_X6_countAlike_15 : zF RX6 wsX6_countAlike 6 1 15 := ⟨RX6, TX6, 2, rfl, by decide +kernel, by decide, by decide +kernel⟩
theorem cs_X6_countAlike_46 : zCV RX6 wsX6_countAlike 46 6 yX6_item wsX6_item cX6_item 2 (some .int) rm_X6_countAlike rm_X6_item 1 := ⟨_, _, gX6_countAlike_X6_item, rfl, ⟨by decide +kernel, by decide +kernel, by decide +kernel⟩, ⟨Nat.le_of_ble_eq_true rfl, Nat.le_of_ble_eq_true rfl⟩, rfl, rfl⟩
set_option maxRecDepth 100000 in
theorem c_X6_countAlike (l : Launch) (D : zD) (base : Nat) (r N o N2 : Nat) (n n2 : Int) (f f2 : Int → Int) (a e : Int) (hq : base ≤ r) (hq2 : base ≤ o) (he : e = 1 ∨ e = -1) (ha : -1 ≤ a ∧ a ≤ 1000) (hv : ∀ i : Int, 0 ≤ i → i < n → rg (f i)) (hv2 : ∀ i : Int, 0 ≤ i → i < n2 → rg (f2 i)) : Ct l yX6_countAlike wsX6_countAlike rm_X6_countAlike D base [.ref r, .ref o, .int (J a), .int (J e)] (fun H => RowAt D r N n f H ∧ RowAt D o N2 n2 f2 H) (PI (fun H v H1 => H = H1 ∧ 0 ≤ v ∧ v ≤ n2 ∧ (∀ i : Int, 0 ≤ i → i < v → itm n f (a + i * e) = f2 i) ∧ (v = n2 ∨ ¬ itm n f (a + v * e) = f2 v))) := by
  refine Ct.of (own := RX6) (cc := cX6_countAlike) (maxL := 5) (by decide +kernel) rfl (Nat.le_of_ble_eq_true rfl) rfl ?_
  intro K H X R hH hnm hP
  show G K 0 0 H 0 [(0, .ref r), (1, .ref o), (2, .int (J a)), (3, .int (J e))] []
  obtain ⟨hR, hR2⟩ := hP
  have hbd := hR.bd
  have hbd2 := hR2.bd
  obtain ⟨hO, -⟩ := id hR
  obtain ⟨hO2, -⟩ := id hR2
  refine g_iconst (pc := 0) X dX6_countAlike_0 ?_
  refine g_istore (pc := 1) (lv' := [(4, _), (0, _), (1, _), (2, _), (3, _)]) X dX6_countAlike_1 (by decide) rfl ?_
  have hL3 : ∀ (fu : Nat) (t : Int), (n2 - t).toNat < fu → (0 ≤ t ∧ t ≤ n2) → (∀ i : Int, 0 ≤ i → i < t → itm n f (a + i * e) = f2 i) → G K 0 0 H 3 [(0, .ref r), (1, .ref o), (2, .int (J a)), (3, .int (J e)), (4, .int (J t))] [] := by
    intro fu
    induction fu with
    | zero => intro t hm; exact absurd hm (Nat.not_lt_zero _)
    | succ fu ih3 =>
      intro t hm h1 h2
      have hte : t * e = t ∨ t * e = -t := by rcases he with rfl | rfl <;> omega
      refine g_iload (pc := 3) (pl := 4) X dX6_countAlike_3 rfl ?_
      refine g_aload_n (pc := 5) (pl := 1) X dX6_countAlike_5 rfl ?_
      refine g_getf (pc := 6) X zF_X6_countAlike_15 hO2 rfl dX6_countAlike_6 ?_
      refine g_icmp_ge (pc := 9) X 37 dX6_countAlike_9 (by decide) (by omega) (by omega) (fun c9 => ?_) (fun c9 => ?_)
      · skip
        refine g_iload (pc := 37) (pl := 4) X dX6_countAlike_37 rfl ?_
        refine g_iret (pc := 39) X R hH dX6_countAlike_39 ?_
        refine ⟨rfl, by omega, by omega, h2, ?_⟩
        first | (left; omega) | (right; assumption)
      · skip
        refine g_aload_n (pc := 12) (pl := 0) X dX6_countAlike_12 rfl ?_
        refine g_iload_n (pc := 13) (pl := 2) X dX6_countAlike_13 rfl ?_
        refine g_iload (pc := 14) (pl := 4) X dX6_countAlike_14 rfl ?_
        refine g_iload_n (pc := 16) (pl := 3) X dX6_countAlike_16 rfl ?_
        refine g_imul (pc := 17) X dX6_countAlike_17 ?_
        refine g_iadd (pc := 18) X dX6_countAlike_18 ?_
        refine gVi (pc := 19) (n2 := 0) (k2 := 0) X cs_X6_countAlike_46 (c_X6_item (zl K) D base r N n f (a + t * e) (by omega)) rfl hO (by omega) hR rfl ⟨Nat.le_of_ble_eq_true rfl, Nat.le_of_ble_eq_true rfl⟩ dX6_countAlike_19 (Nat.le_of_ble_eq_true rfl) rfl rfl (fun v19 H1 hp19 hs19 => ?_)
        obtain ⟨rfl, rfl⟩ := hp19
        refine g_aload_n (pc := 22) (pl := 1) X dX6_countAlike_22 rfl ?_
        refine g_iload (pc := 23) (pl := 4) X dX6_countAlike_23 rfl ?_
        refine gVi (pc := 25) (n2 := 0) (k2 := 0) X cs_X6_countAlike_46 (c_X6_item (zl K) D base o N2 n2 f2 t (by omega)) rfl hO2 (by omega) hR2 rfl ⟨Nat.le_of_ble_eq_true rfl, Nat.le_of_ble_eq_true rfl⟩ dX6_countAlike_25 (Nat.le_of_ble_eq_true rfl) rfl rfl (fun v25 H1 hp25 hs25 => ?_)
        obtain ⟨rfl, rfl⟩ := hp25
        have hi2 : itm n2 f2 t = f2 t := if_pos (by omega)
        rw [hi2]
        refine g_icmp_ne (pc := 28) X 37 dX6_countAlike_28 (by decide) (by unfold itm; split; exact hv _ (by omega) (by omega); exact ⟨by decide, by decide⟩) (hv2 t (by omega) (by omega)) (fun c28 => ?_) (fun c28 => ?_)
        · skip
          refine g_iload (pc := 37) (pl := 4) X dX6_countAlike_37 rfl ?_
          refine g_iret (pc := 39) X R hH dX6_countAlike_39 ?_
          refine ⟨rfl, by omega, by omega, h2, ?_⟩
          first | (left; omega) | (right; assumption)
        · skip
          refine g_iinc (pc := 31) (pl := 4) (x := t) (lv' := [(4, _), (0, _), (1, _), (2, _), (3, _)]) X dX6_countAlike_31 rfl (by decide) rfl ?_
          refine g_goto (pc := 34) X 3 dX6_countAlike_34 (by decide) ?_
          refine G.pick [1, 2, 3, 4, 0] (lv' := [(0, _), (1, _), (2, _), (3, _), (4, _)]) rfl ?_
          exact ih3 (t + 1) (by omega) (by omega) (fun i h0 h1 => by rcases Int.lt_or_le i t with c | c; exact h2 i h0 c; rw [show i = t by omega]; exact c28)
  refine G.pick [1, 2, 3, 4, 0] (lv' := [(0, _), (1, _), (2, _), (3, _), (4, _)]) rfl ?_
  exact hL3 _ 0 (Nat.lt_succ_self _) (by omega) (fun i h0 h1 => by omega)

abbrev rm_X6_init : Room := { frames := 1, cells := 1, slots := 80, locals := 12 }
theorem zW_X6_init_9 : zW RX6 wsX6_init 6 0 9 true (tyX6 0) := ⟨RX6, TX6, 2, tyX6, rfl, by decide +kernel, by decide, by decide +kernel, tyX6_ok, nmX6, rfl, rfl, rfl⟩
set_option maxRecDepth 100000 in
theorem c_X6_init (l : Launch) (D : zD) (base : Nat) (r N : Nat) (hq : base ≤ r) (hi : N ≤ 80) : Ct l yX6_init wsX6_init rm_X6_init D base [.ref r, .int (J (N : Int))] (fun H => Ob D r 6 [.null, .int (J 0)] H ∧ H.size = r + 1) (PV (fun H H1 => RowAt D r N 0 (fun _ => 0) H1 ∧ Fr (Iv r (r + 1)) 1 H H1)) := by
  refine Ct.of (own := RX6) (cc := cX6_init) (maxL := 2) (by decide +kernel) rfl (Nat.le_of_ble_eq_true rfl) rfl ?_
  intro K H X R hH hnm hP
  show G K 0 0 H 0 [(0, .ref r), (1, .int (J (N : Int)))] []
  obtain ⟨hO, hsz⟩ := hP
  refine g_aload_n (pc := 0) (pl := 0) X dX6_init_0 rfl ?_
  refine g_objInit (pc := 1) X (by decide +kernel) (by decide +kernel) (by decide +kernel) (by decide) (Nat.le_of_ble_eq_true rfl) dX6_init_1 ?_
  refine g_aload_n (pc := 4) (pl := 0) X dX6_init_4 rfl ?_
  refine g_iload_n (pc := 5) (pl := 1) X dX6_init_5 rfl ?_
  refine g_if_ge (pc := 6) X 13 dX6_init_6 (by decide) (by omega) (fun c6 => ?_) (fun c6 => ?_)
  · skip
    refine g_iload_n (pc := 13) (pl := 1) X dX6_init_13 rfl ?_
    refine g_newarr (pc := 14) (N := N) (n2 := 1) (k2 := N) X (by decide +kernel) rfl (by omega) (Nat.le_of_ble_eq_true rfl) (by show 0 + N ≤ 80; omega) dX6_init_14 rfl (Nat.zero_add N) (fun H1 hz1 hNew hon1 => ?_)
    rw [hsz] at hNew ⊢
    have hA := hNew
    clear hNew
    have hf1 : Fr (Iv 0 0) 1 H H1 := Fr.new hz1 hon1
    replace hsz : H1.size = r + 2 := by have e := hf1.1; omega
    replace hO := hO.fr hf1 (by omega)
    refine g_putF (pc := 16) X zW_X6_init_9 hnm rfl hO (by omega) rfl rfl rfl dX6_init_16 (fun H2 hOn hf2 => ?_)
    replace hsz : H2.size = r + 2 := by have e := hf2.1; omega
    replace hA := hA.fr hf2 (by omega)
    replace hO : Ob D r 6 [.ref (r + 1), .int (J 0)] H2 := hOn
    clear hOn
    refine G.widen (n' := 1) (k' := 80) (by omega) (by omega) ?_
    refine g_vret (pc := 19) X R hH dX6_init_19 ?_
    exact ⟨⟨hO, ⟨_, hA, fun j h0 h1 => by omega⟩, ⟨by omega, by omega, by omega⟩⟩, (Fr.trans hf1.any (hf2.wide (by omega) (by omega)))⟩
  · skip
    omega
end
section
/-! bits of a set, as whole numbers -/
def btt (m n : Int) : Bool := m.toNat.testBit n.toNat
theorem J_nI (n : Nat) : nI n = J (n : Int) := J_nat n
theorem J_nI' {z : Int} (h : 0 ≤ z) : J z = nI z.toNat := by rw [J_nI, Int.toNat_of_nonneg h]
theorem z_sl : ∀ n, n < 32 → ((nI n &&& 31).toBitVec.smod 32).toNat = n := by decide +kernel
theorem z_and (a b : Nat) : nI a &&& nI b = nI (a &&& b) := by
  apply Int32.toBitVec_inj.1
  show BitVec.ofNat 32 a &&& BitVec.ofNat 32 b = BitVec.ofNat 32 (a &&& b)
  apply BitVec.eq_of_getLsbD_eq
  intro i hi
  simp [hi]
theorem z_or (a b : Nat) : nI a ||| nI b = nI (a ||| b) := by
  apply Int32.toBitVec_inj.1
  show BitVec.ofNat 32 a ||| BitVec.ofNat 32 b = BitVec.ofNat 32 (a ||| b)
  apply BitVec.eq_of_getLsbD_eq
  intro i hi
  simp [hi]
/-- the set moved down -/
theorem J_shr {m n : Int} (hm : 0 ≤ m ∧ m < 2147483648) (hn : 0 ≤ n ∧ n < 32) : J m >>> (J n &&& 31) = J ((m.toNat / 2 ^ n.toNat : Nat) : Int) := by
  rw [J_nI' hm.1, J_nI' hn.1, pk_shrN (by omega) _ n.toNat (z_sl _ (by omega)), J_nI]
theorem J_shl {a n : Int} (ha : 0 ≤ a ∧ a < 65536) (hn : 0 ≤ n ∧ n < 16) : J a <<< (J n &&& 31) = J ((a.toNat * 2 ^ n.toNat : Nat) : Int) := by
  have h1 : 2 ^ n.toNat ≤ 2 ^ 15 := Nat.pow_le_pow_right (by decide) (by omega)
  have h2 : a.toNat * 2 ^ n.toNat ≤ 65535 * 2 ^ 15 := Nat.mul_le_mul (by omega) h1
  rw [J_nI' ha.1, J_nI' hn.1, pk_shlN _ n.toNat (z_sl _ (by omega)) (by omega), J_nI]
theorem J_and {a b : Int} (ha : 0 ≤ a) (hb : 0 ≤ b) : J a &&& J b = J ((a.toNat &&& b.toNat : Nat) : Int) := by
  rw [J_nI' ha, J_nI' hb, z_and, J_nI]
theorem J_or {a b : Int} (ha : 0 ≤ a) (hb : 0 ≤ b) : J a ||| J b = J ((a.toNat ||| b.toNat : Nat) : Int) := by
  rw [J_nI' ha, J_nI' hb, z_or, J_nI]
theorem btt_div (m n : Int) : ((((m.toNat / 2 ^ n.toNat : Nat) : Int).toNat &&& (1 : Int).toNat : Nat) : Int) = if btt m n then 1 else 0 := by
  show ((((m.toNat / 2 ^ n.toNat : Nat) : Int).toNat &&& 1 : Nat) : Int) = _
  rw [Int.toNat_natCast, Nat.and_one_is_mod]
  unfold btt
  rw [Nat.testBit_eq_decide_div_mod_eq]
  by_cases c : m.toNat / 2 ^ n.toNat % 2 = 1
  · rw [c, if_pos (by simp)]; rfl
  · rw [if_neg (by simpa using c)]; omega
/-- what isIn answers -/
abbrev isin (m n : Int) : Prop := 0 ≤ n ∧ n < 16 ∧ btt m n = true
/-- which of a row's letters are a note's own -/
def ownb (f : Int → Int) (n : Int) : Int → Bool := fun i => decide (isin (f i) n)
/-- a row is gone through: pieces, letters, the piece that runs, the most letters of a piece, where that one ends -/
def scan (o : Int → Bool) : Nat → Int × Int × Int × Int × Int
  | 0 => (0, 0, 0, 0, -6)
  | p + 1 => match scan o p with
    | (a, b, r, m, e) => if o (p : Int) then (if r = 0 then a + 1 else a, b + 1, r + 1, if m < r + 1 then r + 1 else m, if m < r + 1 then (p : Int) else e) else (a, b, 0, m, e)
def scP (o : Int → Bool) (p : Nat) : Int := (scan o p).1
def scL (o : Int → Bool) (p : Nat) : Int := (scan o p).2.1
def scR (o : Int → Bool) (p : Nat) : Int := (scan o p).2.2.1
def scM (o : Int → Bool) (p : Nat) : Int := (scan o p).2.2.2.1
def scE (o : Int → Bool) (p : Nat) : Int := (scan o p).2.2.2.2
def scF (o : Int → Bool) (p : Nat) : Int := if scM o p = 0 then -6 else scE o p - scM o p + 1
theorem sc_0 (o : Int → Bool) : scP o 0 = 0 ∧ scL o 0 = 0 ∧ scR o 0 = 0 ∧ scM o 0 = 0 ∧ scE o 0 = -6 ∧ scF o 0 = -6 := ⟨rfl, rfl, rfl, rfl, rfl, rfl⟩
theorem sc_no {o : Int → Bool} {p : Nat} (h : ¬ o (p : Int) = true) : scP o (p + 1) = scP o p ∧ scL o (p + 1) = scL o p ∧ scR o (p + 1) = 0 ∧ scM o (p + 1) = scM o p ∧ scE o (p + 1) = scE o p := by
  unfold scP scL scR scM scE
  simp only [scan]
  rw [if_neg h]
  exact ⟨rfl, rfl, rfl, rfl, rfl⟩
theorem sc_yes {o : Int → Bool} {p : Nat} (h : o (p : Int) = true) : scP o (p + 1) = (if scR o p = 0 then scP o p + 1 else scP o p) ∧ scL o (p + 1) = scL o p + 1 ∧ scR o (p + 1) = scR o p + 1 ∧ scM o (p + 1) = (if scM o p < scR o p + 1 then scR o p + 1 else scM o p) ∧ scE o (p + 1) = (if scM o p < scR o p + 1 then (p : Int) else scE o p) := by
  unfold scP scL scR scM scE
  simp only [scan]
  rw [if_pos h]
  exact ⟨rfl, rfl, rfl, rfl, rfl⟩
theorem sc_bd (o : Int → Bool) : ∀ p : Nat, 0 ≤ scP o p ∧ scP o p ≤ scL o p ∧ scL o p ≤ p ∧ 0 ≤ scR o p ∧ scR o p ≤ scM o p ∧ scM o p ≤ scL o p ∧ (scM o p = 0 → scE o p = -6) ∧ (0 < scM o p → scM o p ≤ scE o p + 1 ∧ scE o p < p) ∧ (0 < scL o p → 0 < scM o p ∧ 0 < scP o p) := by
  intro p
  induction p with
  | zero => simp [sc_0]
  | succ p ih =>
    obtain ⟨h1, h2, h3, h4, h5, h6, h7, h8, h9⟩ := ih
    by_cases c : o (p : Int) = true
    · obtain ⟨e1, e2, e3, e4, e5⟩ := sc_yes c
      rw [e1, e2, e3, e4, e5]
      by_cases c1 : scM o p < scR o p + 1
      · rw [if_pos c1, if_pos c1]
        by_cases c2 : scR o p = 0
        · rw [if_pos c2]; refine ⟨?_, ?_, ?_, ?_, ?_, ?_, ?_, ?_, ?_⟩ <;> omega
        · rw [if_neg c2]; refine ⟨?_, ?_, ?_, ?_, ?_, ?_, ?_, ?_, ?_⟩ <;> omega
      · rw [if_neg c1, if_neg c1]
        by_cases c2 : scR o p = 0
        · rw [if_pos c2]; refine ⟨?_, ?_, ?_, ?_, ?_, ?_, ?_, ?_, ?_⟩ <;> omega
        · rw [if_neg c2]; refine ⟨?_, ?_, ?_, ?_, ?_, ?_, ?_, ?_, ?_⟩ <;> omega
    · obtain ⟨e1, e2, e3, e4, e5⟩ := sc_no c
      rw [e1, e2, e3, e4, e5]
      refine ⟨?_, ?_, ?_, ?_, ?_, ?_, ?_, ?_, ?_⟩ <;> omega
theorem scF_no {o : Int → Bool} {p : Nat} (h : ¬ o (p : Int) = true) : scF o (p + 1) = scF o p := by
  obtain ⟨e1, e2, e3, e4, e5⟩ := sc_no h
  unfold scF
  rw [e4, e5]
theorem scF_yes {o : Int → Bool} {p : Nat} (h : o (p : Int) = true) : scF o (p + 1) = if scM o p < scR o p + 1 then (p : Int) - scR o p else scF o p := by
  obtain ⟨e1, e2, e3, e4, e5⟩ := sc_yes h
  have hb := sc_bd o p
  unfold scF
  rw [e4, e5]
  by_cases c : scM o p < scR o p + 1
  · rw [if_pos c, if_pos c, if_pos c, if_neg (by omega)]; omega
  · rw [if_neg c, if_neg c, if_neg c]
theorem scan_congr {o o' : Int → Bool} : ∀ {p : Nat}, (∀ i : Int, 0 ≤ i → i < p → o i = o' i) → scan o p = scan o' p
  | 0, _ => rfl
  | p + 1, h => by
    simp only [scan]
    rw [scan_congr (fun i h0 h1 => h i h0 (by omega)), h p (by omega) (by omega)]
/-- how many of the first ones hold, one after the other -/
def lead (P : Int → Bool) : Nat → Nat
  | 0 => 0
  | k + 1 => if lead P k = k ∧ P (k : Int) = true then k + 1 else lead P k
theorem lead_le (P : Int → Bool) : ∀ n, lead P n ≤ n
  | 0 => Nat.le_refl 0
  | n + 1 => by
    have h := lead_le P n
    simp only [lead]
    split <;> omega
theorem lead_all (P : Int → Bool) : ∀ n (i : Int), 0 ≤ i → i < lead P n → P i = true
  | 0, i, h0, h => by simp only [lead] at h; omega
  | n + 1, i, h0, h => by
    simp only [lead] at h
    split at h
    · next c =>
      by_cases c2 : i = n
      · rw [c2]; exact c.2
      · exact lead_all P n i h0 (by omega)
    · exact lead_all P n i h0 h
theorem lead_stop (P : Int → Bool) : ∀ n, lead P n < n → ¬ P (lead P n : Int) = true
  | 0, h => absurd h (Nat.not_lt_zero _)
  | n + 1, h => by
    simp only [lead] at h ⊢
    split at h
    · omega
    · next c =>
      rw [if_neg c]
      have h1 := lead_le P n
      by_cases c2 : lead P n < n
      · exact lead_stop P n c2
      · have e : lead P n = n := by omega
        rw [e]
        exact fun q => c ⟨e, q⟩
theorem lead_eq {P : Int → Bool} {n : Nat} {c : Int} (h0 : 0 ≤ c) (h1 : c ≤ n) (h2 : ∀ i : Int, 0 ≤ i → i < c → P i = true) (h3 : c = n ∨ ¬ P c = true) : c = (lead P n : Int) := by
  have a1 := lead_le P n
  have a2 := lead_all P n
  have a3 := lead_stop P n
  rcases Int.lt_trichotomy c (lead P n : Int) with q | q | q
  · rcases h3 with h | h
    · omega
    · exact absurd (a2 c h0 q) h
  · exact q
  · exact absurd (h2 _ (by omega) q) (a3 (by omega))
theorem lead_congr {P P' : Int → Bool} : ∀ {n : Nat}, (∀ i : Int, 0 ≤ i → i < n → P i = P' i) → lead P n = lead P' n
  | 0, _ => rfl
  | n + 1, h => by
    simp only [lead]
    rw [lead_congr (fun i h0 h1 => h i h0 (by omega)), h n (by omega) (by omega)]
/-- the places at which something could stand: the best one, how good, how many -/
def best (ok : Int → Bool) (lk : Int → Int) : Nat → Int × Int × Int
  | 0 => (-6, -6, 0)
  | p + 1 => match best ok lk p with
    | (a, b, c) => if ok (p : Int) then (if c = 0 ∨ b < lk (p : Int) then (p : Int) else a, if c = 0 ∨ b < lk (p : Int) then lk (p : Int) else b, c + 1) else (a, b, c)
theorem best_congr {ok ok' : Int → Bool} {lk lk' : Int → Int} : ∀ {p : Nat}, (∀ i : Int, 0 ≤ i → i < p → ok i = ok' i ∧ (ok i = true → lk i = lk' i)) → best ok lk p = best ok' lk' p
  | 0, _ => rfl
  | p + 1, h => by
    have h1 := h p (by omega) (by omega)
    simp only [best]
    rw [best_congr (fun i h0 h1 => h i h0 (by omega)), ← h1.1]
    by_cases c : ok (p : Int) = true
    · rw [h1.2 c]
    · rw [if_neg c, if_neg c]
theorem best_bd (ok : Int → Bool) (lk : Int → Int) (h : ∀ i, 0 ≤ lk i ∧ lk i ≤ 1000) : ∀ p : Nat, 0 ≤ (best ok lk p).2.2 ∧ (best ok lk p).2.2 ≤ p ∧ ((best ok lk p).2.2 = 0 → (best ok lk p).1 = -6 ∧ (best ok lk p).2.1 = -6) ∧ (0 < (best ok lk p).2.2 → 0 ≤ (best ok lk p).1 ∧ (best ok lk p).1 < p ∧ 0 ≤ (best ok lk p).2.1 ∧ (best ok lk p).2.1 ≤ 1000 ∧ ok (best ok lk p).1 = true)
  | 0 => by simp [best]
  | p + 1 => by
    have ih := best_bd ok lk h p
    have hl := h (p : Int)
    simp only [best]
    generalize best ok lk p = s at ih ⊢
    obtain ⟨a, b, c⟩ := s
    dsimp only at ih ⊢
    by_cases q : ok (p : Int) = true
    · rw [if_pos q]
      dsimp only
      by_cases q2 : c = 0 ∨ b < lk (p : Int)
      · rw [if_pos q2, if_pos q2]
        exact ⟨by omega, by omega, fun z => by omega, fun z => ⟨by omega, by omega, by omega, by omega, q⟩⟩
      · rw [if_neg q2, if_neg q2]
        have h2 := ih.2.2.2 (by omega)
        exact ⟨by omega, by omega, fun z => by omega, fun z => ⟨by omega, by omega, by omega, by omega, h2.2.2.2.2⟩⟩
    · rw [if_neg q]
      dsimp only
      exact ⟨by omega, by omega, ih.2.2.1, fun z => by have h2 := ih.2.2.2 z; exact ⟨by omega, by omega, by omega, by omega, h2.2.2.2.2⟩⟩
/-- how many there are of which something holds -/
def cnt (P : Int → Bool) : Nat → Int
  | 0 => 0
  | k + 1 => cnt P k + if P (k : Int) then 1 else 0
theorem cnt_congr {P P' : Int → Bool} : ∀ {n : Nat}, (∀ i : Int, 0 ≤ i → i < n → P i = P' i) → cnt P n = cnt P' n
  | 0, _ => rfl
  | n + 1, h => by
    simp only [cnt]
    rw [cnt_congr (fun i h0 h1 => h i h0 (by omega)), h n (by omega) (by omega)]
theorem cnt_bd (P : Int → Bool) : ∀ n : Nat, 0 ≤ cnt P n ∧ cnt P n ≤ n
  | 0 => ⟨Int.le_refl 0, Int.le_refl 0⟩
  | n + 1 => by
    have h := cnt_bd P n
    simp only [cnt]
    split <;> omega
theorem best_no {ok : Int → Bool} {lk : Int → Int} {p : Nat} (h : ¬ ok (p : Int) = true) : best ok lk (p + 1) = best ok lk p := by
  simp only [best]
  rw [if_neg h]
theorem best_yes {ok : Int → Bool} {lk : Int → Int} {p : Nat} (h : ok (p : Int) = true) : (best ok lk (p + 1)).1 = (if (best ok lk p).2.2 = 0 ∨ (best ok lk p).2.1 < lk (p : Int) then (p : Int) else (best ok lk p).1) ∧ (best ok lk (p + 1)).2.1 = (if (best ok lk p).2.2 = 0 ∨ (best ok lk p).2.1 < lk (p : Int) then lk (p : Int) else (best ok lk p).2.1) ∧ (best ok lk (p + 1)).2.2 = (best ok lk p).2.2 + 1 := by
  simp only [best]
  rw [if_pos h]
  exact ⟨rfl, rfl, rfl⟩
theorem best_stop {ok : Int → Bool} {lk : Int → Int} {k : Nat} : ∀ m : Nat, k ≤ m → (∀ i : Int, k ≤ i → i < m → ¬ ok i = true) → best ok lk m = best ok lk k
  | 0, h, _ => by rw [Nat.le_zero.mp h]
  | m + 1, h, hn => by
    rcases Nat.lt_or_ge m k with c | c
    · rw [show k = m + 1 by omega]
    · rw [best_no (hn m (by omega) (by omega))]
      exact best_stop m c (fun i h0 h1 => hn i h0 (by omega))
/-- how many of a row look like those of another, from a place on, by steps -/
def alk (n : Int) (f : Int → Int) (A E : Int) (W : Int → Int) (m : Int) : Int := (lead (fun i => decide (itm n f (A + i * E) = W i)) m.toNat : Int)
theorem alk_bd (n : Int) (f : Int → Int) (A E : Int) (W : Int → Int) {m : Int} (hm : 0 ≤ m) : 0 ≤ alk n f A E W m ∧ alk n f A E W m ≤ m := by
  have h := lead_le (fun i => decide (itm n f (A + i * E) = W i)) m.toNat
  unfold alk
  omega
theorem alk_of {n : Int} {f : Int → Int} {A E : Int} {W : Int → Int} {m v : Int} (h0 : 0 ≤ v) (h1 : v ≤ m) (h2 : ∀ i : Int, 0 ≤ i → i < v → itm n f (A + i * E) = W i) (h3 : v = m ∨ ¬ itm n f (A + v * E) = W v) : v = alk n f A E W m := by
  refine lead_eq h0 (by omega) (fun i a b => decide_eq_true (h2 i a b)) ?_
  rcases h3 with h | h
  · left; omega
  · right; exact fun q => h (of_decide_eq_true q)
theorem alk_all {n : Int} {f : Int → Int} {A E : Int} {W : Int → Int} {m : Int} (h : alk n f A E W m = m) : ∀ i : Int, 0 ≤ i → i < m → itm n f (A + i * E) = W i := by
  intro i h0 h1
  unfold alk at h
  have h2 := lead_all (fun i => decide (itm n f (A + i * E) = W i)) m.toNat i h0 (by omega)
  exact of_decide_eq_true h2
theorem alk_congr {n n' : Int} {f f' : Int → Int} {A E : Int} {W W' : Int → Int} {m : Int} (h : ∀ i : Int, 0 ≤ i → i < m → (itm n f (A + i * E) = W i ↔ itm n' f' (A + i * E) = W' i)) : alk n f A E W m = alk n' f' A E W' m := by
  unfold alk
  rw [lead_congr (P' := fun i => decide (itm n' f' (A + i * E) = W' i)) (fun i h0 h1 => by rw [decide_eq_decide]; exact h i h0 (by omega))]
def okS (n : Int) (f : Int → Int) (wl : Int) (w : Int → Int) : Int → Bool := fun p => decide (alk n f p 1 w wl = wl)
def lkS (n : Int) (f : Int → Int) (wl al bl : Int) (a b : Int → Int) : Int → Int := fun p => alk n f (p - 1) (-1) a al + alk n f (p + wl) 1 b bl
theorem okS_in {n : Int} {f : Int → Int} {wl : Int} {w : Int → Int} {p : Int} (h : okS n f wl w p = true) (hw : 1 ≤ wl) (hp : ∀ i : Int, 0 ≤ i → i < wl → 0 ≤ w i) : 0 ≤ p ∧ p + wl ≤ n := by
  have h1 := alk_all (of_decide_eq_true h)
  have e1 := h1 0 (by omega) (by omega)
  have e2 := h1 (wl - 1) (by omega) (by omega)
  have q1 := hp 0 (by omega) (by omega)
  have q2 := hp (wl - 1) (by omega) (by omega)
  unfold itm at e1 e2
  split at e1
  · split at e2
    · omega
    · omega
  · omega
end
section
/-- a note: whose reply it is, its words, what stood ahead and behind -/
def NoteAt (D : zD) (q : Nat) (t wl al bl : Int) (w a b : Int → Int) (H : Heap) : Prop :=
  Ob D q 2 [.int (J t), .ref (q + 1), .ref (q + 3), .ref (q + 5)] H ∧ RowAt D (q + 1) 60 wl w H ∧ RowAt D (q + 3) 8 al a H ∧ RowAt D (q + 5) 8 bl b H
theorem NoteAt.fr {D : zD} {q x y d : Nat} {t wl al bl : Int} {w a b : Int → Int} {H H' : Heap} (h : NoteAt D q t wl al bl w a b H) (fr : Fr (Iv x y) d H H') (e : q + 7 ≤ x ∨ y ≤ q) : NoteAt D q t wl al bl w a b H' := by
  obtain ⟨h1, h2, h3, h4⟩ := h
  exact ⟨h1.fr fr (by omega), h2.fr fr (by omega), h3.fr fr (by omega), h4.fr fr (by omega)⟩
theorem NoteAt.lt {D : zD} {q : Nat} {t wl al bl : Int} {w a b : Int → Int} {H : Heap} (h : NoteAt D q t wl al bl w a b H) : q + 6 < H.size := by
  obtain ⟨h1, h2, h3, h4⟩ := h
  exact h4.lt

abbrev rm_X2_init : Room := { frames := 2, cells := 6, slots := 246, locals := 33 }
theorem zW_X2_init_9 : zW RX2 wsX2_init 2 0 9 false (tyX2 0) := ⟨RX2, TX2, 4, tyX2, rfl, by decide +kernel, by decide, by decide +kernel, tyX2_ok, nmX2, rfl, rfl, rfl⟩
theorem cs_X2_init_17 : zCI RX2 wsX2_init 17 yX6_init wsX6_init cX6_init 2 rm_X2_init rm_X6_init 1 := ⟨_, gX2_init_X6_init, Or.inl (by decide +kernel), by decide +kernel, by decide +kernel, rfl, rfl, ⟨by decide +kernel, by decide +kernel, by decide +kernel⟩, ⟨Nat.le_of_ble_eq_true rfl, Nat.le_of_ble_eq_true rfl⟩⟩
theorem zW_X2_init_20 : zW RX2 wsX2_init 2 1 20 true (tyX2 1) := ⟨RX2, TX2, 4, tyX2, rfl, by decide +kernel, by decide, by decide +kernel, tyX2_ok, nmX2, rfl, rfl, rfl⟩
theorem zW_X2_init_24 : zW RX2 wsX2_init 2 2 24 true (tyX2 2) := ⟨RX2, TX2, 4, tyX2, rfl, by decide +kernel, by decide, by decide +kernel, tyX2_ok, nmX2, rfl, rfl, rfl⟩
theorem zW_X2_init_27 : zW RX2 wsX2_init 2 3 27 true (tyX2 3) := ⟨RX2, TX2, 4, tyX2, rfl, by decide +kernel, by decide, by decide +kernel, tyX2_ok, nmX2, rfl, rfl, rfl⟩
set_option maxRecDepth 100000 in
/-- a new note -/
theorem c_X2_init (l : Launch) (D : zD) (base : Nat) (q : Nat) (hq : base ≤ q) : Ct l yX2_init wsX2_init rm_X2_init D base [.ref q] (fun H => Ob D q 2 [.int (J 0), .null, .null, .null] H ∧ H.size = q + 1) (PV (fun H H1 => NoteAt D q (-6) 0 0 0 (fun _ => 0) (fun _ => 0) (fun _ => 0) H1 ∧ Fr (Iv q (q + 7)) 6 H H1)) := by
  refine Ct.of (own := RX2) (cc := cX2_init) (maxL := 1) (by decide +kernel) rfl (Nat.le_of_ble_eq_true rfl) rfl ?_
  intro K H X R hH hnm hP
  show G K 0 0 H 0 [(0, .ref q)] []
  obtain ⟨hO, hsz⟩ := hP
  refine g_aload_n (pc := 0) (pl := 0) X dX2_init_0 rfl ?_
  refine g_objInit (pc := 1) X (by decide +kernel) (by decide +kernel) (by decide +kernel) (by decide) (Nat.le_of_ble_eq_true rfl) dX2_init_1 ?_
  refine g_aload_n (pc := 4) (pl := 0) X dX2_init_4 rfl ?_
  refine g_bipush (pc := 5) X dX2_init_5 (by decide +kernel) ?_
  refine g_putf (pc := 7) X zW_X2_init_9 hO (by omega) rfl rfl rfl dX2_init_7 (fun H1 hOn hf1 => ?_)
  replace hsz : H1.size = q + 1 := by have e := hf1.1; omega
  replace hO : Ob D q 2 [.int (J (-6)), .null, .null, .null] H1 := hOn
  clear hOn
  refine g_aload_n (pc := 10) (pl := 0) X dX2_init_10 rfl ?_
  refine g_new (pc := 11) (ci := 6) (C := RX6) (T := TX6) (N := 2) (tys := tyX6) (fs := [.null, .int (J 0)]) (n2 := 1) (k2 := 2) X rfl (by decide +kernel) tyX6_ok (by decide +kernel) (by decide +kernel) (by decide +kernel) (by decide +kernel) (Nat.le_of_ble_eq_true rfl) (Nat.le_of_ble_eq_true rfl) dX2_init_11 rfl rfl (fun H2 hz2 hNew hon2 => ?_)
  rw [hsz] at hNew ⊢
  have hN1 := hNew
  clear hNew
  have hf2 : Fr (Iv 0 0) 1 H1 H2 := Fr.new hz2 hon2
  replace hsz : H2.size = q + 2 := by have e := hf2.1; omega
  replace hO := hO.fr hf2 (by omega)
  refine g_dup (pc := 14) X dX2_init_14 rfl ?_
  refine g_bipush (pc := 15) X dX2_init_15 (by decide +kernel) ?_
  refine gIv (pc := 17) (n2 := 2) (k2 := 82) X cs_X2_init_17 (c_X6_init (zl K) D base (q + 1) 60 (by omega) (by omega)) rfl (by omega) ⟨hN1, hsz⟩ rfl ⟨Nat.le_of_ble_eq_true rfl, Nat.le_of_ble_eq_true rfl⟩ dX2_init_17 (Nat.le_of_ble_eq_true rfl) rfl rfl (fun H3 hp17 hs17 => ?_)
  obtain ⟨hR1, hfa⟩ := hp17
  replace hsz : H3.size = q + 3 := by have e := hfa.1; omega
  replace hO := hO.fr hfa (by omega)
  refine g_putF (pc := 20) X zW_X2_init_20 hnm rfl hO (by omega) rfl rfl rfl dX2_init_20 (fun H4 hOn hf4 => ?_)
  replace hsz : H4.size = q + 3 := by have e := hf4.1; omega
  replace hR1 := hR1.fr hf4 (by omega)
  replace hO : Ob D q 2 [.int (J (-6)), .ref (q + 1), .null, .null] H4 := hOn
  clear hOn
  refine g_aload_n (pc := 23) (pl := 0) X dX2_init_23 rfl ?_
  refine g_new (pc := 24) (ci := 6) (C := RX6) (T := TX6) (N := 2) (tys := tyX6) (fs := [.null, .int (J 0)]) (n2 := 3) (k2 := 84) X rfl (by decide +kernel) tyX6_ok (by decide +kernel) (by decide +kernel) (by decide +kernel) (by decide +kernel) (Nat.le_of_ble_eq_true rfl) (Nat.le_of_ble_eq_true rfl) dX2_init_24 rfl rfl (fun H5 hz5 hNew hon5 => ?_)
  rw [hsz] at hNew ⊢
  have hN3 := hNew
  clear hNew
  have hf5 : Fr (Iv 0 0) 1 H4 H5 := Fr.new hz5 hon5
  replace hsz : H5.size = q + 4 := by have e := hf5.1; omega
  replace hO := hO.fr hf5 (by omega)
  replace hR1 := hR1.fr hf5 (by omega)
  refine g_dup (pc := 27) X dX2_init_27 rfl ?_
  refine g_bipush (pc := 28) X dX2_init_28 (by decide +kernel) ?_
  refine gIv (pc := 30) (n2 := 4) (k2 := 164) X cs_X2_init_17 (c_X6_init (zl K) D base (q + 3) 8 (by omega) (by omega)) rfl (by omega) ⟨hN3, hsz⟩ rfl ⟨Nat.le_of_ble_eq_true rfl, Nat.le_of_ble_eq_true rfl⟩ dX2_init_30 (Nat.le_of_ble_eq_true rfl) rfl rfl (fun H6 hp30 hs30 => ?_)
  obtain ⟨hR3, hfb⟩ := hp30
  replace hsz : H6.size = q + 5 := by have e := hfb.1; omega
  replace hO := hO.fr hfb (by omega)
  replace hR1 := hR1.fr hfb (by omega)
  refine g_putF (pc := 33) X zW_X2_init_24 hnm rfl hO (by omega) rfl rfl rfl dX2_init_33 (fun H7 hOn hf7 => ?_)
  replace hsz : H7.size = q + 5 := by have e := hf7.1; omega
  replace hR1 := hR1.fr hf7 (by omega)
  replace hR3 := hR3.fr hf7 (by omega)
  replace hO : Ob D q 2 [.int (J (-6)), .ref (q + 1), .ref (q + 3), .null] H7 := hOn
  clear hOn
  refine g_aload_n (pc := 36) (pl := 0) X dX2_init_36 rfl ?_
  refine g_new (pc := 37) (ci := 6) (C := RX6) (T := TX6) (N := 2) (tys := tyX6) (fs := [.null, .int (J 0)]) (n2 := 5) (k2 := 166) X rfl (by decide +kernel) tyX6_ok (by decide +kernel) (by decide +kernel) (by decide +kernel) (by decide +kernel) (Nat.le_of_ble_eq_true rfl) (Nat.le_of_ble_eq_true rfl) dX2_init_37 rfl rfl (fun H8 hz8 hNew hon8 => ?_)
  rw [hsz] at hNew ⊢
  have hN5 := hNew
  clear hNew
  have hf8 : Fr (Iv 0 0) 1 H7 H8 := Fr.new hz8 hon8
  replace hsz : H8.size = q + 6 := by have e := hf8.1; omega
  replace hO := hO.fr hf8 (by omega)
  replace hR1 := hR1.fr hf8 (by omega)
  replace hR3 := hR3.fr hf8 (by omega)
  refine g_dup (pc := 40) X dX2_init_40 rfl ?_
  refine g_bipush (pc := 41) X dX2_init_41 (by decide +kernel) ?_
  refine gIv (pc := 43) (n2 := 6) (k2 := 246) X cs_X2_init_17 (c_X6_init (zl K) D base (q + 5) 8 (by omega) (by omega)) rfl (by omega) ⟨hN5, hsz⟩ rfl ⟨Nat.le_of_ble_eq_true rfl, Nat.le_of_ble_eq_true rfl⟩ dX2_init_43 (Nat.le_of_ble_eq_true rfl) rfl rfl (fun H9 hp43 hs43 => ?_)
  obtain ⟨hR5, hfc⟩ := hp43
  replace hsz : H9.size = q + 7 := by have e := hfc.1; omega
  replace hO := hO.fr hfc (by omega)
  replace hR1 := hR1.fr hfc (by omega)
  replace hR3 := hR3.fr hfc (by omega)
  refine g_putF (pc := 46) X zW_X2_init_27 hnm rfl hO (by omega) rfl rfl rfl dX2_init_46 (fun H10 hOn hf10 => ?_)
  replace hsz : H10.size = q + 7 := by have e := hf10.1; omega
  replace hR1 := hR1.fr hf10 (by omega)
  replace hR3 := hR3.fr hf10 (by omega)
  replace hR5 := hR5.fr hf10 (by omega)
  replace hO : Ob D q 2 [.int (J (-6)), .ref (q + 1), .ref (q + 3), .ref (q + 5)] H10 := hOn
  clear hOn
  refine g_vret (pc := 49) X R hH dX2_init_49 ?_
  exact ⟨⟨hO, hR1, hR3, hR5⟩, (Fr.trans (hf1.wide (by omega) (by omega)) (Fr.trans hf2.any (Fr.trans (hfa.wide (by omega) (by omega)) (Fr.trans (hf4.wide (by omega) (by omega)) (Fr.trans hf5.any (Fr.trans (hfb.wide (by omega) (by omega)) (Fr.trans (hf7.wide (by omega) (by omega)) (Fr.trans hf8.any (Fr.trans (hfc.wide (by omega) (by omega)) (hf10.wide (by omega) (by omega)))))))))))⟩

abbrev rm_X2_isReply : Room := { frames := 0, cells := 0, slots := 0, locals := 0 }
theorem zF_X2_isReply_9 : zF RX2 wsX2_isReply 2 0 9 := ⟨RX2, TX2, 4, rfl, by decide +kernel, by decide, by decide +kernel⟩
set_option maxRecDepth 100000 in
theorem c_X2_isReply (l : Launch) (D : zD) (base : Nat) (q : Nat) (t wl al bl : Int) (w a b : Int → Int) (hq : base ≤ q) (ht : rg t) : Ct l yX2_isReply wsX2_isReply rm_X2_isReply D base [.ref q] (fun H => NoteAt D q t wl al bl w a b H) (PI (fun H v H1 => H = H1 ∧ (if ¬ t = -6 then 1 else 0) = v)) := by
  refine Ct.of (own := RX2) (cc := cX2_isReply) (maxL := 1) (by decide +kernel) rfl (Nat.le_of_ble_eq_true rfl) rfl ?_
  intro K H X R hH hnm hP
  show G K 0 0 H 0 [(0, .ref q)] []
  have hN0 := hP
  obtain ⟨hO, hW, hA, hB⟩ := hP
  refine g_aload_n (pc := 0) (pl := 0) X dX2_isReply_0 rfl ?_
  refine g_getf (pc := 1) X zF_X2_isReply_9 hO rfl dX2_isReply_1 ?_
  refine g_bipush (pc := 4) X dX2_isReply_4 (by decide +kernel) ?_
  refine g_icmp_eq (pc := 6) X 13 dX2_isReply_6 (by decide) (by omega) (by omega) (fun c6 => ?_) (fun c6 => ?_)
  · skip
    refine g_iconst (pc := 13) X dX2_isReply_13 ?_
    refine g_zret (pc := 14) X R hH (by first | exact Or.inl rfl | exact Or.inr rfl | omega) dX2_isReply_14 ?_
    refine ⟨rfl, ?_⟩
    split <;> first | rfl | (exfalso; omega)
  · skip
    refine g_iconst (pc := 9) X dX2_isReply_9 ?_
    refine g_goto (pc := 10) X 14 dX2_isReply_10 (by decide) ?_
    refine g_zret (pc := 14) X R hH (by first | exact Or.inl rfl | exact Or.inr rfl | omega) dX2_isReply_14 ?_
    refine ⟨rfl, ?_⟩
    split <;> first | rfl | (exfalso; omega)

abbrev rm_X2_becomeReply : Room := { frames := 1, cells := 0, slots := 0, locals := 20 }
theorem zW_X2_becomeReply_9 : zW RX2 wsX2_becomeReply 2 0 9 false (tyX2 0) := ⟨RX2, TX2, 4, tyX2, rfl, by decide +kernel, by decide, by decide +kernel, tyX2_ok, nmX2, rfl, rfl, rfl⟩
theorem zF_X2_becomeReply_20 : zF RX2 wsX2_becomeReply 2 1 20 := ⟨RX2, TX2, 4, rfl, by decide +kernel, by decide, by decide +kernel⟩
theorem cs_X2_becomeReply_30 : zCV RX2 wsX2_becomeReply 30 6 yX6_clear wsX6_clear cX6_clear 1 none rm_X2_becomeReply rm_X6_clear 0 := ⟨_, _, gX2_becomeReply_X6_clear, rfl, ⟨by decide +kernel, by decide +kernel, by decide +kernel⟩, ⟨Nat.le_of_ble_eq_true rfl, Nat.le_of_ble_eq_true rfl⟩, rfl, rfl⟩
theorem zF_X2_becomeReply_24 : zF RX2 wsX2_becomeReply 2 2 24 := ⟨RX2, TX2, 4, rfl, by decide +kernel, by decide, by decide +kernel⟩
theorem zF_X2_becomeReply_27 : zF RX2 wsX2_becomeReply 2 3 27 := ⟨RX2, TX2, 4, rfl, by decide +kernel, by decide, by decide +kernel⟩
set_option maxRecDepth 100000 in
theorem c_X2_becomeReply (l : Launch) (D : zD) (base : Nat) (q : Nat) (t wl al bl : Int) (w a b : Int → Int) (n : Int) (hq : base ≤ q) : Ct l yX2_becomeReply wsX2_becomeReply rm_X2_becomeReply D base [.ref q, .int (J n)] (fun H => NoteAt D q t wl al bl w a b H) (PV (fun H H1 => NoteAt D q n 0 0 0 w a b H1 ∧ Fr (Iv q (q + 7)) 0 H H1)) := by
  refine Ct.of (own := RX2) (cc := cX2_becomeReply) (maxL := 2) (by decide +kernel) rfl (Nat.le_of_ble_eq_true rfl) rfl ?_
  intro K H X R hH hnm hP
  show G K 0 0 H 0 [(0, .ref q), (1, .int (J n))] []
  obtain ⟨hO, hW, hA, hB⟩ := hP
  refine g_aload_n (pc := 0) (pl := 0) X dX2_becomeReply_0 rfl ?_
  refine g_iload_n (pc := 1) (pl := 1) X dX2_becomeReply_1 rfl ?_
  refine g_putf (pc := 2) X zW_X2_becomeReply_9 hO (by omega) rfl rfl rfl dX2_becomeReply_2 (fun H1 hOn hf1 => ?_)
  replace hW := hW.fr hf1 (by omega)
  replace hA := hA.fr hf1 (by omega)
  replace hB := hB.fr hf1 (by omega)
  replace hO : Ob D q 2 [.int (J n), .ref (q + 1), .ref (q + 3), .ref (q + 5)] H1 := hOn
  clear hOn
  refine g_aload_n (pc := 5) (pl := 0) X dX2_becomeReply_5 rfl ?_
  refine g_getf (pc := 6) X zF_X2_becomeReply_20 hO rfl dX2_becomeReply_6 ?_
  obtain ⟨hRO, -⟩ := id hW
  refine gVv (pc := 9) (n2 := 0) (k2 := 0) X cs_X2_becomeReply_30 (c_X6_clear (zl K) D base (q + 1) 60 wl w (by omega)) rfl hRO (by omega) hW rfl ⟨Nat.le_of_ble_eq_true rfl, Nat.le_of_ble_eq_true rfl⟩ dX2_becomeReply_9 (Nat.le_of_ble_eq_true rfl) rfl rfl (fun H2 hp9 hs9 => ?_)
  obtain ⟨hWn, hfa⟩ := hp9
  replace hO := hO.fr hfa (by omega)
  replace hA := hA.fr hfa (by omega)
  replace hB := hB.fr hfa (by omega)
  replace hW := hWn
  clear hWn
  refine g_aload_n (pc := 12) (pl := 0) X dX2_becomeReply_12 rfl ?_
  refine g_getf (pc := 13) X zF_X2_becomeReply_24 hO rfl dX2_becomeReply_13 ?_
  obtain ⟨hRO, -⟩ := id hA
  refine gVv (pc := 16) (n2 := 0) (k2 := 0) X cs_X2_becomeReply_30 (c_X6_clear (zl K) D base (q + 3) 8 al a (by omega)) rfl hRO (by omega) hA rfl ⟨Nat.le_of_ble_eq_true rfl, Nat.le_of_ble_eq_true rfl⟩ dX2_becomeReply_16 (Nat.le_of_ble_eq_true rfl) rfl rfl (fun H3 hp16 hs16 => ?_)
  obtain ⟨hAn, hfb⟩ := hp16
  replace hO := hO.fr hfb (by omega)
  replace hW := hW.fr hfb (by omega)
  replace hB := hB.fr hfb (by omega)
  replace hA := hAn
  clear hAn
  refine g_aload_n (pc := 19) (pl := 0) X dX2_becomeReply_19 rfl ?_
  refine g_getf (pc := 20) X zF_X2_becomeReply_27 hO rfl dX2_becomeReply_20 ?_
  obtain ⟨hRO, -⟩ := id hB
  refine gVv (pc := 23) (n2 := 0) (k2 := 0) X cs_X2_becomeReply_30 (c_X6_clear (zl K) D base (q + 5) 8 bl b (by omega)) rfl hRO (by omega) hB rfl ⟨Nat.le_of_ble_eq_true rfl, Nat.le_of_ble_eq_true rfl⟩ dX2_becomeReply_23 (Nat.le_of_ble_eq_true rfl) rfl rfl (fun H4 hp23 hs23 => ?_)
  obtain ⟨hBn, hfc⟩ := hp23
  replace hO := hO.fr hfc (by omega)
  replace hW := hW.fr hfc (by omega)
  replace hA := hA.fr hfc (by omega)
  replace hB := hBn
  clear hBn
  refine g_vret (pc := 26) X R hH dX2_becomeReply_26 ?_
  exact ⟨⟨hO, hW, hA, hB⟩, (Fr.trans (hf1.wide (by omega) (by omega)) (Fr.trans (hfa.wide (by omega) (by omega)) (Fr.trans (hfb.wide (by omega) (by omega)) (hfc.wide (by omega) (by omega)))))⟩

abbrev rm_X2_remember : Room := { frames := 2, cells := 0, slots := 0, locals := 46 }
theorem zW_X2_remember_9 : zW RX2 wsX2_remember 2 0 9 false (tyX2 0) := ⟨RX2, TX2, 4, tyX2, rfl, by decide +kernel, by decide, by decide +kernel, tyX2_ok, nmX2, rfl, rfl, rfl⟩
theorem zF_X2_remember_20 : zF RX2 wsX2_remember 2 1 20 := ⟨RX2, TX2, 4, rfl, by decide +kernel, by decide, by decide +kernel⟩
theorem cs_X2_remember_33 : zCV RX2 wsX2_remember 33 6 yX6_copyPart wsX6_copyPart cX6_copyPart 6 none rm_X2_remember rm_X6_copyPart 4 := ⟨_, _, gX2_remember_X6_copyPart, rfl, ⟨by decide +kernel, by decide +kernel, by decide +kernel⟩, ⟨Nat.le_of_ble_eq_true rfl, Nat.le_of_ble_eq_true rfl⟩, rfl, rfl⟩
theorem zF_X2_remember_24 : zF RX2 wsX2_remember 2 2 24 := ⟨RX2, TX2, 4, rfl, by decide +kernel, by decide, by decide +kernel⟩
theorem zF_X2_remember_27 : zF RX2 wsX2_remember 2 3 27 := ⟨RX2, TX2, 4, rfl, by decide +kernel, by decide, by decide +kernel⟩
set_option maxRecDepth 100000 in
theorem c_X2_remember (l : Launch) (D : zD) (base : Nat) (q : Nat) (t wl al bl : Int) (w a b : Int → Int) (o : Nat) (n2 : Int) (f2 : Int → Int) (x y c : Int) (hq : base ≤ q) (hq2 : base ≤ o) (ho : q + 7 ≤ o ∨ o + 2 ≤ q) (hx : 0 ≤ x ∧ x ≤ y ∧ y < n2) (hc : 0 ≤ c ∧ c ≤ 8) : Ct l yX2_remember wsX2_remember rm_X2_remember D base [.ref q, .ref o, .int (J x), .int (J y), .int (J c)] (fun H => NoteAt D q t wl al bl w a b H ∧ RowAt D o 60 n2 f2 H) (PV (fun H H1 => ∃ wl2 al2 bl2 : Int, NoteAt D q (-6) wl2 al2 bl2 (fun j => f2 (x + j)) (fun j => f2 (x - 1 - j)) (fun j => f2 (y + 1 + j)) H1 ∧ wl2 = y - x + 1 ∧ 0 ≤ al2 ∧ al2 ≤ c ∧ al2 ≤ x ∧ (al2 = c ∨ al2 = x) ∧ 0 ≤ bl2 ∧ bl2 ≤ c ∧ y + bl2 < n2 ∧ (bl2 = c ∨ y + 1 + bl2 = n2) ∧ Fr (Iv q (q + 7)) 0 H H1)) := by
  refine Ct.of (own := RX2) (cc := cX2_remember) (maxL := 5) (by decide +kernel) rfl (Nat.le_of_ble_eq_true rfl) rfl ?_
  intro K H X R hH hnm hP
  show G K 0 0 H 0 [(0, .ref q), (1, .ref o), (2, .int (J x)), (3, .int (J y)), (4, .int (J c))] []
  obtain ⟨⟨hO, hW, hA, hB⟩, hF⟩ := hP
  have hbd := hF.bd
  refine g_aload_n (pc := 0) (pl := 0) X dX2_remember_0 rfl ?_
  refine g_bipush (pc := 1) X dX2_remember_1 (by decide +kernel) ?_
  refine g_putf (pc := 3) X zW_X2_remember_9 hO (by omega) rfl rfl rfl dX2_remember_3 (fun H1 hOn hf1 => ?_)
  replace hW := hW.fr hf1 (by omega)
  replace hA := hA.fr hf1 (by omega)
  replace hB := hB.fr hf1 (by omega)
  replace hF := hF.fr hf1 (by omega)
  replace hO : Ob D q 2 [.int (J (-6)), .ref (q + 1), .ref (q + 3), .ref (q + 5)] H1 := hOn
  clear hOn
  refine g_aload_n (pc := 6) (pl := 0) X dX2_remember_6 rfl ?_
  refine g_getf (pc := 7) X zF_X2_remember_20 hO rfl dX2_remember_7 ?_
  refine g_aload_n (pc := 10) (pl := 1) X dX2_remember_10 rfl ?_
  refine g_iload_n (pc := 11) (pl := 2) X dX2_remember_11 rfl ?_
  refine g_iconst (pc := 12) X dX2_remember_12 ?_
  refine g_iload_n (pc := 13) (pl := 3) X dX2_remember_13 rfl ?_
  refine g_iload_n (pc := 14) (pl := 2) X dX2_remember_14 rfl ?_
  refine g_isub (pc := 15) X dX2_remember_15 ?_
  refine g_iconst (pc := 16) X dX2_remember_16 ?_
  refine g_iadd (pc := 17) X dX2_remember_17 ?_
  obtain ⟨hRO, -⟩ := id hW
  refine gVv (pc := 18) (n2 := 0) (k2 := 0) X cs_X2_remember_33 (c_X6_copyPart (zl K) D base (q + 1) 60 o 60 wl n2 w f2 x 1 (y - x + 1) (by omega) (by omega) (by omega) (by decide) (by omega) (by omega)) rfl hRO (by omega) ⟨hW, hF⟩ rfl ⟨Nat.le_of_ble_eq_true rfl, Nat.le_of_ble_eq_true rfl⟩ dX2_remember_18 (Nat.le_of_ble_eq_true rfl) rfl rfl (fun H2 hp18 hs18 => ?_)
  obtain ⟨cw, cw0, cw1, cw2, cw3, hXn, hfa⟩ := hp18
  replace hO := hO.fr hfa (by omega)
  replace hA := hA.fr hfa (by omega)
  replace hB := hB.fr hfa (by omega)
  replace hF := hF.fr hfa (by omega)
  replace hW := hXn
  clear hXn
  refine g_aload_n (pc := 21) (pl := 0) X dX2_remember_21 rfl ?_
  refine g_getf (pc := 22) X zF_X2_remember_24 hO rfl dX2_remember_22 ?_
  refine g_aload_n (pc := 25) (pl := 1) X dX2_remember_25 rfl ?_
  refine g_iload_n (pc := 26) (pl := 2) X dX2_remember_26 rfl ?_
  refine g_iconst (pc := 27) X dX2_remember_27 ?_
  refine g_isub (pc := 28) X dX2_remember_28 ?_
  refine g_iconst (pc := 29) X dX2_remember_29 ?_
  refine g_iload (pc := 30) (pl := 4) X dX2_remember_30 rfl ?_
  obtain ⟨hRO, -⟩ := id hA
  refine gVv (pc := 32) (n2 := 0) (k2 := 0) X cs_X2_remember_33 (c_X6_copyPart (zl K) D base (q + 3) 8 o 60 al n2 a f2 (x - 1) (-1) c (by omega) (by omega) (by omega) (by decide) (by omega) (by omega)) rfl hRO (by omega) ⟨hA, hF⟩ rfl ⟨Nat.le_of_ble_eq_true rfl, Nat.le_of_ble_eq_true rfl⟩ dX2_remember_32 (Nat.le_of_ble_eq_true rfl) rfl rfl (fun H3 hp32 hs32 => ?_)
  obtain ⟨ca, ca0, ca1, ca2, ca3, hXn, hfb⟩ := hp32
  replace hO := hO.fr hfb (by omega)
  replace hW := hW.fr hfb (by omega)
  replace hB := hB.fr hfb (by omega)
  replace hF := hF.fr hfb (by omega)
  replace hA := hXn
  clear hXn
  refine g_aload_n (pc := 35) (pl := 0) X dX2_remember_35 rfl ?_
  refine g_getf (pc := 36) X zF_X2_remember_27 hO rfl dX2_remember_36 ?_
  refine g_aload_n (pc := 39) (pl := 1) X dX2_remember_39 rfl ?_
  refine g_iload_n (pc := 40) (pl := 3) X dX2_remember_40 rfl ?_
  refine g_iconst (pc := 41) X dX2_remember_41 ?_
  refine g_iadd (pc := 42) X dX2_remember_42 ?_
  refine g_iconst (pc := 43) X dX2_remember_43 ?_
  refine g_iload (pc := 44) (pl := 4) X dX2_remember_44 rfl ?_
  obtain ⟨hRO, -⟩ := id hB
  refine gVv (pc := 46) (n2 := 0) (k2 := 0) X cs_X2_remember_33 (c_X6_copyPart (zl K) D base (q + 5) 8 o 60 bl n2 b f2 (y + 1) 1 c (by omega) (by omega) (by omega) (by decide) (by omega) (by omega)) rfl hRO (by omega) ⟨hB, hF⟩ rfl ⟨Nat.le_of_ble_eq_true rfl, Nat.le_of_ble_eq_true rfl⟩ dX2_remember_46 (Nat.le_of_ble_eq_true rfl) rfl rfl (fun H4 hp46 hs46 => ?_)
  obtain ⟨cb, cb0, cb1, cb2, cb3, hXn, hfc⟩ := hp46
  replace hO := hO.fr hfc (by omega)
  replace hW := hW.fr hfc (by omega)
  replace hA := hA.fr hfc (by omega)
  replace hF := hF.fr hfc (by omega)
  replace hB := hXn
  clear hXn
  refine g_vret (pc := 49) X R hH dX2_remember_49 ?_
  have ew : cw = y - x + 1 := by rcases cw3 with e | e <;> omega
  have ea : ca ≤ x := by rcases Int.lt_or_le 0 ca with e | e; (have := ca2 (ca - 1) (by omega) (by omega); omega); omega
  have eb : y + cb < n2 := by rcases Int.lt_or_le 0 cb with e | e; (have := cb2 (cb - 1) (by omega) (by omega); omega); omega
  refine ⟨cw, ca, cb, ⟨hO, hW.congr (fun i h0 h1 => by congr 1 <;> omega), hA.congr (fun i h0 h1 => by congr 1 <;> omega), hB.congr (fun i h0 h1 => by congr 1 <;> omega)⟩, ew, ca0, ca1, ea, by rcases ca3 with e | e <;> omega, cb0, cb1, eb, by rcases cb3 with e | e <;> omega, (Fr.trans (hf1.wide (by omega) (by omega)) (Fr.trans (hfa.wide (by omega) (by omega)) (Fr.trans (hfb.wide (by omega) (by omega)) (hfc.wide (by omega) (by omega)))))⟩

abbrev rm_X2_copyFrom : Room := { frames := 2, cells := 0, slots := 0, locals := 81 }
theorem zF_X2_copyFrom_9 : zF RX2 wsX2_copyFrom 2 0 9 := ⟨RX2, TX2, 4, rfl, by decide +kernel, by decide, by decide +kernel⟩
theorem zW_X2_copyFrom_9 : zW RX2 wsX2_copyFrom 2 0 9 false (tyX2 0) := ⟨RX2, TX2, 4, tyX2, rfl, by decide +kernel, by decide, by decide +kernel, tyX2_ok, nmX2, rfl, rfl, rfl⟩
theorem zF_X2_copyFrom_20 : zF RX2 wsX2_copyFrom 2 1 20 := ⟨RX2, TX2, 4, rfl, by decide +kernel, by decide, by decide +kernel⟩
theorem cs_X2_copyFrom_37 : zCV RX2 wsX2_copyFrom 37 6 yX6_copyFrom wsX6_copyFrom cX6_copyFrom 2 none rm_X2_copyFrom rm_X6_copyFrom 1 := ⟨_, _, gX2_copyFrom_X6_copyFrom, rfl, ⟨by decide +kernel, by decide +kernel, by decide +kernel⟩, ⟨Nat.le_of_ble_eq_true rfl, Nat.le_of_ble_eq_true rfl⟩, rfl, rfl⟩
theorem zF_X2_copyFrom_24 : zF RX2 wsX2_copyFrom 2 2 24 := ⟨RX2, TX2, 4, rfl, by decide +kernel, by decide, by decide +kernel⟩
theorem zF_X2_copyFrom_27 : zF RX2 wsX2_copyFrom 2 3 27 := ⟨RX2, TX2, 4, rfl, by decide +kernel, by decide, by decide +kernel⟩
set_option maxRecDepth 100000 in
theorem c_X2_copyFrom (l : Launch) (D : zD) (base : Nat) (q : Nat) (t wl al bl : Int) (w a b : Int → Int) (q2 : Nat) (t2 wl2 al2 bl2 : Int) (w2 a2 b2 : Int → Int) (hq : base ≤ q) (ho : q + 7 ≤ q2 ∨ q2 + 7 ≤ q) : Ct l yX2_copyFrom wsX2_copyFrom rm_X2_copyFrom D base [.ref q, .ref q2] (fun H => NoteAt D q t wl al bl w a b H ∧ NoteAt D q2 t2 wl2 al2 bl2 w2 a2 b2 H) (PV (fun H H1 => NoteAt D q t2 wl2 al2 bl2 w2 a2 b2 H1 ∧ Fr (Iv q (q + 7)) 0 H H1)) := by
  refine Ct.of (own := RX2) (cc := cX2_copyFrom) (maxL := 2) (by decide +kernel) rfl (Nat.le_of_ble_eq_true rfl) rfl ?_
  intro K H X R hH hnm hP
  show G K 0 0 H 0 [(0, .ref q), (1, .ref q2)] []
  obtain ⟨⟨hO, hW, hA, hB⟩, ⟨hO2, hW2, hA2, hB2⟩⟩ := hP
  have hbw := hW2.bd
  have hba := hA2.bd
  have hbb := hB2.bd
  refine g_aload_n (pc := 0) (pl := 0) X dX2_copyFrom_0 rfl ?_
  refine g_aload_n (pc := 1) (pl := 1) X dX2_copyFrom_1 rfl ?_
  refine g_getf (pc := 2) X zF_X2_copyFrom_9 hO2 rfl dX2_copyFrom_2 ?_
  refine g_putf (pc := 5) X zW_X2_copyFrom_9 hO (by omega) rfl rfl rfl dX2_copyFrom_5 (fun H1 hOn hf1 => ?_)
  replace hO2 := hO2.fr hf1 (by omega)
  replace hW := hW.fr hf1 (by omega)
  replace hA := hA.fr hf1 (by omega)
  replace hB := hB.fr hf1 (by omega)
  replace hW2 := hW2.fr hf1 (by omega)
  replace hA2 := hA2.fr hf1 (by omega)
  replace hB2 := hB2.fr hf1 (by omega)
  replace hO : Ob D q 2 [.int (J t2), .ref (q + 1), .ref (q + 3), .ref (q + 5)] H1 := hOn
  clear hOn
  refine g_aload_n (pc := 8) (pl := 0) X dX2_copyFrom_8 rfl ?_
  refine g_getf (pc := 9) X zF_X2_copyFrom_20 hO rfl dX2_copyFrom_9 ?_
  refine g_aload_n (pc := 12) (pl := 1) X dX2_copyFrom_12 rfl ?_
  refine g_getf (pc := 13) X zF_X2_copyFrom_20 hO2 rfl dX2_copyFrom_13 ?_
  obtain ⟨hRO, -⟩ := id hW
  refine gVv (pc := 16) (n2 := 0) (k2 := 0) X cs_X2_copyFrom_37 (c_X6_copyFrom (zl K) D base (q + 1) 60 (q2 + 1) 60 wl wl2 w w2 (by omega) (by omega) (by omega)) rfl hRO (by omega) ⟨hW, hW2⟩ rfl ⟨Nat.le_of_ble_eq_true rfl, Nat.le_of_ble_eq_true rfl⟩ dX2_copyFrom_16 (Nat.le_of_ble_eq_true rfl) rfl rfl (fun H2 hp16 hs16 => ?_)
  obtain ⟨hWn, hfa⟩ := hp16
  replace hO := hO.fr hfa (by omega)
  replace hO2 := hO2.fr hfa (by omega)
  replace hA := hA.fr hfa (by omega)
  replace hB := hB.fr hfa (by omega)
  replace hW2 := hW2.fr hfa (by omega)
  replace hA2 := hA2.fr hfa (by omega)
  replace hB2 := hB2.fr hfa (by omega)
  replace hW := hWn
  clear hWn
  refine g_aload_n (pc := 19) (pl := 0) X dX2_copyFrom_19 rfl ?_
  refine g_getf (pc := 20) X zF_X2_copyFrom_24 hO rfl dX2_copyFrom_20 ?_
  refine g_aload_n (pc := 23) (pl := 1) X dX2_copyFrom_23 rfl ?_
  refine g_getf (pc := 24) X zF_X2_copyFrom_24 hO2 rfl dX2_copyFrom_24 ?_
  obtain ⟨hRO, -⟩ := id hA
  refine gVv (pc := 27) (n2 := 0) (k2 := 0) X cs_X2_copyFrom_37 (c_X6_copyFrom (zl K) D base (q + 3) 8 (q2 + 3) 8 al al2 a a2 (by omega) (by omega) (by omega)) rfl hRO (by omega) ⟨hA, hA2⟩ rfl ⟨Nat.le_of_ble_eq_true rfl, Nat.le_of_ble_eq_true rfl⟩ dX2_copyFrom_27 (Nat.le_of_ble_eq_true rfl) rfl rfl (fun H3 hp27 hs27 => ?_)
  obtain ⟨hAn, hfb⟩ := hp27
  replace hO := hO.fr hfb (by omega)
  replace hO2 := hO2.fr hfb (by omega)
  replace hW := hW.fr hfb (by omega)
  replace hB := hB.fr hfb (by omega)
  replace hW2 := hW2.fr hfb (by omega)
  replace hA2 := hA2.fr hfb (by omega)
  replace hB2 := hB2.fr hfb (by omega)
  replace hA := hAn
  clear hAn
  refine g_aload_n (pc := 30) (pl := 0) X dX2_copyFrom_30 rfl ?_
  refine g_getf (pc := 31) X zF_X2_copyFrom_27 hO rfl dX2_copyFrom_31 ?_
  refine g_aload_n (pc := 34) (pl := 1) X dX2_copyFrom_34 rfl ?_
  refine g_getf (pc := 35) X zF_X2_copyFrom_27 hO2 rfl dX2_copyFrom_35 ?_
  obtain ⟨hRO, -⟩ := id hB
  refine gVv (pc := 38) (n2 := 0) (k2 := 0) X cs_X2_copyFrom_37 (c_X6_copyFrom (zl K) D base (q + 5) 8 (q2 + 5) 8 bl bl2 b b2 (by omega) (by omega) (by omega)) rfl hRO (by omega) ⟨hB, hB2⟩ rfl ⟨Nat.le_of_ble_eq_true rfl, Nat.le_of_ble_eq_true rfl⟩ dX2_copyFrom_38 (Nat.le_of_ble_eq_true rfl) rfl rfl (fun H4 hp38 hs38 => ?_)
  obtain ⟨hBn, hfc⟩ := hp38
  replace hO := hO.fr hfc (by omega)
  replace hO2 := hO2.fr hfc (by omega)
  replace hW := hW.fr hfc (by omega)
  replace hA := hA.fr hfc (by omega)
  replace hW2 := hW2.fr hfc (by omega)
  replace hA2 := hA2.fr hfc (by omega)
  replace hB2 := hB2.fr hfc (by omega)
  replace hB := hBn
  clear hBn
  refine g_vret (pc := 41) X R hH dX2_copyFrom_41 ?_
  exact ⟨⟨hO, hW, hA, hB⟩, (Fr.trans (hf1.wide (by omega) (by omega)) (Fr.trans (hfa.wide (by omega) (by omega)) (Fr.trans (hfb.wide (by omega) (by omega)) (hfc.wide (by omega) (by omega)))))⟩
end
section
abbrev rm_X8_isIn : Room := { frames := 0, cells := 0, slots := 0, locals := 0 }
set_option maxRecDepth 100000 in
theorem c_X8_isIn (l : Launch) (D : zD) (base : Nat) (m n : Int) (hm : 0 ≤ m ∧ m < 65536) (hn : rg n) : Ct l yX8_isIn wsX8_isIn rm_X8_isIn D base [.int (J m), .int (J n)] (fun _ => True) (PI (fun H v H1 => H = H1 ∧ (if isin m n then 1 else 0) = v)) := by
  refine Ct.of (own := RX8) (cc := cX8_isIn) (maxL := 2) (by decide +kernel) rfl (Nat.le_of_ble_eq_true rfl) rfl ?_
  intro K H X R hH hnm hP
  show G K 0 0 H 0 [(0, .int (J m)), (1, .int (J n))] []
  refine g_iload_n (pc := 0) (pl := 1) X dX8_isIn_0 rfl ?_
  refine g_if_lt (pc := 1) X 22 dX8_isIn_1 (by decide) (by omega) (fun c1 => ?_) (fun c1 => ?_)
  · skip
    refine g_iconst (pc := 22) X dX8_isIn_22 ?_
    refine g_zret (pc := 23) X R hH (by first | exact Or.inl rfl | exact Or.inr rfl | omega) dX8_isIn_23 ?_
    refine ⟨rfl, ?_⟩
    split
    · first | rfl | (rename_i h; first | (exact absurd h.2.2 c15) | (exfalso; omega))
    · first | rfl | (rename_i h; exact absurd ⟨by omega, by omega, c15⟩ h)
  · skip
    refine g_iload_n (pc := 4) (pl := 1) X dX8_isIn_4 rfl ?_
    refine g_bipush (pc := 5) X dX8_isIn_5 (by decide +kernel) ?_
    refine g_icmp_ge (pc := 7) X 22 dX8_isIn_7 (by decide) (by omega) (by omega) (fun c7 => ?_) (fun c7 => ?_)
    · skip
      refine g_iconst (pc := 22) X dX8_isIn_22 ?_
      refine g_zret (pc := 23) X R hH (by first | exact Or.inl rfl | exact Or.inr rfl | omega) dX8_isIn_23 ?_
      refine ⟨rfl, ?_⟩
      split
      · first | rfl | (rename_i h; first | (exact absurd h.2.2 c15) | (exfalso; omega))
      · first | rfl | (rename_i h; exact absurd ⟨by omega, by omega, c15⟩ h)
    · skip
      refine g_iload_n (pc := 10) (pl := 0) X dX8_isIn_10 rfl ?_
      refine g_iload_n (pc := 11) (pl := 1) X dX8_isIn_11 rfl ?_
      refine g_ishr (pc := 12) (z := J ((m.toNat / 2 ^ n.toNat : Nat) : Int)) X dX8_isIn_12 (J_shr (by omega) (by omega)) ?_
      refine g_iconst (pc := 13) X dX8_isIn_13 ?_
      refine g_iand (pc := 14) (z := J (if btt m n then 1 else 0)) X dX8_isIn_14 (by rw [J_and (by first | exact Int.natCast_nonneg _ | exact Int.ofNat_nonneg _) (by omega), btt_div]) ?_
      refine g_if_eq (pc := 15) X 22 dX8_isIn_15 (by decide) (zbr (btt m n = true)) (fun c15 => ?_) (fun c15 => ?_)
      · skip
        replace c15 := zb0 c15
        refine g_iconst (pc := 22) X dX8_isIn_22 ?_
        refine g_zret (pc := 23) X R hH (by first | exact Or.inl rfl | exact Or.inr rfl | omega) dX8_isIn_23 ?_
        refine ⟨rfl, ?_⟩
        split
        · first | rfl | (rename_i h; first | (exact absurd h.2.2 c15) | (exfalso; omega))
        · first | rfl | (rename_i h; exact absurd ⟨by omega, by omega, c15⟩ h)
      · skip
        replace c15 := zb1 c15
        refine g_iconst (pc := 18) X dX8_isIn_18 ?_
        refine g_goto (pc := 19) X 23 dX8_isIn_19 (by decide) ?_
        refine g_zret (pc := 23) X R hH (by first | exact Or.inl rfl | exact Or.inr rfl | omega) dX8_isIn_23 ?_
        refine ⟨rfl, ?_⟩
        split
        · first | rfl | (rename_i h; first | (exact absurd h.2.2 c15) | (exfalso; omega))
        · first | rfl | (rename_i h; exact absurd ⟨by omega, by omega, c15⟩ h)

abbrev rm_X5_gather : Room := { frames := 1, cells := 0, slots := 0, locals := 21 }
theorem zW_X5_gather_9 : zW RX5 wsX5_gather 5 0 9 false (tyX5 0) := ⟨RX5, TX5, 4, tyX5, rfl, by decide +kernel, by decide, by decide +kernel, tyX5_ok, nmX5, rfl, rfl, rfl⟩
theorem zW_X5_gather_15 : zW RX5 wsX5_gather 5 1 15 false (tyX5 1) := ⟨RX5, TX5, 4, tyX5, rfl, by decide +kernel, by decide, by decide +kernel, tyX5_ok, nmX5, rfl, rfl, rfl⟩
theorem zW_X5_gather_18 : zW RX5 wsX5_gather 5 2 18 false (tyX5 2) := ⟨RX5, TX5, 4, tyX5, rfl, by decide +kernel, by decide, by decide +kernel, tyX5_ok, nmX5, rfl, rfl, rfl⟩
theorem zW_X5_gather_21 : zW RX5 wsX5_gather 5 3 21 false (tyX5 3) := ⟨RX5, TX5, 4, tyX5, rfl, by decide +kernel, by decide, by decide +kernel, tyX5_ok, nmX5, rfl, rfl, rfl⟩
theorem zF_X5_gather_24 : zF RX5 wsX5_gather 6 1 24 := ⟨RX6, TX6, 2, rfl, by decide +kernel, by decide, by decide +kernel⟩
theorem cs_X5_gather_29 : zCV RX5 wsX5_gather 29 6 yX6_item wsX6_item cX6_item 2 (some .int) rm_X5_gather rm_X6_item 1 := ⟨_, _, gX5_gather_X6_item, rfl, ⟨by decide +kernel, by decide +kernel, by decide +kernel⟩, ⟨Nat.le_of_ble_eq_true rfl, Nat.le_of_ble_eq_true rfl⟩, rfl, rfl⟩
theorem cs_X5_gather_33 : zCN RX5 wsX5_gather 33 yX8_isIn wsX8_isIn cX8_isIn 2 (some .boolean) rm_X5_gather rm_X8_isIn 2 := ⟨_, _, gX5_gather_X8_isIn_n33, (by decide +kernel : Cond.methodLinkNest RX5 33 yX8_isIn RX8 ∈ zNest), by decide +kernel, by decide +kernel, rfl, ⟨by decide +kernel, by decide +kernel, by decide +kernel⟩, ⟨Nat.le_of_ble_eq_true rfl, Nat.le_of_ble_eq_true rfl⟩⟩
theorem zF_X5_gather_15 : zF RX5 wsX5_gather 5 1 15 := ⟨RX5, TX5, 4, rfl, by decide +kernel, by decide, by decide +kernel⟩
theorem zF_X5_gather_9 : zF RX5 wsX5_gather 5 0 9 := ⟨RX5, TX5, 4, rfl, by decide +kernel, by decide, by decide +kernel⟩
set_option maxRecDepth 100000 in
theorem c_X5_gather (l : Launch) (D : zD) (base : Nat) (q r : Nat) (p1 p2 p3 p4 n x : Int) (f : Int → Int) (hq : base ≤ q) (hr : base ≤ r) (hqr : q < r ∨ r + 2 ≤ q) (hx : rg x) (hf : ∀ i : Int, 0 ≤ i → i < n → 0 ≤ f i ∧ f i < 65536) : Ct l yX5_gather wsX5_gather rm_X5_gather D base [.ref q, .ref r, .int (J x)] (fun H => Ob D q 5 [.int (J p1), .int (J p2), .int (J p3), .int (J p4)] H ∧ RowAt D r 60 n f H) (PV (fun H H1 => Ob D q 5 [.int (J (scP (ownb f x) n.toNat)), .int (J (scL (ownb f x) n.toNat)), .int (J (scF (ownb f x) n.toNat)), .int (J (scE (ownb f x) n.toNat))] H1 ∧ Fr (Iv q (q + 1)) 0 H H1)) := by
  refine Ct.of (own := RX5) (cc := cX5_gather) (maxL := 7) (by decide +kernel) rfl (Nat.le_of_ble_eq_true rfl) rfl ?_
  intro K H X R hH hnm hP
  show G K 0 0 H 0 [(0, .ref q), (1, .ref r), (2, .int (J x))] []
  obtain ⟨hO, hF⟩ := hP
  have hbd := hF.bd
  refine g_aload_n (pc := 0) (pl := 0) X dX5_gather_0 rfl ?_
  refine g_iconst (pc := 1) X dX5_gather_1 ?_
  refine g_putf (pc := 2) X zW_X5_gather_9 hO (by omega) rfl rfl rfl dX5_gather_2 (fun H1 hOn hf1 => ?_)
  replace hF := hF.fr hf1 (by omega)
  replace hO : Ob D q 5 [.int (J 0), .int (J p2), .int (J p3), .int (J p4)] H1 := hOn
  clear hOn
  refine g_aload_n (pc := 5) (pl := 0) X dX5_gather_5 rfl ?_
  refine g_iconst (pc := 6) X dX5_gather_6 ?_
  refine g_putf (pc := 7) X zW_X5_gather_15 hO (by omega) rfl rfl rfl dX5_gather_7 (fun H2 hOn hf2 => ?_)
  replace hF := hF.fr hf2 (by omega)
  replace hO : Ob D q 5 [.int (J 0), .int (J 0), .int (J p3), .int (J p4)] H2 := hOn
  clear hOn
  refine g_aload_n (pc := 10) (pl := 0) X dX5_gather_10 rfl ?_
  refine g_bipush (pc := 11) X dX5_gather_11 (by decide +kernel) ?_
  refine g_putf (pc := 13) X zW_X5_gather_18 hO (by omega) rfl rfl rfl dX5_gather_13 (fun H3 hOn hf3 => ?_)
  replace hF := hF.fr hf3 (by omega)
  replace hO : Ob D q 5 [.int (J 0), .int (J 0), .int (J (-6)), .int (J p4)] H3 := hOn
  clear hOn
  refine g_aload_n (pc := 16) (pl := 0) X dX5_gather_16 rfl ?_
  refine g_bipush (pc := 17) X dX5_gather_17 (by decide +kernel) ?_
  refine g_putf (pc := 19) X zW_X5_gather_21 hO (by omega) rfl rfl rfl dX5_gather_19 (fun H4 hOn hf4 => ?_)
  replace hF := hF.fr hf4 (by omega)
  replace hO : Ob D q 5 [.int (J 0), .int (J 0), .int (J (-6)), .int (J (-6))] H4 := hOn
  clear hOn
  refine g_iconst (pc := 22) X dX5_gather_22 ?_
  refine g_istore_n (pc := 23) (lv' := [(3, _), (0, _), (1, _), (2, _)]) X dX5_gather_23 (by decide) rfl ?_
  refine g_iconst (pc := 24) X dX5_gather_24 ?_
  refine g_istore (pc := 25) (lv' := [(4, _), (3, _), (0, _), (1, _), (2, _)]) X dX5_gather_25 (by decide) rfl ?_
  refine g_iconst (pc := 27) X dX5_gather_27 ?_
  refine g_istore (pc := 28) (lv' := [(5, _), (4, _), (3, _), (0, _), (1, _), (2, _)]) X dX5_gather_28 (by decide) rfl ?_
  have hL30 : ∀ (fu : Nat) (p : Nat) (pi z3 z4 g1 g2 g3 g4 : Int) (Hx : Heap), n.toNat - p < fu → ((p : Int) ≤ n ∧ pi = p) → (z3 = p - scR (ownb f x) p ∧ z4 = scM (ownb f x) p ∧ g1 = scP (ownb f x) p ∧ g2 = scL (ownb f x) p ∧ g3 = scF (ownb f x) p ∧ g4 = scE (ownb f x) p) → (Ob D q 5 [.int (J g1), .int (J g2), .int (J g3), .int (J g4)] Hx) → (RowAt D r 60 n f Hx) → (Fr (Iv q (q + 1)) 0 H Hx) → G K 0 0 Hx 30 [(0, .ref q), (1, .ref r), (2, .int (J x)), (3, .int (J z3)), (4, .int (J z4)), (5, .int (J pi))] [] := by
    intro fu
    induction fu with
    | zero => intro p pi z3 z4 g1 g2 g3 g4 Hx hm; exact absurd hm (Nat.not_lt_zero _)
    | succ fu ih30 =>
      intro p pi z3 z4 g1 g2 g3 g4 Hx hm h1 hv hO hF h3
      have hbs := sc_bd (ownb f x) p
      obtain ⟨hFO, -⟩ := id hF
      refine g_iload (pc := 30) (pl := 5) X dX5_gather_30 rfl ?_
      refine g_aload_n (pc := 32) (pl := 1) X dX5_gather_32 rfl ?_
      refine g_getf (pc := 33) X zF_X5_gather_24 hFO rfl dX5_gather_33 ?_
      refine g_icmp_ge (pc := 36) X 122 dX5_gather_36 (by decide) (by omega) (by omega) (fun c36 => ?_) (fun c36 => ?_)
      · skip
        refine g_vret (pc := 122) X R hH dX5_gather_122 ?_
        have ep : n.toNat = p := by omega
        rw [ep]
        obtain ⟨-, -, rfl, rfl, rfl, rfl⟩ := hv
        exact ⟨hO, h3⟩
      · skip
        refine g_aload_n (pc := 39) (pl := 1) X dX5_gather_39 rfl ?_
        refine g_iload (pc := 40) (pl := 5) X dX5_gather_40 rfl ?_
        refine gVi (pc := 42) (n2 := 0) (k2 := 0) X cs_X5_gather_29 (c_X6_item (zl K) D base r 60 n f pi (by omega)) rfl hFO (by omega) hF rfl ⟨Nat.le_of_ble_eq_true rfl, Nat.le_of_ble_eq_true rfl⟩ dX5_gather_42 (Nat.le_of_ble_eq_true rfl) rfl rfl (fun v42 H5 hp42 hs42 => ?_)
        obtain ⟨rfl, rfl⟩ := hp42
        refine g_iload_n (pc := 45) (pl := 2) X dX5_gather_45 rfl ?_
        have hit : itm n f pi = f (p : Int) := by rw [h1.2]; exact if_pos (by omega)
        have hfp := hf (p : Int) (by omega) (by omega)
        rw [hit]
        refine gNi (pc := 46) (n2 := 0) (k2 := 0) X cs_X5_gather_33 (c_X8_isIn (zl K) D base (f (p : Int)) x (by omega) hx) rfl (by have := hO.lt; omega) trivial rfl ⟨Nat.le_of_ble_eq_true rfl, Nat.le_of_ble_eq_true rfl⟩ dX5_gather_46 (Nat.le_of_ble_eq_true rfl) rfl rfl (fun v46 H5 hp46 hs46 => ?_)
        obtain ⟨rfl, rfl⟩ := hp46
        refine g_if_ne (pc := 49) X 60 dX5_gather_49 (by decide) (zbr _) (fun c49 => ?_) (fun c49 => ?_)
        · skip
          replace c49 := zb1 c49
          have cp : ownb f x (p : Int) = true := by unfold ownb; rw [decide_eq_true_eq]; exact c49
          obtain ⟨e1, e2, e3, e4, e5⟩ := sc_yes cp
          have e6 := scF_yes cp
          refine g_aload_n (pc := 60) (pl := 0) X dX5_gather_60 rfl ?_
          refine g_dup (pc := 61) X dX5_gather_61 rfl ?_
          refine g_getf (pc := 62) X zF_X5_gather_15 hO rfl dX5_gather_62 ?_
          refine g_iconst (pc := 65) X dX5_gather_65 ?_
          refine g_iadd (pc := 66) X dX5_gather_66 ?_
          refine g_putf (pc := 67) X zW_X5_gather_15 hO (by omega) rfl rfl rfl dX5_gather_67 (fun H5 hOn hf5 => ?_)
          replace hFO := hFO.fr hf5 (by omega)
          replace hF := hF.fr hf5 (by omega)
          replace hO : Ob D q 5 [.int (J g1), .int (J (g2 + 1)), .int (J g3), .int (J g4)] H5 := hOn
          clear hOn
          refine g_iload_n (pc := 70) (pl := 3) X dX5_gather_70 rfl ?_
          refine g_iload (pc := 71) (pl := 5) X dX5_gather_71 rfl ?_
          refine g_icmp_ne (pc := 73) X 86 dX5_gather_73 (by decide) (by omega) (by omega) (fun c73 => ?_) (fun c73 => ?_)
          · skip
            rw [if_neg (by omega)] at e1
            refine g_iload (pc := 86) (pl := 5) X dX5_gather_86 rfl ?_
            refine g_iload_n (pc := 88) (pl := 3) X dX5_gather_88 rfl ?_
            refine g_isub (pc := 89) X dX5_gather_89 ?_
            refine g_iconst (pc := 90) X dX5_gather_90 ?_
            refine g_iadd (pc := 91) X dX5_gather_91 ?_
            refine g_istore (pc := 92) (lv' := [(6, _), (0, _), (1, _), (2, _), (3, _), (4, _), (5, _)]) X dX5_gather_92 (by decide) rfl ?_
            refine g_iload (pc := 94) (pl := 0) X dX5_gather_94 rfl ?_
            refine g_iload (pc := 96) (pl := 5) X dX5_gather_96 rfl ?_
            refine g_icmp_le (pc := 98) X 116 dX5_gather_98 (by decide) (by omega) (by omega) (fun c98 => ?_) (fun c98 => ?_)
            · skip
              rw [if_neg (by omega)] at e4 e5 e6
              refine g_iinc (pc := 116) (pl := 6) (x := pi) (lv' := [(5, _), (6, _), (0, _), (1, _), (2, _), (3, _), (4, _)]) X dX5_gather_116 rfl (by decide) rfl ?_
              refine g_goto (pc := 119) X 30 dX5_gather_119 (by decide) ?_
              refine G.pick [2, 3, 4, 5, 6, 0] (lv' := [(0, _), (1, _), (2, _), (3, _), (4, _), (5, _)]) rfl ?_
              exact ih30 (p + 1) _ _ _ _ _ _ _ H5 (by omega) (by omega) (by omega) hO hF (Fr.trans (h3.wide (by omega) (by omega)) (hf5.wide (by omega) (by omega)))
            · skip
              rw [if_pos (by omega)] at e4 e5 e6
              refine g_iload (pc := 101) (pl := 0) X dX5_gather_101 rfl ?_
              refine g_istore (pc := 103) (lv' := [(4, _), (6, _), (0, _), (1, _), (2, _), (3, _), (5, _)]) X dX5_gather_103 (by decide) rfl ?_
              refine g_aload_n (pc := 105) (pl := 2) X dX5_gather_105 rfl ?_
              refine g_iload_n (pc := 106) (pl := 5) X dX5_gather_106 rfl ?_
              refine g_putf (pc := 107) X zW_X5_gather_18 hO (by omega) rfl rfl rfl dX5_gather_107 (fun H6 hOn hf6 => ?_)
              replace hFO := hFO.fr hf6 (by omega)
              replace hF := hF.fr hf6 (by omega)
              replace hO : Ob D q 5 [.int (J g1), .int (J (g2 + 1)), .int (J z3), .int (J g4)] H6 := hOn
              clear hOn
              refine g_aload_n (pc := 110) (pl := 2) X dX5_gather_110 rfl ?_
              refine g_iload (pc := 111) (pl := 6) X dX5_gather_111 rfl ?_
              refine g_putf (pc := 113) X zW_X5_gather_21 hO (by omega) rfl rfl rfl dX5_gather_113 (fun H7 hOn hf7 => ?_)
              replace hFO := hFO.fr hf7 (by omega)
              replace hF := hF.fr hf7 (by omega)
              replace hO : Ob D q 5 [.int (J g1), .int (J (g2 + 1)), .int (J z3), .int (J pi)] H7 := hOn
              clear hOn
              refine g_iinc (pc := 116) (pl := 6) (x := pi) (lv' := [(5, _), (4, _), (6, _), (0, _), (1, _), (2, _), (3, _)]) X dX5_gather_116 rfl (by decide) rfl ?_
              refine g_goto (pc := 119) X 30 dX5_gather_119 (by decide) ?_
              refine G.pick [3, 4, 5, 6, 1, 0] (lv' := [(0, _), (1, _), (2, _), (3, _), (4, _), (5, _)]) rfl ?_
              exact ih30 (p + 1) _ _ _ _ _ _ _ H7 (by omega) (by omega) (by omega) hO hF (Fr.trans (h3.wide (by omega) (by omega)) (Fr.trans (hf5.wide (by omega) (by omega)) (Fr.trans (hf6.wide (by omega) (by omega)) (hf7.wide (by omega) (by omega)))))
          · skip
            rw [if_pos (by omega)] at e1
            refine g_aload_n (pc := 76) (pl := 0) X dX5_gather_76 rfl ?_
            refine g_dup (pc := 77) X dX5_gather_77 rfl ?_
            refine g_getf (pc := 78) X zF_X5_gather_9 hO rfl dX5_gather_78 ?_
            refine g_iconst (pc := 81) X dX5_gather_81 ?_
            refine g_iadd (pc := 82) X dX5_gather_82 ?_
            refine g_putf (pc := 83) X zW_X5_gather_9 hO (by omega) rfl rfl rfl dX5_gather_83 (fun H6 hOn hf6 => ?_)
            replace hFO := hFO.fr hf6 (by omega)
            replace hF := hF.fr hf6 (by omega)
            replace hO : Ob D q 5 [.int (J (g1 + 1)), .int (J (g2 + 1)), .int (J g3), .int (J g4)] H6 := hOn
            clear hOn
            refine g_iload (pc := 86) (pl := 5) X dX5_gather_86 rfl ?_
            refine g_iload_n (pc := 88) (pl := 3) X dX5_gather_88 rfl ?_
            refine g_isub (pc := 89) X dX5_gather_89 ?_
            refine g_iconst (pc := 90) X dX5_gather_90 ?_
            refine g_iadd (pc := 91) X dX5_gather_91 ?_
            refine g_istore (pc := 92) (lv' := [(6, _), (0, _), (1, _), (2, _), (3, _), (4, _), (5, _)]) X dX5_gather_92 (by decide) rfl ?_
            refine g_iload (pc := 94) (pl := 0) X dX5_gather_94 rfl ?_
            refine g_iload (pc := 96) (pl := 5) X dX5_gather_96 rfl ?_
            refine g_icmp_le (pc := 98) X 116 dX5_gather_98 (by decide) (by omega) (by omega) (fun c98 => ?_) (fun c98 => ?_)
            · skip
              rw [if_neg (by omega)] at e4 e5 e6
              refine g_iinc (pc := 116) (pl := 6) (x := pi) (lv' := [(5, _), (6, _), (0, _), (1, _), (2, _), (3, _), (4, _)]) X dX5_gather_116 rfl (by decide) rfl ?_
              refine g_goto (pc := 119) X 30 dX5_gather_119 (by decide) ?_
              refine G.pick [2, 3, 4, 5, 6, 0] (lv' := [(0, _), (1, _), (2, _), (3, _), (4, _), (5, _)]) rfl ?_
              exact ih30 (p + 1) _ _ _ _ _ _ _ H6 (by omega) (by omega) (by omega) hO hF (Fr.trans (h3.wide (by omega) (by omega)) (Fr.trans (hf5.wide (by omega) (by omega)) (hf6.wide (by omega) (by omega))))
            · skip
              rw [if_pos (by omega)] at e4 e5 e6
              refine g_iload (pc := 101) (pl := 0) X dX5_gather_101 rfl ?_
              refine g_istore (pc := 103) (lv' := [(4, _), (6, _), (0, _), (1, _), (2, _), (3, _), (5, _)]) X dX5_gather_103 (by decide) rfl ?_
              refine g_aload_n (pc := 105) (pl := 2) X dX5_gather_105 rfl ?_
              refine g_iload_n (pc := 106) (pl := 5) X dX5_gather_106 rfl ?_
              refine g_putf (pc := 107) X zW_X5_gather_18 hO (by omega) rfl rfl rfl dX5_gather_107 (fun H7 hOn hf7 => ?_)
              replace hFO := hFO.fr hf7 (by omega)
              replace hF := hF.fr hf7 (by omega)
              replace hO : Ob D q 5 [.int (J (g1 + 1)), .int (J (g2 + 1)), .int (J z3), .int (J g4)] H7 := hOn
              clear hOn
              refine g_aload_n (pc := 110) (pl := 2) X dX5_gather_110 rfl ?_
              refine g_iload (pc := 111) (pl := 6) X dX5_gather_111 rfl ?_
              refine g_putf (pc := 113) X zW_X5_gather_21 hO (by omega) rfl rfl rfl dX5_gather_113 (fun H8 hOn hf8 => ?_)
              replace hFO := hFO.fr hf8 (by omega)
              replace hF := hF.fr hf8 (by omega)
              replace hO : Ob D q 5 [.int (J (g1 + 1)), .int (J (g2 + 1)), .int (J z3), .int (J pi)] H8 := hOn
              clear hOn
              refine g_iinc (pc := 116) (pl := 6) (x := pi) (lv' := [(5, _), (4, _), (6, _), (0, _), (1, _), (2, _), (3, _)]) X dX5_gather_116 rfl (by decide) rfl ?_
              refine g_goto (pc := 119) X 30 dX5_gather_119 (by decide) ?_
              refine G.pick [3, 4, 5, 6, 1, 0] (lv' := [(0, _), (1, _), (2, _), (3, _), (4, _), (5, _)]) rfl ?_
              exact ih30 (p + 1) _ _ _ _ _ _ _ H8 (by omega) (by omega) (by omega) hO hF (Fr.trans (h3.wide (by omega) (by omega)) (Fr.trans (hf5.wide (by omega) (by omega)) (Fr.trans (hf6.wide (by omega) (by omega)) (Fr.trans (hf7.wide (by omega) (by omega)) (hf8.wide (by omega) (by omega))))))
        · skip
          replace c49 := zb0 c49
          have cp : ¬ ownb f x (p : Int) = true := by unfold ownb; rw [decide_eq_true_eq]; exact c49
          obtain ⟨e1, e2, e3, e4, e5⟩ := sc_no cp
          have e6 := scF_no cp
          refine g_iload (pc := 52) (pl := 5) X dX5_gather_52 rfl ?_
          refine g_iconst (pc := 54) X dX5_gather_54 ?_
          refine g_iadd (pc := 55) X dX5_gather_55 ?_
          refine g_istore_n (pc := 56) (lv' := [(3, _), (0, _), (1, _), (2, _), (4, _), (5, _)]) X dX5_gather_56 (by decide) rfl ?_
          refine g_goto (pc := 57) X 116 dX5_gather_57 (by decide) ?_
          refine g_iinc (pc := 116) (pl := 5) (x := pi) (lv' := [(5, _), (3, _), (0, _), (1, _), (2, _), (4, _)]) X dX5_gather_116 rfl (by decide) rfl ?_
          refine g_goto (pc := 119) X 30 dX5_gather_119 (by decide) ?_
          refine G.pick [2, 3, 4, 1, 5, 0] (lv' := [(0, _), (1, _), (2, _), (3, _), (4, _), (5, _)]) rfl ?_
          exact ih30 (p + 1) _ _ _ _ _ _ _ Hx (by omega) (by omega) (by omega) hO hF (h3.wide (by omega) (by omega))
  refine G.pick [3, 4, 5, 2, 1, 0] (lv' := [(0, _), (1, _), (2, _), (3, _), (4, _), (5, _)]) rfl ?_
  exact hL30 _ 0 _ _ _ _ _ _ _ H4 (Nat.lt_succ_self _) (by omega) ⟨by have := (sc_0 (ownb f x)).2.2.1; omega, (sc_0 (ownb f x)).2.2.2.1.symm, (sc_0 (ownb f x)).1.symm, (sc_0 (ownb f x)).2.1.symm, (sc_0 (ownb f x)).2.2.2.2.2.symm, (sc_0 (ownb f x)).2.2.2.2.1.symm⟩ hO hF (Fr.trans (hf1.wide (by omega) (by omega)) (Fr.trans (hf2.wide (by omega) (by omega)) (Fr.trans (hf3.wide (by omega) (by omega)) (hf4.wide (by omega) (by omega)))))

abbrev rm_X7_look : Room := { frames := 2, cells := 0, slots := 0, locals := 45 }
theorem zW_X7_look_9 : zW RX7 wsX7_look 7 0 9 false (tyX7 0) := ⟨RX7, TX7, 3, tyX7, rfl, by decide +kernel, by decide, by decide +kernel, tyX7_ok, nmX7, rfl, rfl, rfl⟩
theorem zW_X7_look_15 : zW RX7 wsX7_look 7 1 15 false (tyX7 1) := ⟨RX7, TX7, 3, tyX7, rfl, by decide +kernel, by decide, by decide +kernel, tyX7_ok, nmX7, rfl, rfl, rfl⟩
theorem zW_X7_look_18 : zW RX7 wsX7_look 7 2 18 false (tyX7 2) := ⟨RX7, TX7, 3, tyX7, rfl, by decide +kernel, by decide, by decide +kernel, tyX7_ok, nmX7, rfl, rfl, rfl⟩
theorem zF_X7_look_21 : zF RX7 wsX7_look 2 1 21 := ⟨RX2, TX2, 4, rfl, by decide +kernel, by decide, by decide +kernel⟩
theorem zF_X7_look_27 : zF RX7 wsX7_look 6 1 27 := ⟨RX6, TX6, 2, rfl, by decide +kernel, by decide, by decide +kernel⟩
theorem cs_X7_look_32 : zCV RX7 wsX7_look 32 6 yX6_countAlike wsX6_countAlike cX6_countAlike 5 (some .int) rm_X7_look rm_X6_countAlike 3 := ⟨_, _, gX7_look_X6_countAlike, rfl, ⟨by decide +kernel, by decide +kernel, by decide +kernel⟩, ⟨Nat.le_of_ble_eq_true rfl, Nat.le_of_ble_eq_true rfl⟩, rfl, rfl⟩
theorem zF_X7_look_36 : zF RX7 wsX7_look 2 2 36 := ⟨RX2, TX2, 4, rfl, by decide +kernel, by decide, by decide +kernel⟩
theorem zF_X7_look_39 : zF RX7 wsX7_look 2 3 39 := ⟨RX2, TX2, 4, rfl, by decide +kernel, by decide, by decide +kernel⟩
theorem zF_X7_look_18 : zF RX7 wsX7_look 7 2 18 := ⟨RX7, TX7, 3, rfl, by decide +kernel, by decide, by decide +kernel⟩
theorem zF_X7_look_15 : zF RX7 wsX7_look 7 1 15 := ⟨RX7, TX7, 3, rfl, by decide +kernel, by decide, by decide +kernel⟩
set_option maxRecDepth 100000 in
theorem c_X7_look (l : Launch) (D : zD) (base : Nat) (q r x : Nat) (p1 p2 p3 n : Int) (f : Int → Int) (t wl al bl : Int) (w a b : Int → Int) (hq : base ≤ q) (hr : base ≤ r) (hx : base ≤ x) (hqr : q < r ∨ r + 2 ≤ q) (hqx : q < x ∨ x + 7 ≤ q) (hw1 : 1 ≤ wl) (hvl : ∀ i : Int, 0 ≤ i → i < n → 0 ≤ f i ∧ f i ≤ 25) (hvw : ∀ i : Int, 0 ≤ i → i < wl → 0 ≤ w i ∧ w i ≤ 25) (hva : ∀ i : Int, 0 ≤ i → i < al → 0 ≤ a i ∧ a i ≤ 25) (hvb : ∀ i : Int, 0 ≤ i → i < bl → 0 ≤ b i ∧ b i ≤ 25) : Ct l yX7_look wsX7_look rm_X7_look D base [.ref q, .ref r, .ref x] (fun H => Ob D q 7 [.int (J p1), .int (J p2), .int (J p3)] H ∧ RowAt D r 60 n f H ∧ NoteAt D x t wl al bl w a b H) (PV (fun H H1 => Ob D q 7 [.int (J (best (okS n f wl w) (lkS n f wl al bl a b) n.toNat).1), .int (J (best (okS n f wl w) (lkS n f wl al bl a b) n.toNat).2.1), .int (J (best (okS n f wl w) (lkS n f wl al bl a b) n.toNat).2.2)] H1 ∧ Fr (Iv q (q + 1)) 0 H H1)) := by
  refine Ct.of (own := RX7) (cc := cX7_look) (maxL := 6) (by decide +kernel) rfl (Nat.le_of_ble_eq_true rfl) rfl ?_
  intro K H X R hH hnm hP
  show G K 0 0 H 0 [(0, .ref q), (1, .ref r), (2, .ref x)] []
  obtain ⟨hO, hF, ⟨hNO, hW, hA, hB⟩⟩ := hP
  have hbd := hF.bd
  have hbw := hW.bd
  have hba := hA.bd
  have hbb := hB.bd
  have hv : ∀ i : Int, 0 ≤ i → i < n → rg (f i) := fun i h0 h1 => by have := hvl i h0 h1; omega
  have hv2 : ∀ i : Int, 0 ≤ i → i < wl → rg (w i) := fun i h0 h1 => by have := hvw i h0 h1; omega
  have hv3 : ∀ i : Int, 0 ≤ i → i < al → rg (a i) := fun i h0 h1 => by have := hva i h0 h1; omega
  have hv4 : ∀ i : Int, 0 ≤ i → i < bl → rg (b i) := fun i h0 h1 => by have := hvb i h0 h1; omega
  have hlk : ∀ i, 0 ≤ lkS n f wl al bl a b i ∧ lkS n f wl al bl a b i ≤ 1000 := fun i => by have h1 := alk_bd n f (i - 1) (-1) a (m := al) (by omega); have h2 := alk_bd n f (i + wl) 1 b (m := bl) (by omega); unfold lkS; omega
  refine g_aload_n (pc := 0) (pl := 0) X dX7_look_0 rfl ?_
  refine g_bipush (pc := 1) X dX7_look_1 (by decide +kernel) ?_
  refine g_putf (pc := 3) X zW_X7_look_9 hO (by omega) rfl rfl rfl dX7_look_3 (fun H1 hOn hf1 => ?_)
  replace hNO := hNO.fr hf1 (by omega)
  replace hF := hF.fr hf1 (by omega)
  replace hW := hW.fr hf1 (by omega)
  replace hA := hA.fr hf1 (by omega)
  replace hB := hB.fr hf1 (by omega)
  replace hO : Ob D q 7 [.int (J (-6)), .int (J p2), .int (J p3)] H1 := hOn
  clear hOn
  refine g_aload_n (pc := 6) (pl := 0) X dX7_look_6 rfl ?_
  refine g_bipush (pc := 7) X dX7_look_7 (by decide +kernel) ?_
  refine g_putf (pc := 9) X zW_X7_look_15 hO (by omega) rfl rfl rfl dX7_look_9 (fun H2 hOn hf2 => ?_)
  replace hNO := hNO.fr hf2 (by omega)
  replace hF := hF.fr hf2 (by omega)
  replace hW := hW.fr hf2 (by omega)
  replace hA := hA.fr hf2 (by omega)
  replace hB := hB.fr hf2 (by omega)
  replace hO : Ob D q 7 [.int (J (-6)), .int (J (-6)), .int (J p3)] H2 := hOn
  clear hOn
  refine g_aload_n (pc := 12) (pl := 0) X dX7_look_12 rfl ?_
  refine g_iconst (pc := 13) X dX7_look_13 ?_
  refine g_putf (pc := 14) X zW_X7_look_18 hO (by omega) rfl rfl rfl dX7_look_14 (fun H3 hOn hf3 => ?_)
  replace hNO := hNO.fr hf3 (by omega)
  replace hF := hF.fr hf3 (by omega)
  replace hW := hW.fr hf3 (by omega)
  replace hA := hA.fr hf3 (by omega)
  replace hB := hB.fr hf3 (by omega)
  replace hO : Ob D q 7 [.int (J (-6)), .int (J (-6)), .int (J 0)] H3 := hOn
  clear hOn
  refine g_aload_n (pc := 17) (pl := 2) X dX7_look_17 rfl ?_
  refine g_getf (pc := 18) X zF_X7_look_21 hNO rfl dX7_look_18 ?_
  obtain ⟨hWO, -⟩ := id hW
  refine g_getf (pc := 21) X zF_X7_look_27 hWO rfl dX7_look_21 ?_
  refine g_istore_n (pc := 24) (lv' := [(3, _), (0, _), (1, _), (2, _)]) X dX7_look_24 (by decide) rfl ?_
  refine g_iconst (pc := 25) X dX7_look_25 ?_
  refine g_istore (pc := 26) (lv' := [(4, _), (3, _), (0, _), (1, _), (2, _)]) X dX7_look_26 (by decide) rfl ?_
  have hL28 : ∀ (fu : Nat) (p : Nat) (pi g1 g2 g3 : Int) (Hx : Heap), n.toNat + 1 - p < fu → ((p : Int) ≤ n ∧ pi = p) → (g1 = (best (okS n f wl w) (lkS n f wl al bl a b) p).1 ∧ g2 = (best (okS n f wl w) (lkS n f wl al bl a b) p).2.1 ∧ g3 = (best (okS n f wl w) (lkS n f wl al bl a b) p).2.2) → (Ob D q 7 [.int (J g1), .int (J g2), .int (J g3)] Hx) → (RowAt D r 60 n f Hx) → (Ob D x 2 [.int (J t), .ref (x + 1), .ref (x + 3), .ref (x + 5)] Hx) → (RowAt D (x + 1) 60 wl w Hx) → (RowAt D (x + 3) 8 al a Hx) → (RowAt D (x + 5) 8 bl b Hx) → (Fr (Iv q (q + 1)) 0 H Hx) → G K 0 0 Hx 28 [(0, .ref q), (1, .ref r), (2, .ref x), (3, .int (J wl)), (4, .int (J pi))] [] := by
    intro fu
    induction fu with
    | zero => intro p pi g1 g2 g3 Hx hm; exact absurd hm (Nat.not_lt_zero _)
    | succ fu ih28 =>
      intro p pi g1 g2 g3 Hx hm h1 hv0 hO hF hNO hW hA hB h3
      have hbs := best_bd (okS n f wl w) (lkS n f wl al bl a b) hlk p
      refine g_iload (pc := 28) (pl := 4) X dX7_look_28 rfl ?_
      refine g_iload_n (pc := 30) (pl := 3) X dX7_look_30 rfl ?_
      refine g_iadd (pc := 31) X dX7_look_31 ?_
      refine g_aload_n (pc := 32) (pl := 1) X dX7_look_32 rfl ?_
      obtain ⟨hFO, -⟩ := id hF
      refine g_getf (pc := 33) X zF_X7_look_27 hFO rfl dX7_look_33 ?_
      refine g_icmp_gt (pc := 36) X 127 dX7_look_36 (by decide) (by omega) (by omega) (fun c36 => ?_) (fun c36 => ?_)
      · skip
        refine g_vret (pc := 127) X R hH dX7_look_127 ?_
        have es := best_stop (ok := okS n f wl w) (lk := lkS n f wl al bl a b) (k := p) n.toNat (by omega) (fun i h0 h1 q => by have := okS_in q hw1 (fun i a b => (hvw i a b).1); omega)
        rw [es]
        obtain ⟨rfl, rfl, rfl⟩ := hv0
        exact ⟨hO, h3⟩
      · skip
        refine g_aload_n (pc := 39) (pl := 1) X dX7_look_39 rfl ?_
        refine g_aload_n (pc := 40) (pl := 2) X dX7_look_40 rfl ?_
        refine g_getf (pc := 41) X zF_X7_look_21 hNO rfl dX7_look_41 ?_
        refine g_iload (pc := 44) (pl := 4) X dX7_look_44 rfl ?_
        refine g_iconst (pc := 46) X dX7_look_46 ?_
        obtain ⟨hFO, -⟩ := id hF
        refine gVi (pc := 47) (n2 := 0) (k2 := 0) X cs_X7_look_32 (c_X6_countAlike (zl K) D base r 60 (x + 1) 60 n wl f w pi 1 (by omega) (by omega) (by decide) (by omega) hv hv2) rfl hFO (by omega) ⟨hF, hW⟩ rfl ⟨Nat.le_of_ble_eq_true rfl, Nat.le_of_ble_eq_true rfl⟩ dX7_look_47 (Nat.le_of_ble_eq_true rfl) rfl rfl (fun v47 H4 hp47 hs47 => ?_)
        obtain ⟨rfl, q0, q1, q2, q3⟩ := hp47
        have ev := alk_of q0 q1 q2 q3
        subst ev
        clear q0 q1 q2 q3
        have hk47 := alk_bd n f pi 1 w (m := wl) (by omega)
        refine g_iload_n (pc := 50) (pl := 3) X dX7_look_50 rfl ?_
        refine g_icmp_ne (pc := 51) X 121 dX7_look_51 (by decide) (by omega) (by omega) (fun c51 => ?_) (fun c51 => ?_)
        · skip
          have cp : ¬ okS n f wl w (p : Int) = true := by unfold okS; rw [decide_eq_true_eq, ← h1.2]; exact c51
          have e0 := best_no (lk := lkS n f wl al bl a b) cp
          rw [← e0] at hv0
          refine g_iinc (pc := 121) (pl := 4) (x := pi) (lv' := [(4, _), (0, _), (1, _), (2, _), (3, _)]) X dX7_look_121 rfl (by decide) rfl ?_
          refine g_goto (pc := 124) X 28 dX7_look_124 (by decide) ?_
          refine G.pick [1, 2, 3, 4, 0] (lv' := [(0, _), (1, _), (2, _), (3, _), (4, _)]) rfl ?_
          exact ih28 (p + 1) _ _ _ _ Hx (by omega) (by omega) (by omega) hO hF hNO hW hA hB (h3.wide (by omega) (by omega))
        · skip
          have cp : okS n f wl w (p : Int) = true := by unfold okS; rw [decide_eq_true_eq, ← h1.2]; exact c51
          obtain ⟨e1, e2, e3⟩ := best_yes (lk := lkS n f wl al bl a b) cp
          refine g_aload_n (pc := 54) (pl := 1) X dX7_look_54 rfl ?_
          refine g_aload_n (pc := 55) (pl := 2) X dX7_look_55 rfl ?_
          refine g_getf (pc := 56) X zF_X7_look_36 hNO rfl dX7_look_56 ?_
          refine g_iload (pc := 59) (pl := 4) X dX7_look_59 rfl ?_
          refine g_iconst (pc := 61) X dX7_look_61 ?_
          refine g_isub (pc := 62) X dX7_look_62 ?_
          refine g_iconst (pc := 63) X dX7_look_63 ?_
          obtain ⟨hFO, -⟩ := id hF
          refine gVi (pc := 64) (n2 := 0) (k2 := 0) X cs_X7_look_32 (c_X6_countAlike (zl K) D base r 60 (x + 3) 8 n al f a (pi - 1) (-1) (by omega) (by omega) (by decide) (by omega) hv hv3) rfl hFO (by omega) ⟨hF, hA⟩ rfl ⟨Nat.le_of_ble_eq_true rfl, Nat.le_of_ble_eq_true rfl⟩ dX7_look_64 (Nat.le_of_ble_eq_true rfl) rfl rfl (fun v64 H4 hp64 hs64 => ?_)
          obtain ⟨rfl, q0, q1, q2, q3⟩ := hp64
          have ev := alk_of q0 q1 q2 q3
          subst ev
          clear q0 q1 q2 q3
          have hk64 := alk_bd n f (pi - 1) (-1) a (m := al) (by omega)
          refine g_aload_n (pc := 67) (pl := 1) X dX7_look_67 rfl ?_
          refine g_aload_n (pc := 68) (pl := 2) X dX7_look_68 rfl ?_
          refine g_getf (pc := 69) X zF_X7_look_39 hNO rfl dX7_look_69 ?_
          refine g_iload (pc := 72) (pl := 4) X dX7_look_72 rfl ?_
          refine g_iload_n (pc := 74) (pl := 3) X dX7_look_74 rfl ?_
          refine g_iadd (pc := 75) X dX7_look_75 ?_
          refine g_iconst (pc := 76) X dX7_look_76 ?_
          obtain ⟨hFO, -⟩ := id hF
          refine gVi (pc := 77) (n2 := 0) (k2 := 0) X cs_X7_look_32 (c_X6_countAlike (zl K) D base r 60 (x + 5) 8 n bl f b (pi + wl) 1 (by omega) (by omega) (by decide) (by omega) hv hv4) rfl hFO (by omega) ⟨hF, hB⟩ rfl ⟨Nat.le_of_ble_eq_true rfl, Nat.le_of_ble_eq_true rfl⟩ dX7_look_77 (Nat.le_of_ble_eq_true rfl) rfl rfl (fun v77 H4 hp77 hs77 => ?_)
          obtain ⟨rfl, q0, q1, q2, q3⟩ := hp77
          have ev := alk_of q0 q1 q2 q3
          subst ev
          clear q0 q1 q2 q3
          have hk77 := alk_bd n f (pi + wl) 1 b (m := bl) (by omega)
          refine g_iadd (pc := 80) X dX7_look_80 ?_
          have el : lkS n f wl al bl a b (p : Int) = alk n f (pi - 1) (-1) a al + alk n f (pi + wl) 1 b bl := by unfold lkS; rw [h1.2]
          refine g_istore (pc := 81) (lv' := [(5, _), (0, _), (1, _), (2, _), (3, _), (4, _)]) X dX7_look_81 (by decide) rfl ?_
          refine g_aload_n (pc := 83) (pl := 1) X dX7_look_83 rfl ?_
          refine g_getf (pc := 84) X zF_X7_look_18 hO rfl dX7_look_84 ?_
          refine g_if_eq (pc := 87) X 99 dX7_look_87 (by decide) (by omega) (fun c87 => ?_) (fun c87 => ?_)
          · skip
            rw [if_pos (by omega)] at e1 e2
            refine g_aload_n (pc := 99) (pl := 1) X dX7_look_99 rfl ?_
            refine g_iload (pc := 100) (pl := 5) X dX7_look_100 rfl ?_
            refine g_putf (pc := 102) X zW_X7_look_9 hO (by omega) rfl rfl rfl dX7_look_102 (fun H4 hOn hf4 => ?_)
            replace hNO := hNO.fr hf4 (by omega)
            replace hFO := hFO.fr hf4 (by omega)
            replace hF := hF.fr hf4 (by omega)
            replace hW := hW.fr hf4 (by omega)
            replace hA := hA.fr hf4 (by omega)
            replace hB := hB.fr hf4 (by omega)
            replace hO : Ob D q 7 [.int (J pi), .int (J g2), .int (J g3)] H4 := hOn
            clear hOn
            refine g_aload_n (pc := 105) (pl := 1) X dX7_look_105 rfl ?_
            refine g_iload (pc := 106) (pl := 0) X dX7_look_106 rfl ?_
            refine g_putf (pc := 108) X zW_X7_look_15 hO (by omega) rfl rfl rfl dX7_look_108 (fun H5 hOn hf5 => ?_)
            replace hNO := hNO.fr hf5 (by omega)
            replace hFO := hFO.fr hf5 (by omega)
            replace hF := hF.fr hf5 (by omega)
            replace hW := hW.fr hf5 (by omega)
            replace hA := hA.fr hf5 (by omega)
            replace hB := hB.fr hf5 (by omega)
            replace hO : Ob D q 7 [.int (J pi), .int (J ((alk n f (pi - 1) (-1) a al) + (alk n f (pi + wl) 1 b bl))), .int (J g3)] H5 := hOn
            clear hOn
            refine g_aload_n (pc := 111) (pl := 1) X dX7_look_111 rfl ?_
            refine g_dup (pc := 112) X dX7_look_112 rfl ?_
            refine g_getf (pc := 113) X zF_X7_look_18 hO rfl dX7_look_113 ?_
            refine g_iconst (pc := 116) X dX7_look_116 ?_
            refine g_iadd (pc := 117) X dX7_look_117 ?_
            refine g_putf (pc := 118) X zW_X7_look_18 hO (by omega) rfl rfl rfl dX7_look_118 (fun H6 hOn hf6 => ?_)
            replace hNO := hNO.fr hf6 (by omega)
            replace hFO := hFO.fr hf6 (by omega)
            replace hF := hF.fr hf6 (by omega)
            replace hW := hW.fr hf6 (by omega)
            replace hA := hA.fr hf6 (by omega)
            replace hB := hB.fr hf6 (by omega)
            replace hO : Ob D q 7 [.int (J pi), .int (J ((alk n f (pi - 1) (-1) a al) + (alk n f (pi + wl) 1 b bl))), .int (J (g3 + 1))] H6 := hOn
            clear hOn
            refine g_iinc (pc := 121) (pl := 5) (x := pi) (lv' := [(4, _), (5, _), (0, _), (1, _), (2, _), (3, _)]) X dX7_look_121 rfl (by decide) rfl ?_
            refine g_goto (pc := 124) X 28 dX7_look_124 (by decide) ?_
            refine G.pick [2, 3, 4, 5, 0] (lv' := [(0, _), (1, _), (2, _), (3, _), (4, _)]) rfl ?_
            exact ih28 (p + 1) _ _ _ _ H6 (by omega) (by omega) (by omega) hO hF hNO hW hA hB (Fr.trans (h3.wide (by omega) (by omega)) (Fr.trans (hf4.wide (by omega) (by omega)) (Fr.trans (hf5.wide (by omega) (by omega)) (hf6.wide (by omega) (by omega)))))
          · skip
            refine g_iload (pc := 90) (pl := 0) X dX7_look_90 rfl ?_
            refine g_aload_n (pc := 92) (pl := 1) X dX7_look_92 rfl ?_
            refine g_getf (pc := 93) X zF_X7_look_15 hO rfl dX7_look_93 ?_
            refine g_icmp_le (pc := 96) X 111 dX7_look_96 (by decide) (by omega) (by omega) (fun c96 => ?_) (fun c96 => ?_)
            · skip
              rw [if_neg (by omega)] at e1 e2
              refine g_aload_n (pc := 111) (pl := 1) X dX7_look_111 rfl ?_
              refine g_dup (pc := 112) X dX7_look_112 rfl ?_
              refine g_getf (pc := 113) X zF_X7_look_18 hO rfl dX7_look_113 ?_
              refine g_iconst (pc := 116) X dX7_look_116 ?_
              refine g_iadd (pc := 117) X dX7_look_117 ?_
              refine g_putf (pc := 118) X zW_X7_look_18 hO (by omega) rfl rfl rfl dX7_look_118 (fun H4 hOn hf4 => ?_)
              replace hNO := hNO.fr hf4 (by omega)
              replace hFO := hFO.fr hf4 (by omega)
              replace hF := hF.fr hf4 (by omega)
              replace hW := hW.fr hf4 (by omega)
              replace hA := hA.fr hf4 (by omega)
              replace hB := hB.fr hf4 (by omega)
              replace hO : Ob D q 7 [.int (J g1), .int (J g2), .int (J (g3 + 1))] H4 := hOn
              clear hOn
              refine g_iinc (pc := 121) (pl := 5) (x := pi) (lv' := [(4, _), (5, _), (0, _), (1, _), (2, _), (3, _)]) X dX7_look_121 rfl (by decide) rfl ?_
              refine g_goto (pc := 124) X 28 dX7_look_124 (by decide) ?_
              refine G.pick [2, 3, 4, 5, 0] (lv' := [(0, _), (1, _), (2, _), (3, _), (4, _)]) rfl ?_
              exact ih28 (p + 1) _ _ _ _ H4 (by omega) (by omega) (by omega) hO hF hNO hW hA hB (Fr.trans (h3.wide (by omega) (by omega)) (hf4.wide (by omega) (by omega)))
            · skip
              rw [if_pos (by omega)] at e1 e2
              refine g_aload_n (pc := 99) (pl := 1) X dX7_look_99 rfl ?_
              refine g_iload (pc := 100) (pl := 5) X dX7_look_100 rfl ?_
              refine g_putf (pc := 102) X zW_X7_look_9 hO (by omega) rfl rfl rfl dX7_look_102 (fun H4 hOn hf4 => ?_)
              replace hNO := hNO.fr hf4 (by omega)
              replace hFO := hFO.fr hf4 (by omega)
              replace hF := hF.fr hf4 (by omega)
              replace hW := hW.fr hf4 (by omega)
              replace hA := hA.fr hf4 (by omega)
              replace hB := hB.fr hf4 (by omega)
              replace hO : Ob D q 7 [.int (J pi), .int (J g2), .int (J g3)] H4 := hOn
              clear hOn
              refine g_aload_n (pc := 105) (pl := 1) X dX7_look_105 rfl ?_
              refine g_iload (pc := 106) (pl := 0) X dX7_look_106 rfl ?_
              refine g_putf (pc := 108) X zW_X7_look_15 hO (by omega) rfl rfl rfl dX7_look_108 (fun H5 hOn hf5 => ?_)
              replace hNO := hNO.fr hf5 (by omega)
              replace hFO := hFO.fr hf5 (by omega)
              replace hF := hF.fr hf5 (by omega)
              replace hW := hW.fr hf5 (by omega)
              replace hA := hA.fr hf5 (by omega)
              replace hB := hB.fr hf5 (by omega)
              replace hO : Ob D q 7 [.int (J pi), .int (J ((alk n f (pi - 1) (-1) a al) + (alk n f (pi + wl) 1 b bl))), .int (J g3)] H5 := hOn
              clear hOn
              refine g_aload_n (pc := 111) (pl := 1) X dX7_look_111 rfl ?_
              refine g_dup (pc := 112) X dX7_look_112 rfl ?_
              refine g_getf (pc := 113) X zF_X7_look_18 hO rfl dX7_look_113 ?_
              refine g_iconst (pc := 116) X dX7_look_116 ?_
              refine g_iadd (pc := 117) X dX7_look_117 ?_
              refine g_putf (pc := 118) X zW_X7_look_18 hO (by omega) rfl rfl rfl dX7_look_118 (fun H6 hOn hf6 => ?_)
              replace hNO := hNO.fr hf6 (by omega)
              replace hFO := hFO.fr hf6 (by omega)
              replace hF := hF.fr hf6 (by omega)
              replace hW := hW.fr hf6 (by omega)
              replace hA := hA.fr hf6 (by omega)
              replace hB := hB.fr hf6 (by omega)
              replace hO : Ob D q 7 [.int (J pi), .int (J ((alk n f (pi - 1) (-1) a al) + (alk n f (pi + wl) 1 b bl))), .int (J (g3 + 1))] H6 := hOn
              clear hOn
              refine g_iinc (pc := 121) (pl := 5) (x := pi) (lv' := [(4, _), (5, _), (0, _), (1, _), (2, _), (3, _)]) X dX7_look_121 rfl (by decide) rfl ?_
              refine g_goto (pc := 124) X 28 dX7_look_124 (by decide) ?_
              refine G.pick [2, 3, 4, 5, 0] (lv' := [(0, _), (1, _), (2, _), (3, _), (4, _)]) rfl ?_
              exact ih28 (p + 1) _ _ _ _ H6 (by omega) (by omega) (by omega) hO hF hNO hW hA hB (Fr.trans (h3.wide (by omega) (by omega)) (Fr.trans (hf4.wide (by omega) (by omega)) (Fr.trans (hf5.wide (by omega) (by omega)) (hf6.wide (by omega) (by omega)))))
  refine G.pick [2, 3, 4, 1, 0] (lv' := [(0, _), (1, _), (2, _), (3, _), (4, _)]) rfl ?_
  exact hL28 _ 0 _ _ _ _ H3 (Nat.lt_succ_self _) (by omega) ⟨rfl, rfl, rfl⟩ hO hF hNO hW hA hB (Fr.trans (hf1.wide (by omega) (by omega)) (Fr.trans (hf2.wide (by omega) (by omega)) (hf3.wide (by omega) (by omega))))
end
section
/-! a page: its state is laid flat, as one function of whole numbers: 0 letters, 1 notes, 2 to 4 settings, 5 on letters, 65 on owners, 125 + 80 i on note i: whose reply, words, ahead, behind -/
abbrev LT (g : Int → Int) : Int → Int := fun i => g (5 + i)
abbrev OW (g : Int → Int) : Int → Int := fun i => g (65 + i)
/-- what a note's cells hold of note i of the state -/
def NoteIs (g : Int → Int) (i t wl al bl : Int) (w a b : Int → Int) : Prop :=
  t = g (125 + 80 * i) ∧ (t = -6 → wl = g (126 + 80 * i) ∧ al = g (187 + 80 * i) ∧ bl = g (196 + 80 * i) ∧ (∀ j : Int, 0 ≤ j → j < wl → w j = g (127 + 80 * i + j)) ∧ (∀ j : Int, 0 ≤ j → j < al → a j = g (188 + 80 * i + j)) ∧ (∀ j : Int, 0 ≤ j → j < bl → b j = g (197 + 80 * i + j)))
/-- one cell of the row of notes -/
def NtAt (D : zD) (g : Int → Int) (i : Int) (q : Nat) (H : Heap) : Prop :=
  ∃ (t wl al bl : Int) (w a b : Int → Int), NoteAt D q t wl al bl w a b H ∧ rg t ∧ (i < g 1 → NoteIs g i t wl al bl w a b)
/-- where the notes stand: the row's places in some order -/
def PgI (pi : Int → Nat) : Prop := (∀ i : Int, 0 ≤ i → i < 16 → pi i < 16) ∧ ∀ i j : Int, 0 ≤ i → i < 16 → 0 ≤ j → j < 16 → pi i = pi j → i = j
def PgN (D : zD) (q : Nat) (g : Int → Int) (H : Heap) : Prop :=
  ∃ pi : Int → Nat, Ra D (q + 7) 2 16 (fun i => some (q + 9 + 7 * pi i)) H ∧ PgI pi ∧ ∀ i : Int, 0 ≤ i → i < 16 → NtAt D g i (q + 9 + 7 * pi i) H
def PgP (D : zD) (q : Nat) (H : Heap) : Prop := ∃ a b c d : Int, Ob D (q + 8) 5 [.int (J a), .int (J b), .int (J c), .int (J d)] H
def PgO (D : zD) (q : Nat) (k : Int) (H : Heap) : Prop := Ob D q 4 [.ref (q + 1), .ref (q + 3), .ref (q + 5), .ref (q + 7), .int (J k), .ref (q + 8)] H
def PageAt (D : zD) (q : Nat) (g : Int → Int) (H : Heap) : Prop :=
  PgO D q (g 1) H ∧ RowAt D (q + 1) 3 3 (fun i => g (2 + i)) H ∧ RowAt D (q + 3) 60 (g 0) (LT g) H ∧ RowAt D (q + 5) 60 (g 0) (OW g) H ∧ PgN D q g H ∧ PgP D q H ∧ 0 ≤ g 1 ∧ g 1 ≤ 16
theorem NtAt.fr {D : zD} {g : Int → Int} {i : Int} {q x y d : Nat} {H H' : Heap} (h : NtAt D g i q H) (fr : Fr (Iv x y) d H H') (e : q + 7 ≤ x ∨ y ≤ q) : NtAt D g i q H' := by
  obtain ⟨t, wl, al, bl, w, a, b, h1, h2⟩ := h
  exact ⟨t, wl, al, bl, w, a, b, h1.fr fr e, h2⟩
theorem PgN.fr {D : zD} {q x y d : Nat} {g : Int → Int} {H H' : Heap} (h : PgN D q g H) (fr : Fr (Iv x y) d H H') (e : q + 121 ≤ x ∨ y ≤ q + 7 ∨ (q + 8 ≤ x ∧ y ≤ q + 9)) : PgN D q g H' := by
  obtain ⟨pi, h1, h2, h3⟩ := h
  exact ⟨pi, h1.fr fr (by omega), h2, fun i h0 h4 => (h3 i h0 h4).fr fr (by have := h2.1 i h0 h4; omega)⟩
theorem PgP.fr {D : zD} {q x y d : Nat} {H H' : Heap} (h : PgP D q H) (fr : Fr (Iv x y) d H H') (e : q + 9 ≤ x ∨ y ≤ q + 8) : PgP D q H' := by
  obtain ⟨a, b, c, d, h⟩ := h
  exact ⟨a, b, c, d, Ob.fr h fr (by omega)⟩
theorem PgO.fr {D : zD} {q x y d : Nat} {k : Int} {H H' : Heap} (h : PgO D q k H) (fr : Fr (Iv x y) d H H') (e : q + 1 ≤ x ∨ y ≤ q) : PgO D q k H' := Ob.fr h fr (by omega)
theorem PageAt.fr {D : zD} {q x y d : Nat} {g : Int → Int} {H H' : Heap} (h : PageAt D q g H) (fr : Fr (Iv x y) d H H') (e : q + 121 ≤ x ∨ y ≤ q) : PageAt D q g H' := by
  obtain ⟨h1, h2, h3, h4, h5, h6, h7⟩ := h
  exact ⟨h1.fr fr (by omega), h2.fr fr (by omega), h3.fr fr (by omega), h4.fr fr (by omega), h5.fr fr (by omega), h6.fr fr (by omega), h7⟩
theorem PageAt.lt {D : zD} {q : Nat} {g : Int → Int} {H : Heap} (h : PageAt D q g H) : q + 8 < H.size := by
  obtain ⟨h1, h2, h3, h4, h5, ⟨a, b, c, d, h6⟩, h7⟩ := h
  exact h6.lt
/-- two states that hold the same as far as it counts -/
def NEq (g g' : Int → Int) (i : Int) : Prop := g (125 + 80 * i) = g' (125 + 80 * i) ∧ (g (125 + 80 * i) = -6 → g (126 + 80 * i) = g' (126 + 80 * i) ∧ g (187 + 80 * i) = g' (187 + 80 * i) ∧ g (196 + 80 * i) = g' (196 + 80 * i) ∧ (∀ j : Int, 0 ≤ j → j < g (126 + 80 * i) → g (127 + 80 * i + j) = g' (127 + 80 * i + j)) ∧ (∀ j : Int, 0 ≤ j → j < g (187 + 80 * i) → g (188 + 80 * i + j) = g' (188 + 80 * i + j)) ∧ (∀ j : Int, 0 ≤ j → j < g (196 + 80 * i) → g (197 + 80 * i + j) = g' (197 + 80 * i + j)))
def MEq (g g' : Int → Int) : Prop := (∀ j : Int, 0 ≤ j → j < 5 → g j = g' j) ∧ (∀ i : Int, 0 ≤ i → i < g 0 → g (5 + i) = g' (5 + i) ∧ g (65 + i) = g' (65 + i)) ∧ ∀ i : Int, 0 ≤ i → i < g 1 → NEq g g' i
theorem NEq.refl (g : Int → Int) (i : Int) : NEq g g i := ⟨rfl, fun _ => ⟨rfl, rfl, rfl, fun _ _ _ => rfl, fun _ _ _ => rfl, fun _ _ _ => rfl⟩⟩
theorem MEq.refl (g : Int → Int) : MEq g g := ⟨fun _ _ _ => rfl, fun _ _ _ => ⟨rfl, rfl⟩, fun i _ _ => NEq.refl g i⟩
theorem NEq.symm {g g' : Int → Int} {i : Int} (h : NEq g g' i) : NEq g' g i := by
  refine ⟨h.1.symm, fun e => ?_⟩
  obtain ⟨h1, h2, h3, h4, h5, h6⟩ := h.2 (by rw [h.1]; exact e)
  exact ⟨h1.symm, h2.symm, h3.symm, fun j a b => (h4 j a (by rw [h1]; exact b)).symm, fun j a b => (h5 j a (by rw [h2]; exact b)).symm, fun j a b => (h6 j a (by rw [h3]; exact b)).symm⟩
theorem NEq.trans {g g' g2 : Int → Int} {i : Int} (h : NEq g g' i) (h' : NEq g' g2 i) : NEq g g2 i := by
  refine ⟨h.1.trans h'.1, fun e => ?_⟩
  obtain ⟨h1, h2, h3, h4, h5, h6⟩ := h.2 e
  obtain ⟨k1, k2, k3, k4, k5, k6⟩ := h'.2 (by rw [← h.1]; exact e)
  exact ⟨h1.trans k1, h2.trans k2, h3.trans k3, fun j a b => (h4 j a b).trans (k4 j a (by rw [← h1]; exact b)), fun j a b => (h5 j a b).trans (k5 j a (by rw [← h2]; exact b)), fun j a b => (h6 j a b).trans (k6 j a (by rw [← h3]; exact b))⟩
theorem MEq.symm {g g' : Int → Int} (h : MEq g g') : MEq g' g := by
  have e0 := h.1 0 (by omega) (by omega)
  have e1 := h.1 1 (by omega) (by omega)
  exact ⟨fun j a b => (h.1 j a b).symm, fun i a b => ⟨(h.2.1 i a (by omega)).1.symm, (h.2.1 i a (by omega)).2.symm⟩, fun i a b => (h.2.2 i a (by omega)).symm⟩
theorem MEq.trans {g g' g2 : Int → Int} (h : MEq g g') (h' : MEq g' g2) : MEq g g2 := by
  have e0 := h.1 0 (by omega) (by omega)
  have e1 := h.1 1 (by omega) (by omega)
  exact ⟨fun j a b => (h.1 j a b).trans (h'.1 j a b), fun i a b => ⟨(h.2.1 i a b).1.trans (h'.2.1 i a (by omega)).1, (h.2.1 i a b).2.trans (h'.2.1 i a (by omega)).2⟩, fun i a b => (h.2.2 i a b).trans (h'.2.2 i a (by omega))⟩
theorem NoteIs.congr {g g' : Int → Int} {i t wl al bl : Int} {w a b : Int → Int} (h : NoteIs g i t wl al bl w a b) (e : NEq g g' i) : NoteIs g' i t wl al bl w a b := by
  refine ⟨h.1.trans e.1, fun q => ?_⟩
  obtain ⟨h1, h2, h3, h4, h5, h6⟩ := h.2 q
  obtain ⟨e1, e2, e3, e4, e5, e6⟩ := e.2 (by rw [← h.1]; exact q)
  exact ⟨h1.trans e1, h2.trans e2, h3.trans e3, fun j a b => (h4 j a b).trans (e4 j a (by rw [← h1]; exact b)), fun j a b => (h5 j a b).trans (e5 j a (by rw [← h2]; exact b)), fun j a b => (h6 j a b).trans (e6 j a (by rw [← h3]; exact b))⟩
theorem NtAt.congr {D : zD} {g g' : Int → Int} {i : Int} {q : Nat} {H : Heap} (h : NtAt D g i q H) (e1 : g 1 = g' 1) (e : i < g 1 → NEq g g' i) : NtAt D g' i q H := by
  obtain ⟨t, wl, al, bl, w, a, b, h1, h2, h3⟩ := h
  exact ⟨t, wl, al, bl, w, a, b, h1, h2, fun q => (h3 (by omega)).congr (e (by omega))⟩
theorem PgN.congr {D : zD} {q : Nat} {g g' : Int → Int} {H : Heap} (h : PgN D q g H) (e1 : g 1 = g' 1) (e : ∀ i : Int, 0 ≤ i → i < g 1 → NEq g g' i) : PgN D q g' H := by
  obtain ⟨pi, h1, h2, h3⟩ := h
  exact ⟨pi, h1, h2, fun i h0 h4 => (h3 i h0 h4).congr e1 (fun q => e i h0 q)⟩
theorem NEq.of {g g' : Int → Int} {i : Int} (h0 : 0 ≤ i) (h : ∀ j : Int, 125 ≤ j → g j = g' j) : NEq g g' i :=
  ⟨h _ (by omega), fun _ => ⟨h _ (by omega), h _ (by omega), h _ (by omega), fun j a _ => h _ (by omega), fun j a _ => h _ (by omega), fun j a _ => h _ (by omega)⟩⟩
theorem PgN.hi {D : zD} {q : Nat} {g g' : Int → Int} {H : Heap} (h : PgN D q g H) (e1 : g 1 = g' 1) (e : ∀ j : Int, 125 ≤ j → g j = g' j) : PgN D q g' H := h.congr e1 (fun i h0 _ => NEq.of h0 e)
theorem PageAt.congr {D : zD} {q : Nat} {g g' : Int → Int} {H : Heap} (h : PageAt D q g H) (e : MEq g g') : PageAt D q g' H := by
  obtain ⟨h1, h2, h3, h4, h5, h6, h7⟩ := h
  have e0 := e.1 0 (by omega) (by omega)
  have e1 := e.1 1 (by omega) (by omega)
  refine ⟨by rw [← e1]; exact h1, h2.congr (fun i a b => e.1 _ (by omega) (by omega)), ?_, ?_, h5.congr e1 e.2.2, h6, by omega⟩
  · rw [← e0]; exact h3.congr (fun i a b => (e.2.1 i a b).1)
  · rw [← e0]; exact h4.congr (fun i a b => (e.2.1 i a b).2)
/-- a state as the calls leave it -/
def PInv (g : Int → Int) : Prop :=
  0 ≤ g 0 ∧ g 0 ≤ 60 ∧ 0 ≤ g 1 ∧ g 1 ≤ 16 ∧ 0 ≤ g 2 ∧ g 2 ≤ 8 ∧ 1 ≤ g 3 ∧ g 3 ≤ 60 ∧ 1 ≤ g 4 ∧ g 4 ≤ 9 ∧
  (∀ i : Int, 0 ≤ i → i < g 0 → 0 ≤ g (5 + i) ∧ g (5 + i) ≤ 25) ∧
  (∀ i : Int, 0 ≤ i → i < g 0 → 0 ≤ g (65 + i) ∧ g (65 + i) < 65536 ∧ ∀ n : Int, isin (g (65 + i)) n → n < g 1 ∧ g (125 + 80 * n) = -6) ∧
  (∀ i : Int, 0 ≤ i → i < g 1 → (g (125 + 80 * i) = -6 ∧ 1 ≤ g (126 + 80 * i) ∧ g (126 + 80 * i) ≤ 60 ∧ 0 ≤ g (187 + 80 * i) ∧ g (187 + 80 * i) ≤ 8 ∧ 0 ≤ g (196 + 80 * i) ∧ g (196 + 80 * i) ≤ 8 ∧ (∀ j : Int, 0 ≤ j → j < g (126 + 80 * i) → 0 ≤ g (127 + 80 * i + j) ∧ g (127 + 80 * i + j) ≤ 25) ∧ (∀ j : Int, 0 ≤ j → j < g (187 + 80 * i) → 0 ≤ g (188 + 80 * i + j) ∧ g (188 + 80 * i + j) ≤ 25) ∧ (∀ j : Int, 0 ≤ j → j < g (196 + 80 * i) → 0 ≤ g (197 + 80 * i + j) ∧ g (197 + 80 * i + j) ≤ 25)) ∨ (0 ≤ g (125 + 80 * i) ∧ g (125 + 80 * i) < i))
end
